section
-- ===== PART A: goes FIRST, ahead of the names: the tables' words, and 'selects' of the private methods out of them =====
/-- a private method of a class that the tables say can be made, by its rows of tables_1 -/
def lw_okq (q : MethodName × Nat) : Prop := (q.1.cls ≠ "java/lang/invoke/MethodHandle" ∧ q.1.cls ≠ "java/lang/invoke/VarHandle") ∧ Cond.instantiable q.1.cls q.2 ∈ tables_1 ∧ Cond.privateMethod q.1 ∈ tables_1 ∧ Cond.instanceMethod q.1 ∈ tables_1
theorem lw_p0 : lw_okq (⟨"java/lang/Throwable", "fillInStackTrace", "(I)Ljava/lang/Throwable;"⟩, 6) := ⟨⟨by decide +kernel, by decide +kernel⟩, List.mem_of_getElem? (i := 93) (by decide +kernel), List.mem_of_getElem? (i := 91) (by decide +kernel), List.mem_of_getElem? (i := 92) (by decide +kernel)⟩
theorem lw_p1 : lw_okq (⟨"HarbourBoard", "appendNumber", "(ID)I"⟩, 5) := ⟨⟨by decide +kernel, by decide +kernel⟩, List.mem_of_getElem? (i := 14) (by decide +kernel), List.mem_of_getElem? (i := 132) (by decide +kernel), List.mem_of_getElem? (i := 133) (by decide +kernel)⟩
theorem lw_p2 : lw_okq (⟨"HarbourBoard", "needRoom", "(I)V"⟩, 5) := ⟨⟨by decide +kernel, by decide +kernel⟩, List.mem_of_getElem? (i := 14) (by decide +kernel), List.mem_of_getElem? (i := 136) (by decide +kernel), List.mem_of_getElem? (i := 137) (by decide +kernel)⟩
theorem lw_p3 : lw_okq (⟨"HarbourBoard", "putNumber", "(ID)Z"⟩, 5) := ⟨⟨by decide +kernel, by decide +kernel⟩, List.mem_of_getElem? (i := 14) (by decide +kernel), List.mem_of_getElem? (i := 159) (by decide +kernel), List.mem_of_getElem? (i := 160) (by decide +kernel)⟩
theorem lw_p4 : lw_okq (⟨"HarbourBoard", "appendOut", "(I)I"⟩, 5) := ⟨⟨by decide +kernel, by decide +kernel⟩, List.mem_of_getElem? (i := 14) (by decide +kernel), List.mem_of_getElem? (i := 186) (by decide +kernel), List.mem_of_getElem? (i := 187) (by decide +kernel)⟩
theorem lw_p5 : lw_okq (⟨"HarbourBoard", "putOut", "(I)Z"⟩, 5) := ⟨⟨by decide +kernel, by decide +kernel⟩, List.mem_of_getElem? (i := 14) (by decide +kernel), List.mem_of_getElem? (i := 190) (by decide +kernel), List.mem_of_getElem? (i := 191) (by decide +kernel)⟩
theorem lw_p6 : lw_okq (⟨"HarbourBoard", "emptyStrip", "(I)I"⟩, 5) := ⟨⟨by decide +kernel, by decide +kernel⟩, List.mem_of_getElem? (i := 14) (by decide +kernel), List.mem_of_getElem? (i := 201) (by decide +kernel), List.mem_of_getElem? (i := 202) (by decide +kernel)⟩
theorem lw_p7 : lw_okq (⟨"HarbourBoard", "gaugesRelatedToProbe", "(II)I"⟩, 5) := ⟨⟨by decide +kernel, by decide +kernel⟩, List.mem_of_getElem? (i := 14) (by decide +kernel), List.mem_of_getElem? (i := 241) (by decide +kernel), List.mem_of_getElem? (i := 242) (by decide +kernel)⟩
theorem lw_p8 : lw_okq (⟨"HarbourBoard", "latestPlace", "(II)I"⟩, 5) := ⟨⟨by decide +kernel, by decide +kernel⟩, List.mem_of_getElem? (i := 14) (by decide +kernel), List.mem_of_getElem? (i := 245) (by decide +kernel), List.mem_of_getElem? (i := 246) (by decide +kernel)⟩
theorem lw_p9 : lw_okq (⟨"HarbourBoard", "isRelated", "(III)Z"⟩, 5) := ⟨⟨by decide +kernel, by decide +kernel⟩, List.mem_of_getElem? (i := 14) (by decide +kernel), List.mem_of_getElem? (i := 249) (by decide +kernel), List.mem_of_getElem? (i := 250) (by decide +kernel)⟩
theorem lw_p10 : lw_okq (⟨"HarbourBoard", "runBack", "(III)I"⟩, 5) := ⟨⟨by decide +kernel, by decide +kernel⟩, List.mem_of_getElem? (i := 14) (by decide +kernel), List.mem_of_getElem? (i := 278) (by decide +kernel), List.mem_of_getElem? (i := 279) (by decide +kernel)⟩
theorem lw_p11 : lw_okq (⟨"HarbourBoard", "runAhead", "(III)I"⟩, 5) := ⟨⟨by decide +kernel, by decide +kernel⟩, List.mem_of_getElem? (i := 14) (by decide +kernel), List.mem_of_getElem? (i := 282) (by decide +kernel), List.mem_of_getElem? (i := 283) (by decide +kernel)⟩
theorem lw_p12 : lw_okq (⟨"HarbourBoard", "standOfLevel", "(I)I"⟩, 5) := ⟨⟨by decide +kernel, by decide +kernel⟩, List.mem_of_getElem? (i := 14) (by decide +kernel), List.mem_of_getElem? (i := 314) (by decide +kernel), List.mem_of_getElem? (i := 315) (by decide +kernel)⟩
theorem lw_p13 : lw_okq (⟨"HarbourBoard", "standOfWind", "(I)I"⟩, 5) := ⟨⟨by decide +kernel, by decide +kernel⟩, List.mem_of_getElem? (i := 14) (by decide +kernel), List.mem_of_getElem? (i := 318) (by decide +kernel), List.mem_of_getElem? (i := 319) (by decide +kernel)⟩
theorem lw_p14 : lw_okq (⟨"HarbourBoard", "gaugesAheadOf", "(I)I"⟩, 5) := ⟨⟨by decide +kernel, by decide +kernel⟩, List.mem_of_getElem? (i := 14) (by decide +kernel), List.mem_of_getElem? (i := 330) (by decide +kernel), List.mem_of_getElem? (i := 331) (by decide +kernel)⟩
theorem lw_p15 : lw_okq (⟨"HarbourBoard", "isAhead", "(II)Z"⟩, 5) := ⟨⟨by decide +kernel, by decide +kernel⟩, List.mem_of_getElem? (i := 14) (by decide +kernel), List.mem_of_getElem? (i := 334) (by decide +kernel), List.mem_of_getElem? (i := 335) (by decide +kernel)⟩
def lw_privs_1 : List (MethodName × Nat) := [(⟨"java/lang/Throwable", "fillInStackTrace", "(I)Ljava/lang/Throwable;"⟩, 6), (⟨"HarbourBoard", "appendNumber", "(ID)I"⟩, 5), (⟨"HarbourBoard", "needRoom", "(I)V"⟩, 5), (⟨"HarbourBoard", "putNumber", "(ID)Z"⟩, 5), (⟨"HarbourBoard", "appendOut", "(I)I"⟩, 5), (⟨"HarbourBoard", "putOut", "(I)Z"⟩, 5), (⟨"HarbourBoard", "emptyStrip", "(I)I"⟩, 5), (⟨"HarbourBoard", "gaugesRelatedToProbe", "(II)I"⟩, 5), (⟨"HarbourBoard", "latestPlace", "(II)I"⟩, 5), (⟨"HarbourBoard", "isRelated", "(III)Z"⟩, 5), (⟨"HarbourBoard", "runBack", "(III)I"⟩, 5), (⟨"HarbourBoard", "runAhead", "(III)I"⟩, 5), (⟨"HarbourBoard", "standOfLevel", "(I)I"⟩, 5), (⟨"HarbourBoard", "standOfWind", "(I)I"⟩, 5), (⟨"HarbourBoard", "gaugesAheadOf", "(I)I"⟩, 5), (⟨"HarbourBoard", "isAhead", "(II)Z"⟩, 5)]
theorem lw_r1 : ∀ q ∈ lw_privs_1, lw_okq q := List.forall_mem_cons.mpr ⟨lw_p0, List.forall_mem_cons.mpr ⟨lw_p1, List.forall_mem_cons.mpr ⟨lw_p2, List.forall_mem_cons.mpr ⟨lw_p3, List.forall_mem_cons.mpr ⟨lw_p4, List.forall_mem_cons.mpr ⟨lw_p5, List.forall_mem_cons.mpr ⟨lw_p6, List.forall_mem_cons.mpr ⟨lw_p7, List.forall_mem_cons.mpr ⟨lw_p8, List.forall_mem_cons.mpr ⟨lw_p9, List.forall_mem_cons.mpr ⟨lw_p10, List.forall_mem_cons.mpr ⟨lw_p11, List.forall_mem_cons.mpr ⟨lw_p12, List.forall_mem_cons.mpr ⟨lw_p13, List.forall_mem_cons.mpr ⟨lw_p14, List.forall_mem_cons.mpr ⟨lw_p15, fun _ h => absurd h List.not_mem_nil⟩⟩⟩⟩⟩⟩⟩⟩⟩⟩⟩⟩⟩⟩⟩⟩
theorem lw_p16 : lw_okq (⟨"HarbourBoard", "likenessOf", "(II)I"⟩, 5) := ⟨⟨by decide +kernel, by decide +kernel⟩, List.mem_of_getElem? (i := 14) (by decide +kernel), List.mem_of_getElem? (i := 338) (by decide +kernel), List.mem_of_getElem? (i := 339) (by decide +kernel)⟩
theorem lw_p17 : lw_okq (⟨"HarbourBoard", "extremePlace", "(II)I"⟩, 5) := ⟨⟨by decide +kernel, by decide +kernel⟩, List.mem_of_getElem? (i := 14) (by decide +kernel), List.mem_of_getElem? (i := 350) (by decide +kernel), List.mem_of_getElem? (i := 351) (by decide +kernel)⟩
theorem lw_p18 : lw_okq (⟨"HarbourBoard", "needMayOpen", "()V"⟩, 5) := ⟨⟨by decide +kernel, by decide +kernel⟩, List.mem_of_getElem? (i := 14) (by decide +kernel), List.mem_of_getElem? (i := 415) (by decide +kernel), List.mem_of_getElem? (i := 416) (by decide +kernel)⟩
theorem lw_p19 : lw_okq (⟨"HarbourBoard", "needMayShut", "()V"⟩, 5) := ⟨⟨by decide +kernel, by decide +kernel⟩, List.mem_of_getElem? (i := 14) (by decide +kernel), List.mem_of_getElem? (i := 438) (by decide +kernel), List.mem_of_getElem? (i := 439) (by decide +kernel)⟩
theorem lw_p20 : lw_okq (⟨"HarbourBoardModel", "throwing", "(ZZZ)Z"⟩, 10) := ⟨⟨by decide +kernel, by decide +kernel⟩, List.mem_of_getElem? (i := 451) (by decide +kernel), List.mem_of_getElem? (i := 504) (by decide +kernel), List.mem_of_getElem? (i := 505) (by decide +kernel)⟩
theorem lw_p21 : lw_okq (⟨"HarbourBoardModel", "comes", "(IZD)I"⟩, 10) := ⟨⟨by decide +kernel, by decide +kernel⟩, List.mem_of_getElem? (i := 451) (by decide +kernel), List.mem_of_getElem? (i := 508) (by decide +kernel), List.mem_of_getElem? (i := 509) (by decide +kernel)⟩
theorem lw_p22 : lw_okq (⟨"HarbourBoardModel", "marks", "(IZD)Z"⟩, 10) := ⟨⟨by decide +kernel, by decide +kernel⟩, List.mem_of_getElem? (i := 451) (by decide +kernel), List.mem_of_getElem? (i := 532) (by decide +kernel), List.mem_of_getElem? (i := 533) (by decide +kernel)⟩
theorem lw_p23 : lw_okq (⟨"HarbourBoardModel", "probes", "(IZDI)I"⟩, 10) := ⟨⟨by decide +kernel, by decide +kernel⟩, List.mem_of_getElem? (i := 451) (by decide +kernel), List.mem_of_getElem? (i := 548) (by decide +kernel), List.mem_of_getElem? (i := 549) (by decide +kernel)⟩
theorem lw_p24 : lw_okq (⟨"HarbourBoardModel", "latestOut", "(I)Z"⟩, 10) := ⟨⟨by decide +kernel, by decide +kernel⟩, List.mem_of_getElem? (i := 451) (by decide +kernel), List.mem_of_getElem? (i := 552) (by decide +kernel), List.mem_of_getElem? (i := 553) (by decide +kernel)⟩
theorem lw_p25 : lw_okq (⟨"HarbourBoardModel", "latest", "(I)I"⟩, 10) := ⟨⟨by decide +kernel, by decide +kernel⟩, List.mem_of_getElem? (i := 451) (by decide +kernel), List.mem_of_getElem? (i := 556) (by decide +kernel), List.mem_of_getElem? (i := 557) (by decide +kernel)⟩
theorem lw_p26 : lw_okq (⟨"HarbourBoardModel", "latestValue", "(I)D"⟩, 10) := ⟨⟨by decide +kernel, by decide +kernel⟩, List.mem_of_getElem? (i := 451) (by decide +kernel), List.mem_of_getElem? (i := 560) (by decide +kernel), List.mem_of_getElem? (i := 561) (by decide +kernel)⟩
theorem lw_p27 : lw_okq (⟨"HarbourBoardModel", "probeWay", "(II)I"⟩, 10) := ⟨⟨by decide +kernel, by decide +kernel⟩, List.mem_of_getElem? (i := 451) (by decide +kernel), List.mem_of_getElem? (i := 585) (by decide +kernel), List.mem_of_getElem? (i := 586) (by decide +kernel)⟩
theorem lw_p28 : lw_okq (⟨"HarbourBoardModel", "latestWay", "(II)I"⟩, 10) := ⟨⟨by decide +kernel, by decide +kernel⟩, List.mem_of_getElem? (i := 451) (by decide +kernel), List.mem_of_getElem? (i := 597) (by decide +kernel), List.mem_of_getElem? (i := 598) (by decide +kernel)⟩
theorem lw_p29 : lw_okq (⟨"HarbourBoardModel", "markWay", "(II)I"⟩, 10) := ⟨⟨by decide +kernel, by decide +kernel⟩, List.mem_of_getElem? (i := 451) (by decide +kernel), List.mem_of_getElem? (i := 609) (by decide +kernel), List.mem_of_getElem? (i := 610) (by decide +kernel)⟩
theorem lw_p30 : lw_okq (⟨"HarbourBoardModel", "levelStand", "(I)I"⟩, 10) := ⟨⟨by decide +kernel, by decide +kernel⟩, List.mem_of_getElem? (i := 451) (by decide +kernel), List.mem_of_getElem? (i := 613) (by decide +kernel), List.mem_of_getElem? (i := 614) (by decide +kernel)⟩
theorem lw_p31 : lw_okq (⟨"HarbourBoardModel", "isAhead", "(II)Z"⟩, 10) := ⟨⟨by decide +kernel, by decide +kernel⟩, List.mem_of_getElem? (i := 451) (by decide +kernel), List.mem_of_getElem? (i := 621) (by decide +kernel), List.mem_of_getElem? (i := 622) (by decide +kernel)⟩
def lw_privs_2 : List (MethodName × Nat) := [(⟨"HarbourBoard", "likenessOf", "(II)I"⟩, 5), (⟨"HarbourBoard", "extremePlace", "(II)I"⟩, 5), (⟨"HarbourBoard", "needMayOpen", "()V"⟩, 5), (⟨"HarbourBoard", "needMayShut", "()V"⟩, 5), (⟨"HarbourBoardModel", "throwing", "(ZZZ)Z"⟩, 10), (⟨"HarbourBoardModel", "comes", "(IZD)I"⟩, 10), (⟨"HarbourBoardModel", "marks", "(IZD)Z"⟩, 10), (⟨"HarbourBoardModel", "probes", "(IZDI)I"⟩, 10), (⟨"HarbourBoardModel", "latestOut", "(I)Z"⟩, 10), (⟨"HarbourBoardModel", "latest", "(I)I"⟩, 10), (⟨"HarbourBoardModel", "latestValue", "(I)D"⟩, 10), (⟨"HarbourBoardModel", "probeWay", "(II)I"⟩, 10), (⟨"HarbourBoardModel", "latestWay", "(II)I"⟩, 10), (⟨"HarbourBoardModel", "markWay", "(II)I"⟩, 10), (⟨"HarbourBoardModel", "levelStand", "(I)I"⟩, 10), (⟨"HarbourBoardModel", "isAhead", "(II)Z"⟩, 10)]
theorem lw_r2 : ∀ q ∈ lw_privs_2, lw_okq q := List.forall_mem_cons.mpr ⟨lw_p16, List.forall_mem_cons.mpr ⟨lw_p17, List.forall_mem_cons.mpr ⟨lw_p18, List.forall_mem_cons.mpr ⟨lw_p19, List.forall_mem_cons.mpr ⟨lw_p20, List.forall_mem_cons.mpr ⟨lw_p21, List.forall_mem_cons.mpr ⟨lw_p22, List.forall_mem_cons.mpr ⟨lw_p23, List.forall_mem_cons.mpr ⟨lw_p24, List.forall_mem_cons.mpr ⟨lw_p25, List.forall_mem_cons.mpr ⟨lw_p26, List.forall_mem_cons.mpr ⟨lw_p27, List.forall_mem_cons.mpr ⟨lw_p28, List.forall_mem_cons.mpr ⟨lw_p29, List.forall_mem_cons.mpr ⟨lw_p30, List.forall_mem_cons.mpr ⟨lw_p31, fun _ h => absurd h List.not_mem_nil⟩⟩⟩⟩⟩⟩⟩⟩⟩⟩⟩⟩⟩⟩⟩⟩
theorem lw_p32 : lw_okq (⟨"HarbourBoardModel", "best", "(II)I"⟩, 10) := ⟨⟨by decide +kernel, by decide +kernel⟩, List.mem_of_getElem? (i := 451) (by decide +kernel), List.mem_of_getElem? (i := 629) (by decide +kernel), List.mem_of_getElem? (i := 630) (by decide +kernel)⟩
def lw_privs_3 : List (MethodName × Nat) := [(⟨"HarbourBoardModel", "best", "(II)I"⟩, 10)]
theorem lw_r3 : ∀ q ∈ lw_privs_3, lw_okq q := List.forall_mem_cons.mpr ⟨lw_p32, fun _ h => absurd h List.not_mem_nil⟩
def lw_privs : List (MethodName × Nat) := lw_privs_1 ++ (lw_privs_2 ++ (lw_privs_3))
def lw_tbl : List Cond := k2_sels lw_privs ++ tables_1
theorem lw_privs_ok : ∀ q ∈ lw_privs, lw_okq q := by
  show ∀ q ∈ lw_privs_1 ++ (lw_privs_2 ++ (lw_privs_3)), lw_okq q
  exact List.forall_mem_append.mpr ⟨lw_r1, List.forall_mem_append.mpr ⟨lw_r2, lw_r3⟩⟩
/-- the streams that the claim lets the run draw from -/
abbrev lw_cs : List Choice := [Jvm.Choice.named "NaN.bits"]
theorem lw_bits : nanBits ∈ lw_cs := by first | decide | exact List.mem_cons_self | simp [lw_cs, nanBits]
-- ===== end of PART A; then your names; then what follows =====
end
section
/-! A thrown object caught by a row of the frame's own table, behind rows that are passed: the fact that vx_catch needs, proved here because the library's own (Shelf42) isn't among what a round imports. -/
section CX
def cx_Finds (e : Env) (s : State) (f : JFrame) (a : Addr) (h : Handler) (vm' : Vm) : Prop :=
  ∀ (Q : Handler → Pre) (E : CtlPost) (d : Bool) (acts : List Action), wp (findHandler f a) Q E e d acts s ↔ Q h d acts (s.setVm vm')
def cx_Passed (pl : Platform) (s₀ : State) (d : ClassId) (pc : Nat) (thrown : ClassId) (y : ExceptionTableEntry) : Prop :=
  covers y pc = false ∨ (y.catchType ≠ 0 ∧ ∃ c, s₀.vm.ClassLinks pl d y.catchType c ∧ s₀.vm.assignable thrown c = false)
theorem cx_one {Q : Handler → Pre} {E : CtlPost} {e : Env} {d : Bool} {acts : List Action} {s : State} {f : JFrame} {a : Addr} {x : ExceptionTableEntry} {t : List ExceptionTableEntry} {c : ClassId} {cell : Cell} (hx : covers x f.pc = true) (h0 : x.catchType ≠ 0)
    (hl : s.vm.ClassLinks e.platform f.method.cls x.catchType c) (hcell : s.heap[a]? = some cell) (hobj : ∀ k, cell.vm ≠ .statics k)
    (hk : ∃ k, s.vm.classes[cell.cls]? = some k) (hc : ∃ k, s.vm.classes[c]? = some k) (b : Bool) (hfit : s.vm.assignable cell.cls c = b) :
    wp (findHandler.go f a (x :: t)) Q E e d acts s ↔ (if b = true then Q (.found x.handlerPc) d acts (s.setVm (s.vm.noted f.method.cls x.catchType (.cls c))) else wp (findHandler.go f a t) Q E e d acts (s.setVm (s.vm.noted f.method.cls x.catchType (.cls c)))) := by
  simp only [covers] at hx
  obtain ⟨ha, ht⟩ := (resolveClass_links e.toSetting hl).op (op := VmOp.resolveClass f.method.cls x.catchType) rfl
  have hal : s.vm.Alike (s.vm.noted f.method.cls x.catchType (.cls c)) := (Vm.Alike.refl s.vm).noted _ _ _
  obtain ⟨k1, hk1⟩ := hk
  obtain ⟨k2, hk2⟩ := hc
  obtain ⟨k1', hk1', -⟩ := hal.2.2 _ _ hk1
  obtain ⟨k2', hk2', -⟩ := hal.2.2 _ _ hk2
  have hfit' : (s.vm.noted f.method.cls x.catchType (.cls c)).assignable cell.cls c = b := by rw [hal.assignable]; exact hfit
  cases b <;> simp [findHandler.go, hx, h0, ha, ht, hcell, hobj, hk1', hk2', hfit', VmOp.dirties, VmOp.acts]
theorem cx_go {e : Env} {s₀ : State} {f : JFrame} {a : Addr} {cell : Cell} (hobj : ∀ k, cell.vm ≠ .statics k) (hk0 : ∃ k, s₀.vm.classes[cell.cls]? = some k)
    (x : ExceptionTableEntry) (rest : List ExceptionTableEntry) (hx : covers x f.pc = true) (h0 : x.catchType ≠ 0) {c : ClassId} (hl : s₀.vm.ClassLinks e.platform f.method.cls x.catchType c) (hfit : s₀.vm.assignable cell.cls c = true) :
    ∀ (pre : List ExceptionTableEntry) (S : State), s₀.WarmedH S.vm → S.heap[a]? = some cell → (∀ y ∈ pre, cx_Passed e.platform s₀ f.method.cls f.pc cell.cls y) →
      ∃ vm', s₀.WarmedH vm' ∧ ∀ (Q : Handler → Pre) (E : CtlPost) (d : Bool) (acts : List Action), wp (findHandler.go f a (pre ++ x :: rest)) Q E e d acts S ↔ Q (.found x.handlerPc) d acts (S.setVm vm') := by
  obtain ⟨k0, hk0⟩ := hk0
  intro pre
  induction pre with
  | nil =>
    intro S hW hcell _
    obtain ⟨k0', hk0', -⟩ := hW.alike.2.2 _ _ hk0
    obtain ⟨dk, _, _, kt, hd, _, _, _, _, hkt, _, hopen⟩ := hl.here
    obtain ⟨kt', hkt', -⟩ := hW.alike.2.2 _ _ hkt
    exact ⟨_, hW.noted hd hopen (State.rightAt_cls hl), fun Q E d acts => by
      rw [List.nil_append]
      exact (cx_one hx h0 (hW.classLinks hl) hcell hobj ⟨k0', hk0'⟩ ⟨kt', hkt'⟩ true (by rw [hW.alike.assignable]; exact hfit)).trans (by rw [if_pos rfl])⟩
  | cons y ys ih =>
    intro S hW hcell hpass
    obtain ⟨k0', hk0', -⟩ := hW.alike.2.2 _ _ hk0
    have hrest : ∀ z ∈ ys, cx_Passed e.platform s₀ f.method.cls f.pc cell.cls z := fun z hz => hpass z (List.mem_cons_of_mem _ hz)
    by_cases hcov : covers y f.pc = true
    · rcases hpass y (List.mem_cons_self ..) with h | ⟨h1, c1, hl1, hno⟩
      · rw [h] at hcov; cases hcov
      · obtain ⟨dk, _, _, kt, hd, _, _, _, _, hkt, _, hopen⟩ := hl1.here
        obtain ⟨kt', hkt', -⟩ := hW.alike.2.2 _ _ hkt
        obtain ⟨vm', hW', hq⟩ := ih (S.setVm (S.vm.noted f.method.cls y.catchType (.cls c1))) (hW.noted hd hopen (State.rightAt_cls hl1)) hcell hrest
        exact ⟨vm', hW', fun Q E d acts => by
          rw [List.cons_append]
          exact ((cx_one hcov h1 (hW.classLinks hl1) hcell hobj ⟨k0', hk0'⟩ ⟨kt', hkt'⟩ false (by rw [hW.alike.assignable]; exact hno)).trans (by rw [if_neg (by decide)])).trans (hq Q E d acts)⟩
    · obtain ⟨vm', hW', hq⟩ := ih S hW hcell hrest
      exact ⟨vm', hW', fun Q E d acts => by
        rw [List.cons_append, W.findHandler_go_skip (by simpa using hcov)]
        exact hq Q E d acts⟩
theorem cx_catchTo {e : Env} {s : State} {a : Addr} {f : JFrame} {r : List Frame} {pc : Nat} {vm' : Vm} (hfind : cx_Finds e s f a (.found pc) vm') :
    (stepThrowing e s a (.java f :: r)).Is ((s.setVm vm').setFrames (.java { f with pc := pc, stack := [.ref a] } :: r)) [] := by
  simp only [stepThrowing, searchFrame, vmDo]
  generalize hr : Sem.go _ e false [] s = res
  obtain ⟨as, rfl, ha⟩ := Sem.eq_ok_of hr (a := Handler.found pc) (s' := s.setVm vm') (acts' := []) (by simp [hfind _ _ _ _])
  exact ⟨rfl, ha⟩
theorem cx_fr (u : State) (vm' : Vm) (F G : List Frame) : ((u.setFrames F).setVm vm').setFrames G = (u.setVm vm').setFrames G := by
  have h1 : (u.setFrames F).setVm vm' = (u.setVm vm').setFrames F := rfl
  rw [h1, State.setFrames_setFrames]
theorem cx_caughtTo {tb : Tables} {e : Env} {s target : State} {g : JFrame} {c : Code} {below : List Frame} {a : Addr} (h : At s g.method c below) {pc : Nat} {vm' : Vm}
    (hfind : cx_Finds e ((s.setTop g).pushFrame (.throwing a)) g a (.found pc) vm') (hrest : Steps tb e below ((s.setVm vm').setTop { g with pc := pc, stack := [.ref a] }) target) :
    Steps tb e below ((s.setTop g).pushFrame (.throwing a)) target := by
  obtain ⟨hgo, hw⟩ := h.throwing a
  refine Steps.head hgo hw ?_
  rw [stepThread_throwing (frames_entered h.top _), (cx_catchTo (s := (s.setTop g).pushFrame (.throwing a)) hfind).1]
  obtain ⟨g₀, hg⟩ := Option.isSome_iff_exists.mp h.top
  obtain ⟨r, hr⟩ := State.topJava?_eq_some.mp hg
  have hr' : (s.setVm vm').frames = .java g₀ :: r := hr
  rw [State.setTop_of_frames _ hr'] at hrest
  rw [hr, List.tail_cons, State.pushFrame, cx_fr, State.setTop_of_frames _ hr, cx_fr]
  exact hrest
theorem cx_thenCaught {p : Program} {l : Launch} {e : Env} {R : Room} {s : State} {m₀ : MethodId} {args : Array Value} {below : List Frame} {meth : Method} {c : Code} {T : State} {locs : List Loc} {cells slots : Nat}
    (X : Stand p l e R s m₀ args below meth c T locs cells slots) (a : Addr) {g : JFrame} (hg : g.method = m₀)
    {cell : Cell} (hcell : T.heap[a]? = some cell) (hobj : cell.vm.isStatics = false) (hk0 : ∃ k, s.vm.classes[cell.cls]? = some k)
    (pre : List ExceptionTableEntry) (x : ExceptionTableEntry) (rest : List ExceptionTableEntry) (hsplit : c.exceptionTable.toList = pre ++ x :: rest)
    (hpass : ∀ y ∈ pre, cx_Passed e.platform s m₀.cls g.pc cell.cls y) (hx : covers x g.pc = true) (h0 : x.catchType ≠ 0) {cT : ClassId} (hl : s.vm.ClassLinks e.platform m₀.cls x.catchType cT) (hfit : s.vm.assignable cell.cls cT = true) :
    ∃ vm', Stand p l e R s m₀ args below meth c (T.setVm vm') locs cells slots ∧ Steps p.tables e below ((T.setTop g).pushFrame (.throwing a)) ((T.setVm vm').setTop { g with pc := x.handlerPc, stack := [.ref a] }) := by
  subst hg
  obtain ⟨vm', hW', hq⟩ := cx_go (e := e) (s₀ := s) (f := g) (a := a) (cell := cell) (VmData.ne_statics_of hobj) hk0 x rest hx h0 hl hfit pre ((T.setTop g).pushFrame (.throwing a)) X.warmed hcell hpass
  refine ⟨vm', X.noted hW', ?_⟩
  refine cx_caughtTo X.here (vm' := vm') (fun Q E d acts => ?_) (Steps.refl _)
  rw [W.findHandler_eq (s := (T.setTop g).pushFrame (.throwing a)) (meth := meth) (code := c) X.method' X.code, hsplit]
  exact hq Q E d acts
end CX
end
section
/-! ===== BEGIN words of one list among another's, by their places ===== -/
theorem goodIn_r {big : List Cond} (ws : List Cond) (ps : List Nat) (hp : ws = ps.filterMap (fun i => big[i]?)) (h : ws.all goodWord = true) : GoodIn big ws := by
  intro w hw
  have h1 := List.all_eq_true.mp h w hw
  rw [hp] at hw
  obtain ⟨i, -, hi⟩ := List.mem_filterMap.mp hw
  have hm : w ∈ big := by first | exact List.mem_of_getElem? hi | exact List.getElem?_mem hi
  exact ⟨hm, good_of_word h1⟩
theorem goodIn_app {big a b : List Cond} (ha : GoodIn big a) (hb : GoodIn big b) : GoodIn big (a ++ b) := fun w h => (List.mem_append.mp h).elim (ha w) (hb w)
theorem goodIn_ca {big a b : List Cond} {c : Cond} (ha : GoodIn big (c :: a)) (hb : GoodIn big b) : GoodIn big (c :: (a ++ b)) := fun w h => (List.mem_cons.mp h).elim (fun e => ha w (List.mem_cons.mpr (Or.inl e))) (fun h => (List.mem_append.mp h).elim (fun h => ha w (List.mem_cons.mpr (Or.inr h))) (hb w))
theorem goodIn_sub {big ws : List Cond} (hm : ∀ w ∈ ws, w ∈ big) (h : ws.all goodWord = true) : GoodIn big ws := fun w hw => ⟨hm w hw, good_of_word (List.all_eq_true.mp h w hw)⟩
/-! ===== END ===== -/

/-! ===== BEGIN exceptions that leave a method, and their catching by the caller (launches without stack traces) ===== -/
section VXA
/-! The laws vx_back, vx_callV, vx_callS, vx_callSW, vx_throw0, vx_throwS follow proofs of the library, with one case more: JvmDerived/Free/Laws.lean (Back.of_free), Shelf42/LK1.lean (callV, callS), Shelf/KitTraced.lean (throwNew0V, throwNewS). -/
/-- where a method has thrown q: the class by its name, the cell, what was written, the world -/
def vx_T (XC : String → State → State → Prop) (st : State) (q : Addr) (t : State) (mc ms : Nat) (free : Addr → Prop) : Prop :=
  ∃ (E : String) (ce : Cell) (L : List Loc), XC E st t ∧ t.heap[q]? = some ce ∧ ce.vm = .none ∧ st.vm.findClass E = some ce.cls ∧ st.WarmedH t.vm ∧ st.sameButNew ({ t with vm := st.vm } : State) L mc ms ∧ ∀ z ∈ L, free z.base
def vx_Q (Qc : Array Value → State → Outcome → State → Prop) (XC : String → State → State → Prop) (mc ms : Nat) (free : Addr → Prop) : Array Value → State → Outcome → State → Prop := fun a st o t =>
  (Qc a st o t ∧ ∃ L, FrameEnd st o t L mc ms ∧ ∀ q ∈ L, free q.base) ∨ ∃ q, o = .threw q ∧ vx_T XC st q t mc ms free
/-- a callee that returns or throws -/
def vx_Met (l : Launch) (y : MethodName) (ws : List Cond) (rm : Room) (Pc : Array Value → State → Prop) (Qc : Array Value → State → Outcome → State → Prop) (XC : String → State → State → Prop) (mc ms : Nat) (free : Addr → Prop) : Prop :=
  MetFree l y (headSpec ws rm) Pc (fun _ _ _ _ _ => True) (vx_Q Qc XC mc ms free)
def vx_Post (XC : String → State → State → Prop) (mc ms : Nat) (free : Addr → Prop) : Pt → Array Value → Addr → Pt → Prop := fun A a q B =>
  ∃ (g : JFrame) (mk : MethodId) (t : State) (L : List Loc) (E : String) (ce : Cell), B.U.heap = t.heap ∧ B.U.vm = t.vm ∧ XC E (A.U.calling g mk a) t ∧ t.heap[q]? = some ce ∧ ce.vm = .none ∧ A.U.vm.findClass E = some ce.cls ∧ B.locs = A.locs ++ L ∧ (∀ z ∈ L, free z.base) ∧ B.cells = A.cells + mc ∧ B.slots = A.slots + ms
def vx_Back (l : Launch) (R : Room) (p : Program) (e : Env) (below : List Frame) (s : State) (sargs : Array Value) (y : MethodName) (len W9 : Nat)
    (Pre : Pt → Array Value → Prop) (Post : Pt → Array Value → Option Value → Pt → Prop) (PostX : Pt → Array Value → Addr → Pt → Prop) : Prop :=
  ∀ (m : MethodId) (meth : Method) (c : Code) (A : Pt) (g : JFrame) (ig : Instr) (mk : MethodId) (a : Array Value),
    Stand p l e R s m sargs below meth c A.U A.locs A.cells A.slots → g.method = m → g.locals.size = c.maxLocals → decode c.code g.pc = .ok (ig, len) →
    2 * g.monitorRoom + (g.stack.map fun v => v.category).sum ≤ W9 → A.U.methodNamed? y = some mk → Pre A a →
    (∃ (v : Option Value) (B : Pt), Stand p l e R s m sargs below meth c B.U B.locs B.cells B.slots ∧ Post A a v B ∧
      Steps p.tables e below (doInvoke e (A.U.setTop g) [] mk a).1 (B.U.setTop { g with pc := g.pc + len, stack := v.toList ++ g.stack })) ∨
    (∃ (q : Addr) (B : Pt), Stand p l e R s m sargs below meth c B.U B.locs B.cells B.slots ∧ PostX A a q B ∧
      Steps p.tables e below (doInvoke e (A.U.setTop g) [] mk a).1 ((B.U.setTop g).pushFrame (.throwing q)))
section Payer
variable {l : Launch} {R : Room} {p : Program} {e : Env} {below : List Frame} {s : State} {sargs : Array Value} {y : MethodName} {len W9 : Nat}
theorem vx_back {ws : List Cond} {rm : Room} {Pc : Array Value → State → Prop} {Qc : Array Value → State → Outcome → State → Prop} {XC : String → State → State → Prop} {mc ms : Nat} {free : Addr → Prop} {bytes : ByteArray} {maxL : Nat} {ret : Option FieldType}
    (hM : vx_Met l y ws rm Pc Qc XC mc ms free) (hblind : FrameBlind Pc) (hrc : rm.cells = mc) (hrs : rm.slots = ms)
    (hframes : rm.frames + 1 ≤ R.frames) (hlocals : W9 + (maxL + 11) + rm.locals ≤ R.locals)
    (hws : ∀ w ∈ ws, ∀ a' U, s.WarmedH U.vm → w.before a' U = true) (hcode : Cond.code y bytes maxL ret ∈ ws) (hinit : ∀ a' U, s.WarmedH U.vm → (Cond.initialized y.cls).before a' U = true) :
    vx_Back l R p e below s sargs y len W9 (PreOf R mc ms Pc) (PostOf Qc mc ms free) (vx_Post XC mc ms free) := by
  intro m meth c A g ig mk a X hg hsize hdg hW hn hp
  have h1 : (headSpec ws rm).pre.before a A.U = true := atoms_intro fun w hw => hws w hw _ _ X.warmed
  have h2 : (Cond.code y bytes maxL ret).before a A.U = true := hws _ hcode _ _ X.warmed
  have h3 : (Cond.initialized y.cls).before a A.U = true := hinit _ _ X.warmed
  have h4 : A.cells + (headSpec ws rm).room.cells ≤ R.cells := by rw [show (headSpec ws rm).room.cells = mc from hrc]; exact hp.1
  have h5 : A.slots + (headSpec ws rm).room.slots ≤ R.slots := by rw [show (headSpec ws rm).room.slots = ms from hrs]; exact hp.2.1
  have hPc : Pc a (A.U.calling g mk a) := hblind _ _ _ _ hp.2.2
  obtain ⟨U, Ls, c0, s0⟩ := A
  dsimp only [Pt.U, Pt.locs, Pt.cells, Pt.slots] at h1 h2 h3 h4 h5 X hn hPc ⊢
  obtain ⟨methY, cY, hmY, hcY, -, hlY, -, -, -, -⟩ := Cond.code_spec hn h2
  obtain ⟨kY, hkY, -⟩ := className_of_methodNamed hn
  have hinitY : kY.init = .initialized := Cond.initialized_spec (findClass_of_methodNamed hn) hkY h3
  have h : At U g.method c below := by rw [hg]; exact X.here
  have hlocals9 : W9 + (maxL + 11) + (headSpec ws rm).room.locals ≤ R.locals := hlocals
  have happ : (headSpec ws rm).appliesLoose y e.platform (U.calling g mk a) = true :=
    Spec.appliesLoose_calling (g := g) h hdg hn hkY hinitY
      (X.room_calling (g := g) (R' := (headSpec ws rm).room) hsize hmY hcY hframes (by rw [hlY]; omega) h4 h5) h1
  obtain ⟨mid, hmid⟩ := h.above
  have hfr : (U.setTop g).frames = (.java g :: mid) ++ below := by rw [State.frames_setTop' g h.top, hmid]; rfl
  obtain ⟨o, s₂, hsteps, -, hend, hq⟩ := Steps.callFree hM p X.admits X.cas X.clock (acts := []) hfr happ hPc trivial
  have hq' : vx_Q Qc XC mc ms free a (U.calling g mk a) o s₂ := hq
  rw [State.frames_setTop' g h.top] at hend
  obtain ⟨g₀, hg0⟩ := Option.isSome_iff_exists.mp h.top
  obtain ⟨r, hr⟩ := State.topJava?_eq_some.mp hg0
  have hr' : (({ U with heap := s₂.heap, slotsUsed := s₂.slotsUsed } : State).setVm s₂.vm).frames = .java g₀ :: r := hr
  rcases hq' with ⟨hqc, L, hfe, hL⟩ | ⟨q, rfl, E, ce, L, hx, hce, hcv, hcl, hW₂, hsm, hL⟩
  · obtain ⟨⟨v, rfl⟩, hW₂, e2, q2, q3, q4, q5, q6⟩ := id hfe
    have e3 : s₂ = ({ (U.calling g mk a).setFrames s₂.frames with heap := s₂.heap, slotsUsed := s₂.slotsUsed } : State).setVm s₂.vm := by
      have : s₂ = ({ s₂ with vm := (U.calling g mk a).vm } : State).setVm s₂.vm := rfl
      rw [e2] at this
      exact this
    obtain ⟨c₂, i₂, len₂, hc₂, hd₂, hf₂⟩ := hend
    have hW' : U.WarmedH s₂.vm := hW₂
    have hcc : c₂ = c := by
      have h1 : s₂.code? g.method = U.code? g.method := by
        rw [State.code?_eq, State.code?_eq, hW'.alike.method?]
      exact Option.some.inj (hc₂.symm.trans (h1.trans h.code))
    subst hcc
    have hlen : len₂ = len := by rw [hdg] at hd₂; cases hd₂; rfl
    subst hlen
    have hs₂ : s₂ = (({ U with heap := s₂.heap, slotsUsed := s₂.slotsUsed } : State).setVm s₂.vm).setTop { g with pc := g.pc + len₂, stack := v.toList ++ g.stack } := by
      refine e3.trans ?_
      rw [hf₂, State.calling_eq h.top, State.setFrames_setFrames, State.setTop_of_frames _ hr', hr]
      rfl
    have hsame : U.sameButNew ({ U with heap := s₂.heap, slotsUsed := s₂.slotsUsed } : State) L mc ms := by
      refine ⟨?_, q2, q3, q4, q5, q6⟩
      obtain ⟨t, ht, -⟩ := State.frames_cons hr
      show ({ U with heap := s₂.heap, slotsUsed := s₂.slotsUsed } : State) = { U.setFrames U.frames with heap := s₂.heap, slotsUsed := s₂.slotsUsed }
      rw [State.setFrames_self ht]
    subst hg
    refine Or.inl ⟨v, ⟨(({ U with heap := s₂.heap, slotsUsed := s₂.slotsUsed } : State).setVm s₂.vm), Ls ++ L, c0 + mc, s0 + ms⟩,
      ⟨X.admits, X.cas, X.clock, X.frames, X.room, X.hears, X.method, X.code, (X.here.setHeapUsed s₂.heap s₂.slotsUsed).setVm hW'.alike, X.tail, State.WarmedH.trans X.warmed hW', X.limits, X.bytes, X.same.trans (hsame.setVm s.vm)⟩,
      ⟨g, mk, s₂, L, rfl, rfl, hqc, rfl, hL, rfl, rfl⟩, ?_⟩
    show Steps p.tables e below _ ((({ U with heap := s₂.heap, slotsUsed := s₂.slotsUsed } : State).setVm s₂.vm).setTop { g with pc := g.pc + len₂, stack := v.toList ++ g.stack })
    rw [← hs₂]
    exact hsteps
  · obtain ⟨e2, q2, q3, q4, q5, q6⟩ := id hsm
    have e3 : s₂ = ({ (U.calling g mk a).setFrames s₂.frames with heap := s₂.heap, slotsUsed := s₂.slotsUsed } : State).setVm s₂.vm := by
      have : s₂ = ({ s₂ with vm := (U.calling g mk a).vm } : State).setVm s₂.vm := rfl
      rw [e2] at this
      exact this
    have hf₂ : s₂.frames = .throwing q :: .java g :: U.frames.tail := hend
    have hW' : U.WarmedH s₂.vm := hW₂
    have hs₂ : s₂ = ((({ U with heap := s₂.heap, slotsUsed := s₂.slotsUsed } : State).setVm s₂.vm).setTop g).pushFrame (.throwing q) := by
      refine e3.trans ?_
      rw [hf₂, State.calling_eq h.top, State.setFrames_setFrames, State.pushFrame, State.frames_setTop _ hr', State.setTop_of_frames _ hr', State.setFrames_setFrames, hr]
      rfl
    have hsame : U.sameButNew ({ U with heap := s₂.heap, slotsUsed := s₂.slotsUsed } : State) L mc ms := by
      refine ⟨?_, q2, q3, q4, q5, q6⟩
      obtain ⟨t, ht, -⟩ := State.frames_cons hr
      show ({ U with heap := s₂.heap, slotsUsed := s₂.slotsUsed } : State) = { U.setFrames U.frames with heap := s₂.heap, slotsUsed := s₂.slotsUsed }
      rw [State.setFrames_self ht]
    subst hg
    refine Or.inr ⟨q, ⟨(({ U with heap := s₂.heap, slotsUsed := s₂.slotsUsed } : State).setVm s₂.vm), Ls ++ L, c0 + mc, s0 + ms⟩,
      ⟨X.admits, X.cas, X.clock, X.frames, X.room, X.hears, X.method, X.code, (X.here.setHeapUsed s₂.heap s₂.slotsUsed).setVm hW'.alike, X.tail, State.WarmedH.trans X.warmed hW', X.limits, X.bytes, X.same.trans (hsame.setVm s.vm)⟩,
      ⟨g, mk, s₂, L, E, ce, rfl, rfl, hx, hce, hcv, hcl, rfl, hL, rfl, rfl⟩, ?_⟩
    show Steps p.tables e below _ (((({ U with heap := s₂.heap, slotsUsed := s₂.slotsUsed } : State).setVm s₂.vm).setTop g).pushFrame (.throwing q))
    rw [← hs₂]
    exact hsteps
end Payer
section Calls
variable {p : Program} {l : Launch} {e : Env} {R : Room} {s : State} {m : MethodId} {args : Array Value} {below : List Frame} {meth : Method} {c : Code} {T : State} {locs : List Loc} {cells slots : Nat}
theorem vx_callV (X : Stand p l e R s m args below meth c T locs cells slots) (hexec : p.tables.exec = Jvm.exec) {own C : String} {index : Nat} {y : MethodName} {bytes : ByteArray} {maxL : Nat} {ret : Option FieldType}
    (hown : s.vm.findClass own = some m.cls) (hlink : (Cond.methodLink own index y).before args s = true) (hinst : (Cond.instanceMethod y).before args s = true) (hsel : (Cond.selects C y y).before args s = true)
    (hcode : (Cond.code y bytes maxL ret).before args s = true) (hy : y.cls ≠ "java/lang/invoke/MethodHandle" ∧ y.cls ≠ "java/lang/invoke/VarHandle")
    {W9 : Nat} {Pre : Pt → Array Value → Prop} {Post : Pt → Array Value → Option Value → Pt → Prop} {PostX : Pt → Array Value → Addr → Pt → Prop} (hK : vx_Back l R p e below s args y 3 W9 Pre Post PostX)
    {b : Addr} {cellB : Cell} (hcell : T.heap[b]? = some cellB) (hobj : cellB.vm.isStatics = false) (hcls : s.vm.findClass C = some cellB.cls)
    {g : JFrame} (hg : g.method = m) (hsize : g.locals.size = c.maxLocals) {argsL rest : List Value} (hlen : ∀ sig, parseMethodDescriptor y.desc = some sig → argsL.length = sig.parameters.length)
    (hstack : g.stack = argsL.reverse ++ .ref b :: rest) (hW : 2 * g.monitorRoom + (rest.map fun v => v.category).sum ≤ W9) (hdg : decode c.code g.pc = .ok (.invokevirtual index, 3))
    (hpre : ∀ vm₁, s.WarmedH vm₁ → Pre ⟨T.setVm vm₁, locs, cells, slots⟩ (Value.ref b :: argsL).toArray) :
    (∃ (v : Option Value) (vm₁ : Vm) (B : Pt), s.WarmedH vm₁ ∧ Stand p l e R s m args below meth c B.U B.locs B.cells B.slots ∧ Post ⟨T.setVm vm₁, locs, cells, slots⟩ (Value.ref b :: argsL).toArray v B ∧
      ∀ target, Steps p.tables e below (B.U.setTop { g with pc := g.pc + 3, stack := v.toList ++ rest }) target → Steps p.tables e below (T.setTop g) target) ∨
    (∃ (q : Addr) (vm₁ : Vm) (B : Pt), s.WarmedH vm₁ ∧ Stand p l e R s m args below meth c B.U B.locs B.cells B.slots ∧ PostX ⟨T.setVm vm₁, locs, cells, slots⟩ (Value.ref b :: argsL).toArray q B ∧
      Steps p.tables e below (T.setTop g) ((B.U.setTop { g with stack := rest }).pushFrame (.throwing q))) := by
  obtain ⟨mk, methM, hnamed, hmethM, hstM, habM⟩ := Cond.instanceMethod_spec hinst
  obtain ⟨methM', cM, hmethM', -, -, -, -, -, -, hsigM⟩ := Cond.code_spec hnamed hcode
  cases hmethM.symm.trans hmethM'
  obtain ⟨c2, r2, m2, q1, q2, q3, q4, kP, hkP, hkPi⟩ := Cond.selects_spec hsel
  cases hcls.symm.trans q1
  cases (State.methodFound?_of_named hnamed hy).symm.trans q2
  cases hnamed.symm.trans q3
  have hselP : selectMethod e.platform s.vm cellB.cls mk = .method mk := by rw [Launch.admits_selectMethod X.admits]; exact q4
  obtain ⟨vm₁, X₁, hstep₁⟩ := X.invokevirtual hexec hown hlink hnamed hmethM hstM hkP hkPi hy (a := b) (cell := cellB) hcell
    (fun z h => by rw [h] at hobj; cases hobj) hselP hmethM habM hkP hkPi (g := g) hg (argsL := argsL) (rest := rest) (hlen _ hsigM) hstack hdg
  rcases hK m meth c ⟨T.setVm vm₁, locs, cells, slots⟩ { g with stack := rest } (.invokevirtual index) mk (Value.ref b :: argsL).toArray X₁ hg hsize hdg hW (X₁.named hnamed) (hpre vm₁ X₁.warmed) with ⟨v, B, X', hpost, hsteps⟩ | ⟨q, B, X', hpost, hsteps⟩
  · exact Or.inl ⟨v, vm₁, B, X₁.warmed, X', hpost, fun target h => hstep₁ _ fun acts => by rw [doInvoke_state]; exact hsteps.trans h⟩
  · exact Or.inr ⟨q, vm₁, B, X₁.warmed, X', hpost, hstep₁ _ fun acts => by rw [doInvoke_state]; exact hsteps⟩
theorem vx_callS (X : Stand p l e R s m args below meth c T locs cells slots) (hexec : p.tables.exec = Jvm.exec) {own : String} {index : Nat} {y : MethodName} {bytes : ByteArray} {maxL : Nat} {ret : Option FieldType}
    (hown : s.vm.findClass own = some m.cls) (hlink : (Cond.methodLink own index y).before args s = true) (hstat : (Cond.static y).before args s = true) (hinit : (Cond.initialized y.cls).before args s = true)
    (hcode : (Cond.code y bytes maxL ret).before args s = true) (hy : y.cls ≠ "java/lang/invoke/MethodHandle" ∧ y.cls ≠ "java/lang/invoke/VarHandle")
    {W9 : Nat} {Pre : Pt → Array Value → Prop} {Post : Pt → Array Value → Option Value → Pt → Prop} {PostX : Pt → Array Value → Addr → Pt → Prop} (hK : vx_Back l R p e below s args y 3 W9 Pre Post PostX)
    {g : JFrame} (hg : g.method = m) (hsize : g.locals.size = c.maxLocals) {argsL rest : List Value} (hlen : ∀ sig, parseMethodDescriptor y.desc = some sig → argsL.length = sig.parameters.length)
    (hstack : g.stack = argsL.reverse ++ rest) (hW : 2 * g.monitorRoom + (rest.map fun v => v.category).sum ≤ W9) (hdg : decode c.code g.pc = .ok (.invokestatic index, 3))
    (hpre : ∀ vm₁, s.WarmedH vm₁ → Pre ⟨T.setVm vm₁, locs, cells, slots⟩ argsL.toArray) :
    (∃ (v : Option Value) (vm₁ : Vm) (B : Pt), s.WarmedH vm₁ ∧ Stand p l e R s m args below meth c B.U B.locs B.cells B.slots ∧ Post ⟨T.setVm vm₁, locs, cells, slots⟩ argsL.toArray v B ∧
      ∀ target, Steps p.tables e below (B.U.setTop { g with pc := g.pc + 3, stack := v.toList ++ rest }) target → Steps p.tables e below (T.setTop g) target) ∨
    (∃ (q : Addr) (vm₁ : Vm) (B : Pt), s.WarmedH vm₁ ∧ Stand p l e R s m args below meth c B.U B.locs B.cells B.slots ∧ PostX ⟨T.setVm vm₁, locs, cells, slots⟩ argsL.toArray q B ∧
      Steps p.tables e below (T.setTop g) ((B.U.setTop { g with stack := rest }).pushFrame (.throwing q))) := by
  obtain ⟨mk, hnamed⟩ := Cond.code_named hcode
  obtain ⟨methM, cM, hmethM, -, -, -, -, -, -, hsigM⟩ := Cond.code_spec hnamed hcode
  have hstatic : methM.isStatic = true := Cond.static_spec hnamed hmethM hstat
  obtain ⟨kP, hkP, -⟩ := className_of_methodNamed hnamed
  have hinitP : kP.init = .initialized := Cond.initialized_spec (findClass_of_methodNamed hnamed) hkP hinit
  obtain ⟨vm₁, X₁, hstep₁⟩ := X.invokestatic hexec hown hlink hnamed hmethM hstatic hkP hinitP hy (g := g) hg (argsL := argsL) (rest := rest) (hlen _ hsigM) hstack hdg
  rcases hK m meth c ⟨T.setVm vm₁, locs, cells, slots⟩ { g with stack := rest } (.invokestatic index) mk argsL.toArray X₁ hg hsize hdg hW (X₁.named hnamed) (hpre vm₁ X₁.warmed) with ⟨v, B, X', hpost, hsteps⟩ | ⟨q, B, X', hpost, hsteps⟩
  · exact Or.inl ⟨v, vm₁, B, X₁.warmed, X', hpost, fun target h => hstep₁ _ fun acts => by rw [doInvoke_state]; exact hsteps.trans h⟩
  · exact Or.inr ⟨q, vm₁, B, X₁.warmed, X', hpost, hstep₁ _ fun acts => by rw [doInvoke_state]; exact hsteps⟩
end Calls
theorem vx_cls {s : State} {T : State} {vm₁ : Vm} {E : String} {k : ClassId} (hW : s.WarmedH vm₁) (h : (T.setVm vm₁).vm.findClass E = some k) : s.vm.findClass E = some k := by
  have h1 : vm₁.findClass E = some k := h
  rw [hW.alike.findClass] at h1
  exact h1
/-- the method's frame g, with q thrown over it -/
def vx_W (p : Program) (l : Launch) (e : Env) (R : Room) (s : State) (m : MethodId) (args : Array Value) (below : List Frame) (meth : Method) (c : Code) (H : Heap) (locs : List Loc) (cells slots : Nat) (Q : State → Prop) (g : JFrame) (q : Addr) : Prop :=
  ∀ T : State, T.heap = H → Stand p l e R s m args below meth c T locs cells slots → ∃ t, Steps p.tables e below ((T.setTop g).pushFrame (.throwing q)) t ∧ Q t
def vx_Run (p : Program) (l : Launch) (e : Env) (R : Room) (s : State) (m : MethodId) (args : Array Value) (below : List Frame) (meth : Method) (c : Code) (H : Heap) (locs : List Loc) (cells slots mc ms : Nat) (g : JFrame) (rest : List Value) (Qa : State → Outcome → State → Prop) (XC : String → State → State → Prop) (free : Addr → Prop) : Prop :=
  ∀ T : State, T.heap = H → Stand p l e R s m args below meth c T locs cells slots →
    (∃ (v : Option Value) (st₀ t T' : State) (L : List Loc), st₀.heap = H ∧ Stand p l e R s m args below meth c T' (locs ++ L) (cells + mc) (slots + ms) ∧ (∀ q ∈ L, free q.base) ∧ T'.heap = t.heap ∧ T'.vm = t.vm ∧ Qa st₀ (.returned v) t ∧
      Goes p e below T g T' { g with pc := g.pc + 3, stack := v.toList ++ rest }) ∨
    (∃ (q : Addr) (st₀ t T' : State) (L : List Loc) (E : String) (ce : Cell), st₀.heap = H ∧ Stand p l e R s m args below meth c T' (locs ++ L) (cells + mc) (slots + ms) ∧ (∀ z ∈ L, free z.base) ∧ T'.heap = t.heap ∧ T'.vm = t.vm ∧ XC E st₀ t ∧ t.heap[q]? = some ce ∧ ce.vm = .none ∧ s.vm.findClass E = some ce.cls ∧
      Steps p.tables e below (T.setTop g) ((T'.setTop { g with stack := rest }).pushFrame (.throwing q)))
def vx_X {S : Type} (px : S → Prop) (B : String → S → State → Prop) (A : Nat → Prop) : String → State → State → Prop := fun E st t => ∃ u : S, px u ∧ B E u t ∧ va_F A st t
section Runs
variable {p : Program} {l : Launch} {e : Env} {R : Room} {s : State} {m : MethodId} {args : Array Value} {below : List Frame} {meth : Method} {c : Code} {H : Heap} {locs : List Loc} {cells slots : Nat}
variable {y : MethodName} {bytes cc : ByteArray} {maxL nL mc ms n index : Nat} {ret : Option FieldType} {ws : List Cond} {rm : Room} {Pc : Array Value → State → Prop} {Qc : Array Value → State → Outcome → State → Prop} {XC : String → State → State → Prop} {free : Addr → Prop} {Ts : List Cond} {own C : String} {b : Addr} {As rest : List Value} {g : JFrame}
theorem vx_callBack (cb : CallB R s args own index y bytes maxL ret ws rm mc ms n) (hM : vx_Met l y ws rm Pc Qc XC mc ms free) (hbl : FrameBlind Pc) : vx_Back l R p e below s args y 3 8 (PreOf R mc ms Pc) (PostOf Qc mc ms free) (vx_Post XC mc ms free) := by
  obtain ⟨hrc, hrs, hfr, hlo, hws, hcw, -, hini, -⟩ := cb
  exact vx_back (bytes := bytes) (maxL := maxL) (ret := ret) hM hbl hrc hrs hfr hlo hws hcw (fun a' U hW => word_at hW (Or.inl (by first | rfl | simp [Cond.onTables, Cond.keeps, Cond.steady])) hini)
theorem vx_runV (S : CallFix p m c cc nL s args Ts own) (hM : vx_Met l y ws rm Pc Qc XC mc ms free) (cw : CallW R s args own C index y bytes maxL ret ws rm mc ms n) (hp : PreV s H C b Pc As)
    (hg : g.method = m) (hn : As.length = n) (hsize : g.locals.size = nL) (hstack : g.stack = As.reverse ++ .ref b :: rest) (hW : 2 * g.monitorRoom + (rest.map fun v => v.category).sum ≤ 8) (hdg : decode cc g.pc = .ok (.invokevirtual index, 3)) (hf : cells + mc ≤ R.cells ∧ slots + ms ≤ R.slots) :
    vx_Run p l e R s m args below meth c H locs cells slots mc ms g rest (Qc (Value.ref b :: As).toArray) XC free := by
  have hK : vx_Back l R p e below s args y 3 8 (PreOf R mc ms Pc) (PostOf Qc mc ms free) (vx_Post XC mc ms free) := vx_callBack cw.1 hM hp.1
  obtain ⟨⟨-, -, -, -, -, -, hcode, -, hy, hlen, hl⟩, hin, hse⟩ := cw
  obtain ⟨hx, hb, hml, ho, -⟩ := S
  obtain ⟨-, ⟨cellB, hcB, hoB, hclB⟩, hPc⟩ := hp
  intro T hT X
  rcases vx_callV X hx (C := C) (bytes := bytes) (maxL := maxL) (ret := ret) ho hl hin hse hcode hy hK (by rw [hT]; exact hcB) hoB hclB hg (hsize.trans hml.symm) (argsL := As) (rest := rest) (fun sig h => hn.trans (hlen sig h)) hstack hW (by rw [hb]; exact hdg)
    (fun vm₁ hW₁ => ⟨hf.1, hf.2, hPc (T.setVm vm₁) hT hW₁⟩) with ⟨v, vm₁, ⟨U', l2, c2, s2⟩, hW₁, X', ⟨g', mk, t, L, e1, e2, hq, h1, hL, h2, h3⟩, st⟩ | ⟨q, vm₁, ⟨U', l2, c2, s2⟩, hW₁, X', ⟨g', mk, t, L, E, ce, e1, e2, hq, hce, hcv, hcl, h1, hL, h2, h3⟩, st⟩
  · dsimp only [Pt.U, Pt.locs, Pt.cells, Pt.slots] at X' e1 e2 h1 h2 h3 st
    subst h1; subst h2; subst h3
    exact Or.inl ⟨v, (T.setVm vm₁).calling g' mk (Value.ref b :: As).toArray, t, U', L, hT, X', hL, e1, e2, hq, st⟩
  · dsimp only [Pt.U, Pt.locs, Pt.cells, Pt.slots] at X' e1 e2 h1 h2 h3 st hcl
    subst h1; subst h2; subst h3
    exact Or.inr ⟨q, (T.setVm vm₁).calling g' mk (Value.ref b :: As).toArray, t, U', L, E, ce, hT, X', hL, e1, e2, hq, hce, hcv, vx_cls hW₁ hcl, st⟩
theorem vx_runS (S : CallFix p m c cc nL s args Ts own) (hM : vx_Met l y ws rm Pc Qc XC mc ms free) (cw : CallB R s args own index y bytes maxL ret ws rm mc ms n ∧ (Cond.static y).before args s = true) (hp : PreS s H Pc As)
    (hg : g.method = m) (hn : As.length = n) (hsize : g.locals.size = nL) (hstack : g.stack = As.reverse ++ rest) (hW : 2 * g.monitorRoom + (rest.map fun v => v.category).sum ≤ 8) (hdg : decode cc g.pc = .ok (.invokestatic index, 3)) (hf : cells + mc ≤ R.cells ∧ slots + ms ≤ R.slots) :
    vx_Run p l e R s m args below meth c H locs cells slots mc ms g rest (Qc As.toArray) XC free := by
  have hK : vx_Back l R p e below s args y 3 8 (PreOf R mc ms Pc) (PostOf Qc mc ms free) (vx_Post XC mc ms free) := vx_callBack cw.1 hM hp.1
  obtain ⟨⟨-, -, -, -, -, -, hcode, hini, hy, hlen, hl⟩, hstt⟩ := cw
  obtain ⟨hx, hb, hml, ho, -⟩ := S
  intro T hT X
  rcases vx_callS X hx (bytes := bytes) (maxL := maxL) (ret := ret) ho hl hstt hini hcode hy hK hg (hsize.trans hml.symm) (argsL := As) (rest := rest) (fun sig h => hn.trans (hlen sig h)) hstack hW (by rw [hb]; exact hdg)
    (fun vm₁ hW₁ => ⟨hf.1, hf.2, hp.2 (T.setVm vm₁) hT hW₁⟩) with ⟨v, vm₁, ⟨U', l2, c2, s2⟩, hW₁, X', ⟨g', mk, t, L, e1, e2, hq, h1, hL, h2, h3⟩, st⟩ | ⟨q, vm₁, ⟨U', l2, c2, s2⟩, hW₁, X', ⟨g', mk, t, L, E, ce, e1, e2, hq, hce, hcv, hcl, h1, hL, h2, h3⟩, st⟩
  · dsimp only [Pt.U, Pt.locs, Pt.cells, Pt.slots] at X' e1 e2 h1 h2 h3 st
    subst h1; subst h2; subst h3
    exact Or.inl ⟨v, (T.setVm vm₁).calling g' mk As.toArray, t, U', L, hT, X', hL, e1, e2, hq, st⟩
  · dsimp only [Pt.U, Pt.locs, Pt.cells, Pt.slots] at X' e1 e2 h1 h2 h3 st hcl
    subst h1; subst h2; subst h3
    exact Or.inr ⟨q, (T.setVm vm₁).calling g' mk As.toArray, t, U', L, E, ce, hT, X', hL, e1, e2, hq, hce, hcv, vx_cls hW₁ hcl, st⟩
end Runs
section Rows
variable {p : Program} {l : Launch} {e : Env} {R : Room} {s : State} {m : MethodId} {args : Array Value} {below : List Frame} {meth : Method} {c : Code} {H : Heap} {locs : List Loc} {cells slots : Nat} {Q : State → Prop}
variable {mc ms : Nat} {free : Addr → Prop} {A0 A1 : Nat → Prop} {H0 : Heap} {a : Array Value} {pc : Nat} {ls : Array Slot} {st0 rest : List Value}
theorem vx_keep {st₀ t T' : State} {L : List Loc} (h0 : st₀.heap = H) (e1 : T'.heap = t.heap) (hS : va_S A0 H0 H locs) (hA : ∀ q, q < H.size → A1 q → A0 q) (hf : ∀ q, free q → A0 q) (hL : ∀ q ∈ L, free q.base) (hF : va_F A1 st₀ t) :
    H.size ≤ T'.heap.size ∧ (∀ q : Nat, q < H.size → ¬ A1 q → T'.heap[q]? = H[q]?) ∧ va_S A0 H0 T'.heap (locs ++ L) := by
  obtain ⟨hz, hk⟩ := hF
  rw [h0] at hz hk
  exact ⟨by rw [e1]; exact hz, fun q h1 h2 => by rw [e1]; exact hk q h1 h2,
    ⟨Nat.le_trans hS.1 (by rw [e1]; exact hz), fun q h1 h2 => by rw [e1, hk q (Nat.lt_of_lt_of_le h1 hS.1) (fun z => h2 (hA q (Nat.lt_of_lt_of_le h1 hS.1) z))]; exact hS.2.1 q h1 h2, fun q hq => by
      rcases List.mem_append.mp hq with h | h
      · exact hS.2.2 q h
      · exact hf _ (hL q h)⟩⟩
theorem vx_calli {S SX : Type} {post : Int32 → S → Prop} {px : SX → Prop} {B : S → State → Prop} {BX : String → SX → State → Prop} {AX : Nat → Prop} (hr : vx_Run p l e R s m args below meth c H locs cells slots mc ms (F0 m pc ls st0) rest (va_Qi post B A1 a) (vx_X px BX AX) free) (hS : va_S A0 H0 H locs) (hA : ∀ q, q < H.size → A1 q → A0 q) (hf : ∀ q, free q → A0 q) (hAX : ∀ q, q < H.size → AX q → A0 q)
    (kx : ∀ (E : String) (ce : Cell) (q9 : Addr) (u : SX) (t : State) (H1 : Heap) (locs1 : List Loc), t.heap = H1 → s.vm.Alike t.vm → px u → BX E u t → H.size ≤ H1.size → (∀ q : Nat, q < H.size → ¬ AX q → H1[q]? = H[q]?) → va_S A0 H0 H1 locs1 → H1[q9]? = some ce → ce.vm = .none → s.vm.findClass E = some ce.cls → vx_W p l e R s m args below meth c H1 locs1 (cells + mc) (slots + ms) Q (F0 m pc ls rest) q9)
    (kk : ∀ (r : Int32) (u : S) (t : State) (H1 : Heap) (locs1 : List Loc), t.heap = H1 → s.vm.Alike t.vm → post r u → B u t → H.size ≤ H1.size → (∀ q : Nat, q < H.size → ¬ A1 q → H1[q]? = H[q]?) → va_S A0 H0 H1 locs1 → W p l e R s m args below meth c H1 locs1 (cells + mc) (slots + ms) Q (F0 m (pc + 3) ls (.int r :: rest))) : W p l e R s m args below meth c H locs cells slots Q (F0 m pc ls st0) := by
  intro T hT X
  rcases hr T hT X with ⟨v, st₀, t, T', L, h0, X', hL, e1, e2, ⟨⟨r, u, hv, hp, hb⟩, hF⟩, st⟩ | ⟨q, st₀, t, T', L, E, ce, h0, X', hL, e1, e2, ⟨u, hp, hb, hF⟩, hce, hcv, hcl, st⟩
  · cases hv
    obtain ⟨k1, k2, k3⟩ := vx_keep h0 e1 hS hA hf hL hF
    obtain ⟨t2, a1, b1⟩ := kk r u t T'.heap (locs ++ L) e1.symm (by rw [← e2]; exact X'.warmed.alike) hp hb k1 k2 k3 T' rfl X'
    exact ⟨t2, st t2 a1, b1⟩
  · obtain ⟨k1, k2, k3⟩ := vx_keep h0 e1 hS hAX hf hL hF
    obtain ⟨t2, a1, b1⟩ := kx E ce q u t T'.heap (locs ++ L) e1.symm (by rw [← e2]; exact X'.warmed.alike) hp hb k1 k2 k3 (by rw [e1]; exact hce) hcv hcl T' rfl X'
    exact ⟨t2, st.trans a1, b1⟩
theorem vx_calll {S SX : Type} {post : Int64 → S → Prop} {px : SX → Prop} {B : S → State → Prop} {BX : String → SX → State → Prop} {AX : Nat → Prop} (hr : vx_Run p l e R s m args below meth c H locs cells slots mc ms (F0 m pc ls st0) rest (va_Ql post B A1 a) (vx_X px BX AX) free) (hS : va_S A0 H0 H locs) (hA : ∀ q, q < H.size → A1 q → A0 q) (hf : ∀ q, free q → A0 q) (hAX : ∀ q, q < H.size → AX q → A0 q)
    (kx : ∀ (E : String) (ce : Cell) (q9 : Addr) (u : SX) (t : State) (H1 : Heap) (locs1 : List Loc), t.heap = H1 → s.vm.Alike t.vm → px u → BX E u t → H.size ≤ H1.size → (∀ q : Nat, q < H.size → ¬ AX q → H1[q]? = H[q]?) → va_S A0 H0 H1 locs1 → H1[q9]? = some ce → ce.vm = .none → s.vm.findClass E = some ce.cls → vx_W p l e R s m args below meth c H1 locs1 (cells + mc) (slots + ms) Q (F0 m pc ls rest) q9)
    (kk : ∀ (r : Int64) (u : S) (t : State) (H1 : Heap) (locs1 : List Loc), t.heap = H1 → s.vm.Alike t.vm → post r u → B u t → H.size ≤ H1.size → (∀ q : Nat, q < H.size → ¬ A1 q → H1[q]? = H[q]?) → va_S A0 H0 H1 locs1 → W p l e R s m args below meth c H1 locs1 (cells + mc) (slots + ms) Q (F0 m (pc + 3) ls (.long r :: rest))) : W p l e R s m args below meth c H locs cells slots Q (F0 m pc ls st0) := by
  intro T hT X
  rcases hr T hT X with ⟨v, st₀, t, T', L, h0, X', hL, e1, e2, ⟨⟨r, u, hv, hp, hb⟩, hF⟩, st⟩ | ⟨q, st₀, t, T', L, E, ce, h0, X', hL, e1, e2, ⟨u, hp, hb, hF⟩, hce, hcv, hcl, st⟩
  · cases hv
    obtain ⟨k1, k2, k3⟩ := vx_keep h0 e1 hS hA hf hL hF
    obtain ⟨t2, a1, b1⟩ := kk r u t T'.heap (locs ++ L) e1.symm (by rw [← e2]; exact X'.warmed.alike) hp hb k1 k2 k3 T' rfl X'
    exact ⟨t2, st t2 a1, b1⟩
  · obtain ⟨k1, k2, k3⟩ := vx_keep h0 e1 hS hAX hf hL hF
    obtain ⟨t2, a1, b1⟩ := kx E ce q u t T'.heap (locs ++ L) e1.symm (by rw [← e2]; exact X'.warmed.alike) hp hb k1 k2 k3 (by rw [e1]; exact hce) hcv hcl T' rfl X'
    exact ⟨t2, st.trans a1, b1⟩
theorem vx_callf {S SX : Type} {post : UInt32 → S → Prop} {px : SX → Prop} {B : S → State → Prop} {BX : String → SX → State → Prop} {AX : Nat → Prop} (hr : vx_Run p l e R s m args below meth c H locs cells slots mc ms (F0 m pc ls st0) rest (va_Qf post B A1 a) (vx_X px BX AX) free) (hS : va_S A0 H0 H locs) (hA : ∀ q, q < H.size → A1 q → A0 q) (hf : ∀ q, free q → A0 q) (hAX : ∀ q, q < H.size → AX q → A0 q)
    (kx : ∀ (E : String) (ce : Cell) (q9 : Addr) (u : SX) (t : State) (H1 : Heap) (locs1 : List Loc), t.heap = H1 → s.vm.Alike t.vm → px u → BX E u t → H.size ≤ H1.size → (∀ q : Nat, q < H.size → ¬ AX q → H1[q]? = H[q]?) → va_S A0 H0 H1 locs1 → H1[q9]? = some ce → ce.vm = .none → s.vm.findClass E = some ce.cls → vx_W p l e R s m args below meth c H1 locs1 (cells + mc) (slots + ms) Q (F0 m pc ls rest) q9)
    (kk : ∀ (r : UInt32) (u : S) (t : State) (H1 : Heap) (locs1 : List Loc), t.heap = H1 → s.vm.Alike t.vm → post r u → B u t → H.size ≤ H1.size → (∀ q : Nat, q < H.size → ¬ A1 q → H1[q]? = H[q]?) → va_S A0 H0 H1 locs1 → W p l e R s m args below meth c H1 locs1 (cells + mc) (slots + ms) Q (F0 m (pc + 3) ls (.float r :: rest))) : W p l e R s m args below meth c H locs cells slots Q (F0 m pc ls st0) := by
  intro T hT X
  rcases hr T hT X with ⟨v, st₀, t, T', L, h0, X', hL, e1, e2, ⟨⟨r, u, hv, hp, hb⟩, hF⟩, st⟩ | ⟨q, st₀, t, T', L, E, ce, h0, X', hL, e1, e2, ⟨u, hp, hb, hF⟩, hce, hcv, hcl, st⟩
  · cases hv
    obtain ⟨k1, k2, k3⟩ := vx_keep h0 e1 hS hA hf hL hF
    obtain ⟨t2, a1, b1⟩ := kk r u t T'.heap (locs ++ L) e1.symm (by rw [← e2]; exact X'.warmed.alike) hp hb k1 k2 k3 T' rfl X'
    exact ⟨t2, st t2 a1, b1⟩
  · obtain ⟨k1, k2, k3⟩ := vx_keep h0 e1 hS hAX hf hL hF
    obtain ⟨t2, a1, b1⟩ := kx E ce q u t T'.heap (locs ++ L) e1.symm (by rw [← e2]; exact X'.warmed.alike) hp hb k1 k2 k3 (by rw [e1]; exact hce) hcv hcl T' rfl X'
    exact ⟨t2, st.trans a1, b1⟩
theorem vx_calld {S SX : Type} {post : UInt64 → S → Prop} {px : SX → Prop} {B : S → State → Prop} {BX : String → SX → State → Prop} {AX : Nat → Prop} (hr : vx_Run p l e R s m args below meth c H locs cells slots mc ms (F0 m pc ls st0) rest (va_Qd post B A1 a) (vx_X px BX AX) free) (hS : va_S A0 H0 H locs) (hA : ∀ q, q < H.size → A1 q → A0 q) (hf : ∀ q, free q → A0 q) (hAX : ∀ q, q < H.size → AX q → A0 q)
    (kx : ∀ (E : String) (ce : Cell) (q9 : Addr) (u : SX) (t : State) (H1 : Heap) (locs1 : List Loc), t.heap = H1 → s.vm.Alike t.vm → px u → BX E u t → H.size ≤ H1.size → (∀ q : Nat, q < H.size → ¬ AX q → H1[q]? = H[q]?) → va_S A0 H0 H1 locs1 → H1[q9]? = some ce → ce.vm = .none → s.vm.findClass E = some ce.cls → vx_W p l e R s m args below meth c H1 locs1 (cells + mc) (slots + ms) Q (F0 m pc ls rest) q9)
    (kk : ∀ (r : UInt64) (u : S) (t : State) (H1 : Heap) (locs1 : List Loc), t.heap = H1 → s.vm.Alike t.vm → post r u → B u t → H.size ≤ H1.size → (∀ q : Nat, q < H.size → ¬ A1 q → H1[q]? = H[q]?) → va_S A0 H0 H1 locs1 → W p l e R s m args below meth c H1 locs1 (cells + mc) (slots + ms) Q (F0 m (pc + 3) ls (.double r :: rest))) : W p l e R s m args below meth c H locs cells slots Q (F0 m pc ls st0) := by
  intro T hT X
  rcases hr T hT X with ⟨v, st₀, t, T', L, h0, X', hL, e1, e2, ⟨⟨r, u, hv, hp, hb⟩, hF⟩, st⟩ | ⟨q, st₀, t, T', L, E, ce, h0, X', hL, e1, e2, ⟨u, hp, hb, hF⟩, hce, hcv, hcl, st⟩
  · cases hv
    obtain ⟨k1, k2, k3⟩ := vx_keep h0 e1 hS hA hf hL hF
    obtain ⟨t2, a1, b1⟩ := kk r u t T'.heap (locs ++ L) e1.symm (by rw [← e2]; exact X'.warmed.alike) hp hb k1 k2 k3 T' rfl X'
    exact ⟨t2, st t2 a1, b1⟩
  · obtain ⟨k1, k2, k3⟩ := vx_keep h0 e1 hS hAX hf hL hF
    obtain ⟨t2, a1, b1⟩ := kx E ce q u t T'.heap (locs ++ L) e1.symm (by rw [← e2]; exact X'.warmed.alike) hp hb k1 k2 k3 (by rw [e1]; exact hce) hcv hcl T' rfl X'
    exact ⟨t2, st.trans a1, b1⟩
theorem vx_callv {S SX : Type} {post : S → Prop} {px : SX → Prop} {B : S → State → Prop} {BX : String → SX → State → Prop} {AX : Nat → Prop} (hr : vx_Run p l e R s m args below meth c H locs cells slots mc ms (F0 m pc ls st0) rest (va_Qv post B A1 a) (vx_X px BX AX) free) (hS : va_S A0 H0 H locs) (hA : ∀ q, q < H.size → A1 q → A0 q) (hf : ∀ q, free q → A0 q) (hAX : ∀ q, q < H.size → AX q → A0 q)
    (kx : ∀ (E : String) (ce : Cell) (q9 : Addr) (u : SX) (t : State) (H1 : Heap) (locs1 : List Loc), t.heap = H1 → s.vm.Alike t.vm → px u → BX E u t → H.size ≤ H1.size → (∀ q : Nat, q < H.size → ¬ AX q → H1[q]? = H[q]?) → va_S A0 H0 H1 locs1 → H1[q9]? = some ce → ce.vm = .none → s.vm.findClass E = some ce.cls → vx_W p l e R s m args below meth c H1 locs1 (cells + mc) (slots + ms) Q (F0 m pc ls rest) q9)
    (kk : ∀ (u : S) (t : State) (H1 : Heap) (locs1 : List Loc), t.heap = H1 → s.vm.Alike t.vm → post u → B u t → H.size ≤ H1.size → (∀ q : Nat, q < H.size → ¬ A1 q → H1[q]? = H[q]?) → va_S A0 H0 H1 locs1 → W p l e R s m args below meth c H1 locs1 (cells + mc) (slots + ms) Q (F0 m (pc + 3) ls (rest))) : W p l e R s m args below meth c H locs cells slots Q (F0 m pc ls st0) := by
  intro T hT X
  rcases hr T hT X with ⟨v, st₀, t, T', L, h0, X', hL, e1, e2, ⟨⟨u, hv, hp, hb⟩, hF⟩, st⟩ | ⟨q, st₀, t, T', L, E, ce, h0, X', hL, e1, e2, ⟨u, hp, hb, hF⟩, hce, hcv, hcl, st⟩
  · cases hv
    obtain ⟨k1, k2, k3⟩ := vx_keep h0 e1 hS hA hf hL hF
    obtain ⟨t2, a1, b1⟩ := kk u t T'.heap (locs ++ L) e1.symm (by rw [← e2]; exact X'.warmed.alike) hp hb k1 k2 k3 T' rfl X'
    exact ⟨t2, st t2 a1, b1⟩
  · obtain ⟨k1, k2, k3⟩ := vx_keep h0 e1 hS hAX hf hL hF
    obtain ⟨t2, a1, b1⟩ := kx E ce q u t T'.heap (locs ++ L) e1.symm (by rw [← e2]; exact X'.warmed.alike) hp hb k1 k2 k3 (by rw [e1]; exact hce) hcv hcl T' rfl X'
    exact ⟨t2, st.trans a1, b1⟩
/-- caught by the row x of this method's table; the rows ahead don't take it -/
theorem vx_catch {own name : String} {E : String} {ce : Cell} {q : Addr} (hown : s.vm.findClass own = some m.cls) (pre : List ExceptionTableEntry) (x : ExceptionTableEntry) (suf : List ExceptionTableEntry) (hsplit : c.exceptionTable.toList = pre ++ x :: suf)
    (hpass : ∀ z ∈ pre, covers z pc = false ∨ (z.catchType ≠ 0 ∧ ∃ nm : String, (Cond.classLink own z.catchType nm).before args s = true ∧ va_Nc E nm s)) (hx : covers x pc = true) (h0 : x.catchType ≠ 0)
    (hlink : (Cond.classLink own x.catchType name).before args s = true) (hcast : (Cond.castable E name).before args s = true) (hcell : H[q]? = some ce) (hv : ce.vm = .none) (hcl : s.vm.findClass E = some ce.cls)
    (kk : W p l e R s m args below meth c H locs cells slots Q (F0 m x.handlerPc ls [.ref q])) : vx_W p l e R s m args below meth c H locs cells slots Q (F0 m pc ls rest) q := by
  intro T hT X
  have hpl : e.platform.magicAccessors = ({} : Platform).magicAccessors := by rw [X.admits.platform]
  obtain ⟨c3, c4, hc3, hc4, hasg⟩ := Cond.castable_spec hcast
  cases Option.some.inj (hc3.symm.trans hcl)
  obtain ⟨c5, hc5, hcl5⟩ := Cond.classLink_spec hown hlink e.platform hpl
  cases Option.some.inj (hc4.symm.trans hc5)
  obtain ⟨vm', X', st⟩ := cx_thenCaught X q (g := F0 m pc ls rest) rfl (by rw [hT]; exact hcell) (by rw [hv]; rfl) (by obtain ⟨k9, h9, -⟩ := Vm.findClass_spec hcl; exact ⟨k9, h9⟩) pre x suf hsplit
    (fun z hz => by
      rcases hpass z hz with h | ⟨hz0, nm, hl1, hn1⟩
      · exact Or.inl h
      · obtain ⟨c6, hc6, hcl6⟩ := Cond.classLink_spec hown hl1 e.platform hpl
        obtain ⟨a8, b8, h1, h2, h3⟩ := hn1
        cases Option.some.inj (h1.symm.trans hcl)
        cases Option.some.inj (h2.symm.trans hc6)
        exact Or.inr ⟨hz0, _, hcl6, h3⟩) hx h0 hcl5 hasg
  obtain ⟨t, a1, b1⟩ := kk (T.setVm vm') hT X'
  exact ⟨t, st.trans a1, b1⟩
end Rows
section Ends
variable {p : Program} {l : Launch} {e : Env} {R : Room} {s : State} {m : MethodId} {args : Array Value} {below : List Frame} {meth : Method} {c : Code} {H : Heap} {locs : List Loc} {cells slots : Nat} {Q : State → Prop}
variable {mc ms : Nat} {free : Addr → Prop} {A0 A1 : Nat → Prop} {H0 : Heap} {a : Array Value} {ls : Array Slot} {st0 rest : List Value}
variable {Qc : Array Value → State → Outcome → State → Prop} {XC : String → State → State → Prop}
/-- what a body that may throw owes at its end -/
def vx_MQ (below : List Frame) (Qc : Array Value → State → Outcome → State → Prop) (XC : String → State → State → Prop) (a : Array Value) (s : State) (mc ms : Nat) (free : Addr → Prop) : State → Prop := fun t =>
  ∃ o, t.status = .running ∧ Ended t below o ∧ vx_Q Qc XC mc ms free a s o t
theorem vx_ret {g : JFrame} {mc ms : Nat} (k : W p l e R s m args below meth c H locs cells slots (MQ below Qc args s mc ms free) g) : W p l e R s m args below meth c H locs cells slots (vx_MQ below Qc XC args s mc ms free) g := by
  intro T hT X
  obtain ⟨t, a1, o, b1, b2, b3, b4⟩ := k T hT X
  exact ⟨t, a1, o, b1, b2, Or.inl ⟨b3, b4⟩⟩
/-- not caught here: it goes on to the caller -/
theorem vx_widen {g : JFrame} {q : Addr} {k n : Nat} (h1 : cells ≤ k) (h2 : slots ≤ n) (kk : vx_W p l e R s m args below meth c H locs k n Q g q) : vx_W p l e R s m args below meth c H locs cells slots Q g q := fun T hT X => kk T hT (stand_widen X h1 h2)
theorem vx_out {pc : Nat} {E : String} {ce : Cell} {q : Addr} {mc ms : Nat} (hout : ∀ x ∈ c.exceptionTable.toList, covers x pc = false) (hlocks : meth.locks = false) (hcell : H[q]? = some ce) (hv : ce.vm = .none) (hcl : s.vm.findClass E = some ce.cls)
    (hx : ∀ t : State, t.heap = H → s.vm.Alike t.vm → XC E s t) (hf : ∀ z ∈ locs, free z.base) (hc : cells ≤ mc) (hs : slots ≤ ms) :
    vx_W p l e R s m args below meth c H locs cells slots (vx_MQ below Qc XC args s mc ms free) (F0 m pc ls rest) q := by
  intro T hT X
  obtain ⟨st1, hrun, hend, hW, hsm⟩ := X.leaveThrown q (g := F0 m pc ls rest) rfl rfl rfl hout hlocks
  have hcell9 : (T.setFrames (.throwing q :: below)).heap[q]? = some ce := by
    show T.heap[q]? = some ce
    rw [hT]; exact hcell
  exact ⟨_, st1, .threw q, hrun, hend, Or.inr ⟨q, rfl, E, ce, locs, hx _ hT hW.alike, hcell9, hv, hcl, hW, hsm.mono hc hs, hf⟩⟩
theorem vx_frame {U : State} {k n : Nat} (h : s.sameButNew ({ U with vm := s.vm } : State) locs k n) : s.heap.size ≤ U.heap.size ∧ ∀ q : Nat, q < s.heap.size → (∀ z ∈ locs, z.base ≠ q) → U.heap[q]? = s.heap[q]? := by
  obtain ⟨-, h2, -, -, -, h6⟩ := h
  refine ⟨h2, fun q hq hz => ?_⟩
  obtain ⟨c9, e1, e2, e3, e4⟩ := h6 q _ (Array.getElem?_eq_getElem hq)
  have hs : c9.slots = (s.heap[q]).slots := Array.ext_getElem? fun i => e4 i fun hm => hz _ hm rfl
  have h9 : c9 = s.heap[q] := by
    rw [hs] at e2
    exact e2
  have e5 : U.heap[q]? = some c9 := e1
  rw [e5, h9, Array.getElem?_eq_getElem hq]
/-- the words of a throw but the four that speak of the heap -/
def vx_no (w : Cond) : Bool := decide (w ≠ .isRef (.static Bundle.tN "UNASSIGNED_STACK" Bundle.steD)) && decide (w ≠ .isRef (.static Bundle.tN "SUPPRESSED_SENTINEL" Bundle.listD)) && decide (w ≠ .laysStatic Bundle.tN "UNASSIGNED_STACK" Bundle.steD) && decide (w ≠ .laysStatic Bundle.tN "SUPPRESSED_SENTINEL" Bundle.listD)
def vx_at0 (own : String) (ic : Nat) (X : String) (names : List String) : List Cond := (Bundle.ownAtoms0 own ic X names).filter vx_no
def vx_atS (own : String) (ic : Nat) (X : String) (names : List String) : List Cond := (Bundle.ownAtoms own ic X names).filter vx_no
/-- a word that the tables alone decide, or a good one -/
def vx_ot (w : Cond) : Bool := w.onTables || goodWord w
theorem vx_ot_at {args a' : Array Value} {s U : State} {w : Cond} (hW : s.WarmedH U.vm) (hvm : s.vm = U.vm) (hg : vx_ot w = true) (h : w.before args s = true) : w.before a' U = true := by
  simp only [vx_ot, Bool.or_eq_true] at hg
  rcases hg with hg | hg
  · exact va_tabs hg hvm h
  · exact word_at hW (good_of_word hg) h
/-- a list's words: the good ones out of the method's own list, the others by premises of their own -/
theorem vx_hat {args : Array Value} {s : State} {L B : List Cond} (h1 : ∀ w ∈ L.filter goodWord, w.before args s = true) (h2 : ∀ w ∈ L.filter (fun w => !goodWord w), w ∈ B) (h3 : ∀ w ∈ B, w.before args s = true) : ∀ w ∈ L, w.before args s = true := by
  intro w hw
  by_cases g : goodWord w = true
  · exact h1 w (List.mem_filter.mpr ⟨hw, g⟩)
  · refine h3 w (h2 w (List.mem_filter.mpr ⟨hw, ?_⟩))
    show (!goodWord w) = true
    cases hgw : goodWord w
    · rfl
    · exact absurd hgw g
theorem vx_c {args : Array Value} {s : State} {w : Cond} {B : List Cond} (h : w.before args s = true) (t : ∀ w ∈ B, w.before args s = true) : ∀ w' ∈ w :: B, w'.before args s = true := fun w' h' => (List.mem_cons.mp h').elim (fun e => by rw [e]; exact h) (t w')
theorem vx_n {args : Array Value} {s : State} : ∀ w ∈ ([] : List Cond), w.before args s = true := fun _ h => nomatch h
theorem vx_own {args : Array Value} {s : State} {L : List Cond} (h1 : ∀ w ∈ L.filter vx_no, w.before args s = true)
    (hU : (Cond.isRef (.static Bundle.tN "UNASSIGNED_STACK" Bundle.steD)).before args s = true) (hN : (Cond.isRef (.static Bundle.tN "SUPPRESSED_SENTINEL" Bundle.listD)).before args s = true)
    (lU : (Cond.laysStatic Bundle.tN "UNASSIGNED_STACK" Bundle.steD).before args s = true) (lN : (Cond.laysStatic Bundle.tN "SUPPRESSED_SENTINEL" Bundle.listD).before args s = true) : ∀ w ∈ L, w.before args s = true := by
  intro w hw
  by_cases e1 : w = .isRef (.static Bundle.tN "UNASSIGNED_STACK" Bundle.steD)
  · rw [e1]; exact hU
  · by_cases e2 : w = .isRef (.static Bundle.tN "SUPPRESSED_SENTINEL" Bundle.listD)
    · rw [e2]; exact hN
    · by_cases e3 : w = .laysStatic Bundle.tN "UNASSIGNED_STACK" Bundle.steD
      · rw [e3]; exact lU
      · by_cases e4 : w = .laysStatic Bundle.tN "SUPPRESSED_SENTINEL" Bundle.listD
        · rw [e4]; exact lN
        · exact h1 w (List.mem_filter.mpr ⟨hw, by unfold vx_no; rw [decide_eq_true e1, decide_eq_true e2, decide_eq_true e3, decide_eq_true e4]; rfl⟩)
/-- where a static field lies, its class's statics cell in H -/
def vx_L (C n d : String) (A : Nat → Prop) (U : State) (H : Heap) : Prop := ∃ (c : ClassId) (k : Class) (i : Nat) (f : Field) (a : Nat) (cell : Cell), U.vm.findClass C = some c ∧ U.fieldFound? C n d = some (c, k, i, f) ∧ f.isStatic = true ∧ k.statics = some a ∧ H[a]? = some cell ∧ cell.vm.isStatics = true ∧ cell.cls = c ∧ f.slot < cell.slots.size ∧ k.staticTypes[f.slot]? = some f.type ∧ ¬ A a
theorem vx_L.moved {C n d : String} {A : Nat → Prop} {u U : State} {H : Heap} (hvm : u.vm.Alike U.vm) (h : vx_L C n d A u H) : vx_L C n d A U H := by
  obtain ⟨c, k, i, f, a, cell, h1, h2, h3, h4, h5, h6, h7, h8, h9, h10⟩ := h
  obtain ⟨k', hi', he⟩ := State.fieldFound?_setVm hvm h2
  exact ⟨c, k', i, f, a, cell, by rw [hvm.findClass]; exact h1, hi', h3, by rw [he]; exact h4, h5, h6, h7, h8, by rw [he]; exact h9, h10⟩
theorem vx_L.kept {C n d : String} {A : Nat → Prop} {U : State} {H H1 : Heap} (h : vx_L C n d A U H) (hq : ∀ a : Nat, a < H.size → ¬ A a → H1[a]? = H[a]?) : vx_L C n d A U H1 := by
  obtain ⟨c, k, i, f, a, cell, h1, h2, h3, h4, h5, h6, h7, h8, h9, h10⟩ := h
  exact ⟨c, k, i, f, a, cell, h1, h2, h3, h4, by rw [hq a (Array.getElem?_eq_some_iff.mp h5).1 h10]; exact h5, h6, h7, h8, h9, h10⟩
theorem vx_L.narrow {C n d : String} {A B : Nat → Prop} {U : State} {H : Heap} (h : vx_L C n d A U H) (hAB : ∀ q, B q → A q) : vx_L C n d B U H := by
  obtain ⟨c, k, i, f, a, cell, h1, h2, h3, h4, h5, h6, h7, h8, h9, h10⟩ := h
  exact ⟨c, k, i, f, a, cell, h1, h2, h3, h4, h5, h6, h7, h8, h9, fun z => h10 (hAB _ z)⟩
theorem vx_L.word {C n d : String} {A : Nat → Prop} {s : State} {args : Array Value} (h : vx_L C n d A s s.heap) : (Cond.laysStatic C n d).before args s = true := by
  obtain ⟨c, k, i, f, a, cell, h1, h2, h3, h4, h5, h6, h7, h8, h9, -⟩ := h
  show (Cond.laysStatic C n d).holds args s none s [] = true
  exact Cond.laysStatic_of h1 h2 h3 h4 h5 h6 h7 h8 h9
/-- .. and what it holds: null or some reference -/
def vx_Zq (C n d : String) (A : Nat → Prop) (U : State) (H : Heap) : Prop := va_Zq C n d A U H ∧ vx_L C n d A U H
theorem vx_Zq.moved {C n d : String} {A : Nat → Prop} {u U : State} {H : Heap} (hvm : u.vm.Alike U.vm) (h : vx_Zq C n d A u H) : vx_Zq C n d A U H := ⟨va_Zq.moved hvm h.1, vx_L.moved hvm h.2⟩
theorem vx_Zq.kept {C n d : String} {A : Nat → Prop} {U : State} {H H1 : Heap} (h : vx_Zq C n d A U H) (hq : ∀ a : Nat, a < H.size → ¬ A a → H1[a]? = H[a]?) : vx_Zq C n d A U H1 := ⟨va_Zq.kept h.1 hq, vx_L.kept h.2 hq⟩
theorem vx_Zq.narrow {C n d : String} {A B : Nat → Prop} {U : State} {H : Heap} (h : vx_Zq C n d A U H) (hAB : ∀ q, B q → A q) : vx_Zq C n d B U H := ⟨va_Zq.narrow h.1 hAB, vx_L.narrow h.2 hAB⟩
theorem vx_Zqof {args : Array Value} {s : State} {C n d : String} {A : Nat → Prop} (hl : (Cond.laysStatic C n d).before args s = true) (hini : (Cond.initialized C).before args s = true) (h : (Cond.isRef (.static C n d)).before args s = true) (hA : ∀ a : Nat, a < s.heap.size → ¬ A a) : vx_Zq C n d A s s.heap := by
  refine ⟨va_Zqof hl hini h hA, ?_⟩
  obtain ⟨c, k, i, f, a, cell, h1, h2, h3, h4, h5, h6, h7, h8, h9⟩ := Cond.laysStatic_spec hl
  exact ⟨c, k, i, f, a, cell, h1, h2, h3, h4, h5, h6, h7, h8, h9, hA a (Array.getElem?_eq_some_iff.mp h5).1⟩
theorem vx_isRef {C n d : String} {v : Value} {A : Nat → Prop} {s : State} {args : Array Value} (h : va_Z C n d v A s s.heap) (hv : v.isRef = true) : (Cond.isRef (.static C n d)).before args s = true := by
  obtain ⟨cf, kf, fi, f, a, cell, h1, h2, h3, h4, h5, h6, h7, -⟩ := h
  have he : (Term.static C n d).eval args s none [] s = some v := by
    simp [Term.eval, State.fieldNamed?, h1, h2, h4, h5, h6, h7]
  simp only [Cond.before, Cond.holds, Cond.value, he]
  cases v <;> simp_all [Value.isRef]
theorem vx_isRefq {C n d : String} {A : Nat → Prop} {s : State} {args : Array Value} (h : va_Zq C n d A s s.heap) : (Cond.isRef (.static C n d)).before args s = true := by
  rcases h with h | ⟨t, h⟩
  · exact vx_isRef h rfl
  · exact vx_isRef h rfl
/-- the same frame, seen from here: as if the method were called anew in this heap -/
theorem vx_rebase {T : State} (X : Stand p l e R s m args below meth c T locs cells slots) {R' : Room} (hf : R'.frames ≤ R.frames) (hl : R'.locals ≤ R.locals) (hc : cells + R'.cells ≤ R.cells) (hs : slots + R'.slots ≤ R.slots) :
    Stand p l e R' ((T.setVm s.vm).setFrames (.invoking m args :: below)) m args below meth c T [] 0 0 := by
  have htop : (T.setVm s.vm).topJava?.isSome := X.here.top
  have hF : ((T.setVm s.vm).setFrames (.invoking m args :: below)).frames = .invoking m args :: below := State.frames_setFrames _ (State.cur_lt_of_top htop)
  obtain ⟨g₀, hg0⟩ := Option.isSome_iff_exists.mp htop
  obtain ⟨r, hr⟩ := State.topJava?_eq_some.mp hg0
  have hl9 : e.platform.stackLimits (T.setVm s.vm).me = e.platform.stackLimits s.me := X.limits
  have hb9 : (T.setVm s.vm).me.stackBytes = s.me.stackBytes := X.bytes
  refine ⟨X.admits, X.cas, X.clock, hF, ?_, X.hears, X.method, X.code, X.here, X.tail, X.warmed, ?_, ?_, ?_⟩
  · have h := X.room
    have hU : ((T.setVm s.vm).setFrames (.invoking m args :: below)).localsInUse = s.localsInUse := by
      rw [State.localsInUse_invoking hF (meth := meth) (c := c) X.method X.code, State.localsInUse_invoking X.frames X.method X.code]
    simp only [State.hasRoom, Bool.and_eq_true, decide_eq_true_eq] at h ⊢
    obtain ⟨⟨⟨⟨h1, h2, h3, h4, h5, h6⟩, h7⟩, h8⟩, h9⟩ := h
    rw [X.frames, List.length_cons] at h2 h3
    have q1 := X.heapSize
    have q2 := X.used
    simp only [hF, hU, List.length_cons, State.stackLimits_setFrames, State.stackBytes_setFrames, hl9, hb9]
    refine ⟨⟨⟨⟨by omega, by omega, by omega, by omega, by omega, h6⟩, ?_⟩, ?_⟩, X.book⟩
    · show T.heap.size + R'.cells ≤ e.platform.maxCells
      omega
    · show T.slotsUsed + R'.slots ≤ e.platform.maxSlots
      omega
  · rw [State.stackLimits_setFrames]; rfl
  · rw [State.stackBytes_setFrames]; rfl
  · refine ⟨?_, Nat.le_refl _, Nat.le_refl _, ?_, ?_, fun a c9 h9 => ⟨c9, h9, rfl, rfl, fun _ _ => rfl⟩⟩
    · obtain ⟨t, ht, -⟩ := State.frames_cons hr
      show T.setVm s.vm = { ((T.setVm s.vm).setFrames (.invoking m args :: below)).setFrames (T.setVm s.vm).frames with heap := T.heap, slotsUsed := T.slotsUsed }
      rw [State.setFrames_setFrames, State.setFrames_self ht]
      rfl
    · show T.slotsUsed = T.slotsUsed + ((T.heap.toList.drop T.heap.size).map (·.slots.size)).sum
      rw [List.drop_eq_nil_of_le (Nat.le_of_eq Array.length_toList)]
      rfl
    · show ((T.heap.toList.drop T.heap.size).map (·.slots.size)).sum ≤ 0
      rw [List.drop_eq_nil_of_le (Nat.le_of_eq Array.length_toList)]
      exact Nat.le_refl _
/-- 'throw new E()': new; dup; invokespecial; athrow -/
theorem vx_throw0 {cc : ByteArray} {pc : Nat} (hexec : p.tables.exec = Jvm.exec) (hb : c.code = cc) (hl : l.stackTraces = false) {own cls : String} {names : List String} {ik ic mc ms : Nat} {A : Nat → Prop}
    (hown : s.vm.findClass own = some m.cls) (hcls : Bundle.fit cls = true) (hnames : ∀ n ∈ names, Bundle.fit n = true)
    (hk : (Cond.classLink own ik cls).before args s = true) (hini : (Cond.initialized cls).before args s = true) (hat : ∀ w ∈ vx_at0 own ic cls names, w.before args s = true)
    (hgood : ∀ w ∈ Cond.classLink own ik cls :: Cond.initialized cls :: vx_at0 own ic cls names, vx_ot w = true)
    (hU : vx_Zq Bundle.tN "UNASSIGNED_STACK" Bundle.steD A s s.heap) (hN : vx_Zq Bundle.tN "SUPPRESSED_SENTINEL" Bundle.listD A s s.heap) (hS : va_S A s.heap H locs) (hsize : ls.size = c.maxLocals)
    (d0 : decode cc pc = .ok (.new ik, 3)) (d3 : decode cc (pc + 3) = .ok (.dup, 1)) (d4 : decode cc (pc + 4) = .ok (.invokespecial ic, 3)) (d7 : decode cc (pc + 7) = .ok (.athrow, 1))
    (hout : ∀ x ∈ c.exceptionTable.toList, covers x (pc + 7) = false)
    (hRframes : names.length + 3 < R.frames) (hRlocals : (rest.map fun v => v.category).sum + (13 * (names.length + 1) + 42) ≤ R.locals) (hRcells : cells + 1 ≤ R.cells) (hRslots : slots + 6 ≤ R.slots) (hlocks : meth.locks = false)
    (hx : ∀ t : State, s.vm.Alike t.vm → H.size ≤ t.heap.size → (∀ q : Nat, q < H.size → t.heap[q]? = H[q]?) → XC cls s t)
    (hf : ∀ z ∈ locs, free z.base) (hc : cells + 1 ≤ mc) (hs : slots + 6 ≤ ms) :
    W p l e R s m args below meth c H locs cells slots (vx_MQ below Qc XC args s mc ms free) (F0 m pc ls rest) := by
  intro T hT X
  have htr : e.platform.stackTraces = false := (show e.platform.stackTraces = l.stackTraces by rw [X.admits.platform]).trans hl
  have Y := vx_rebase X (R' := { frames := R.frames, locals := R.locals, cells := 1, slots := 6 }) (Nat.le_refl _) (Nat.le_refl _) hRcells hRslots
  obtain ⟨s', hA⟩ : ∃ z, z = (T.setVm s.vm).setFrames (.invoking m args :: below) := ⟨_, rfl⟩
  rw [← hA] at Y
  have hvm : s'.vm = s.vm := by rw [hA]; rfl
  have hhp : s'.heap = H := by rw [hA]; exact hT
  have hW0 : s.WarmedH s'.vm := by rw [hvm]; exact State.WarmedH.refl s
  have hat' : ∀ w ∈ vx_at0 own ic cls names, w.before args s' = true := fun w hw => vx_ot_at hW0 hvm.symm (hgood w (List.mem_cons_of_mem _ (List.mem_cons_of_mem _ hw))) (hat w hw)
  have hk' : (Cond.classLink own ik cls).before args s' = true := vx_ot_at hW0 hvm.symm (hgood _ List.mem_cons_self) hk
  have hini' : (Cond.initialized cls).before args s' = true := vx_ot_at hW0 hvm.symm (hgood _ (List.mem_cons_of_mem _ List.mem_cons_self)) hini
  have hU' : vx_Zq Bundle.tN "UNASSIGNED_STACK" Bundle.steD A s' s'.heap := by rw [hhp]; exact vx_Zq.moved hW0.alike (hU.kept hS.2.1)
  have hN' : vx_Zq Bundle.tN "SUPPRESSED_SENTINEL" Bundle.listD A s' s'.heap := by rw [hhp]; exact vx_Zq.moved hW0.alike (hN.kept hS.2.1)
  have h : ∀ w ∈ Bundle.ownAtoms0 own ic cls names, w.before args s' = true := vx_own hat' (vx_isRefq hU'.1) (vx_isRefq hN'.1) hU'.2.word hN'.2.word
  have hown' : s'.vm.findClass own = some m.cls := by rw [hvm]; exact hown
  have hins : (Cond.instantiable cls 6).before args s' = true := h _ (by simp [Bundle.ownAtoms0])
  obtain ⟨vm₁, cX, kX, hfX, hkX, -, -, X₁, st1⟩ := Y.newCold hexec (own := own) (C := cls) (index := ik) (n := 6) hown' hk' hins hini'
    (g := F0 m pc ls rest) rfl (by rw [hb]; exact d0) (Nat.le_refl _) (Nat.le_refl _)
  generalize hT1 : (T.setVm vm₁).pushCell { cls := cX, slots := kX.instanceTypes.map defaultValue, vm := .none } = T1 at X₁ st1
  have hcat : (Value.ref T.heap.size).category = 1 := rfl
  have hcellA : T1.heap[T.heap.size]? = some (freshCell cX kX) := by rw [← hT1]; exact State.heap_pushCell_size _ _
  have d3' : decode c.code (pc + 3) = .ok (.dup, 1) := by rw [hb]; exact d3
  obtain ⟨U, hsteps, hrun, hend, hW, hsame, ce, hce, hO⟩ := X₁.ctorThrow0 hexec htr (own := own) (cls := cls) (names := names) (ic := ic) hown' hcls hnames h (fun x hx => nomatch hx) hfX hkX hcellA (by rw [hhp, hT]; exact Nat.le_refl _)
    (g := { method := m, pc := pc + 4, locals := ls, stack := .ref T.heap.size :: .ref T.heap.size :: rest, locked := none }) rfl hsize rfl rfl (rest := rest) rfl
    (by rw [hb]; exact d4) (by rw [hb]; exact d7) hout hRframes (by simp only [List.map_cons, List.sum_cons, hcat]; omega) hlocks
  obtain ⟨f1, f2⟩ := vx_frame hsame
  rw [hhp] at f1 f2
  have hWs : s.WarmedH U.vm := State.WarmedH.trans hW0 hW
  have hcl : s.vm.findClass cls = some ce.cls := by
    have h9 := hO.cls
    rw [hvm] at h9
    exact h9
  have hall : s.sameButNew ({ U with vm := s.vm } : State) locs mc ms := by
    subst hA
    obtain ⟨e1, e2⟩ := hsame
    rw [State.setFrames_setFrames] at e1
    have h2 : (T.setVm s.vm).sameButNew ({ U with vm := s.vm } : State) [] (0 + 1) (0 + 6) := ⟨e1, e2⟩
    have h3 := X.same.trans h2
    rw [List.append_nil] at h3
    exact h3.mono hc hs
  refine ⟨U, ?_, .threw T.heap.size, hrun, hend, Or.inr ⟨T.heap.size, rfl, cls, ce, locs, hx U hWs.alike f1 (fun q hq => f2 q hq (fun z hz => nomatch hz)), hce, hO.vm, hcl, hWs, hall, hf⟩⟩
  refine st1 _ ?_
  show Steps p.tables e below (T1.setTop { method := m, pc := pc + 3, locals := ls, stack := .ref T.heap.size :: rest, locked := none }) _
  jvm_step X₁.here [X₁.here.top, hexec, d3', Value.category]
  exact hsteps
/-- 'throw new E("text")': new; dup; ldc; invokespecial; athrow -/
theorem vx_throwS {cc : ByteArray} {pc : Nat} (hexec : p.tables.exec = Jvm.exec) (hb : c.code = cc) (hl : l.stackTraces = false) {own cls text : String} {names : List String} {ik is ic mc ms sa : Nat} {A : Nat → Prop}
    (hown : s.vm.findClass own = some m.cls) (hcls : Bundle.fit cls = true) (hnames : ∀ n ∈ names, Bundle.fit n = true)
    (hk : (Cond.classLink own ik cls).before args s = true) (hini : (Cond.initialized cls).before args s = true) (hstr : vk_R own is text sa s) (hat : ∀ w ∈ vx_atS own ic cls names, w.before args s = true)
    (hgood : ∀ w ∈ Cond.classLink own ik cls :: Cond.initialized cls :: vx_atS own ic cls names, vx_ot w = true)
    (hU : vx_Zq Bundle.tN "UNASSIGNED_STACK" Bundle.steD A s s.heap) (hN : vx_Zq Bundle.tN "SUPPRESSED_SENTINEL" Bundle.listD A s s.heap) (hS : va_S A s.heap H locs) (hsize : ls.size = c.maxLocals)
    (d0 : decode cc pc = .ok (.new ik, 3)) (d3 : decode cc (pc + 3) = .ok (.dup, 1)) (d4 : decode cc (pc + 4) = .ok (.ldc is, 2)) (d6 : decode cc (pc + 6) = .ok (.invokespecial ic, 3)) (d9 : decode cc (pc + 9) = .ok (.athrow, 1))
    (hout : ∀ x ∈ c.exceptionTable.toList, covers x (pc + 9) = false)
    (hRframes : names.length + 3 < R.frames) (hRlocals : (rest.map fun v => v.category).sum + (13 * (names.length + 1) + 43) ≤ R.locals) (hRcells : cells + 1 ≤ R.cells) (hRslots : slots + 6 ≤ R.slots) (hlocks : meth.locks = false)
    (hx : ∀ t : State, s.vm.Alike t.vm → H.size ≤ t.heap.size → (∀ q : Nat, q < H.size → t.heap[q]? = H[q]?) → XC cls s t)
    (hf : ∀ z ∈ locs, free z.base) (hc : cells + 1 ≤ mc) (hs : slots + 6 ≤ ms) :
    W p l e R s m args below meth c H locs cells slots (vx_MQ below Qc XC args s mc ms free) (F0 m pc ls rest) := by
  intro T hT X
  have htr : e.platform.stackTraces = false := (show e.platform.stackTraces = l.stackTraces by rw [X.admits.platform]).trans hl
  have Y := vx_rebase X (R' := { frames := R.frames, locals := R.locals, cells := 1, slots := 6 }) (Nat.le_refl _) (Nat.le_refl _) hRcells hRslots
  obtain ⟨s', hA⟩ : ∃ z, z = (T.setVm s.vm).setFrames (.invoking m args :: below) := ⟨_, rfl⟩
  rw [← hA] at Y
  have hvm : s'.vm = s.vm := by rw [hA]; rfl
  have hhp : s'.heap = H := by rw [hA]; exact hT
  have hW0 : s.WarmedH s'.vm := by rw [hvm]; exact State.WarmedH.refl s
  have hat' : ∀ w ∈ vx_atS own ic cls names, w.before args s' = true := fun w hw => vx_ot_at hW0 hvm.symm (hgood w (List.mem_cons_of_mem _ (List.mem_cons_of_mem _ hw))) (hat w hw)
  have hk' : (Cond.classLink own ik cls).before args s' = true := vx_ot_at hW0 hvm.symm (hgood _ List.mem_cons_self) hk
  have hini' : (Cond.initialized cls).before args s' = true := vx_ot_at hW0 hvm.symm (hgood _ (List.mem_cons_of_mem _ List.mem_cons_self)) hini
  have hU' : vx_Zq Bundle.tN "UNASSIGNED_STACK" Bundle.steD A s' s'.heap := by rw [hhp]; exact vx_Zq.moved hW0.alike (hU.kept hS.2.1)
  have hN' : vx_Zq Bundle.tN "SUPPRESSED_SENTINEL" Bundle.listD A s' s'.heap := by rw [hhp]; exact vx_Zq.moved hW0.alike (hN.kept hS.2.1)
  have h : ∀ w ∈ Bundle.ownAtoms own ic cls names, w.before args s' = true := vx_own hat' (vx_isRefq hU'.1) (vx_isRefq hN'.1) hU'.2.word hN'.2.word
  have hown' : s'.vm.findClass own = some m.cls := by rw [hvm]; exact hown
  have hins : (Cond.instantiable cls 6).before args s' = true := h _ (by simp [Bundle.ownAtoms])
  obtain ⟨vm₁, cX, kX, hfX, hkX, -, -, X₁, st1⟩ := Y.newCold hexec (own := own) (C := cls) (index := ik) (n := 6) hown' hk' hins hini'
    (g := F0 m pc ls rest) rfl (by rw [hb]; exact d0) (Nat.le_refl _) (Nat.le_refl _)
  generalize hT1 : (T.setVm vm₁).pushCell { cls := cX, slots := kX.instanceTypes.map defaultValue, vm := .none } = T1 at X₁ st1
  have hcat : (Value.ref T.heap.size).category = 1 := rfl
  have hcellA : T1.heap[T.heap.size]? = some (freshCell cX kX) := by rw [← hT1]; exact State.heap_pushCell_size _ _
  have d3' : decode c.code (pc + 3) = .ok (.dup, 1) := by rw [hb]; exact d3
  have d4' : decode c.code (pc + 4) = .ok (.ldc is, 2) := by rw [hb]; exact d4
  have hstr' : vk_R own is text sa s' := vk_R.warm hW0 hstr
  obtain ⟨U, hsteps, hrun, hend, hW, hsame, ce, hce, hO⟩ := X₁.ctorThrowS hexec htr (own := own) (cls := cls) (names := names) (ic := ic) hown' hcls hnames h (fun x hx => nomatch hx) hfX hkX hcellA (by rw [hhp, hT]; exact Nat.le_refl _) (msg := .ref sa) rfl
    (g := { method := m, pc := pc + 6, locals := ls, stack := .ref sa :: .ref T.heap.size :: .ref T.heap.size :: rest, locked := none }) rfl hsize rfl rfl (rest := rest) rfl
    (by rw [hb]; exact d6) (by rw [hb]; exact d9) hout hRframes (by simp only [List.map_cons, List.sum_cons, hcat]; omega) hlocks
  obtain ⟨f1, f2⟩ := vx_frame hsame
  rw [hhp] at f1 f2
  have hWs : s.WarmedH U.vm := State.WarmedH.trans hW0 hW
  have hcl : s.vm.findClass cls = some ce.cls := by
    have h9 := hO.cls
    rw [hvm] at h9
    exact h9
  have hall : s.sameButNew ({ U with vm := s.vm } : State) locs mc ms := by
    subst hA
    obtain ⟨e1, e2⟩ := hsame
    rw [State.setFrames_setFrames] at e1
    have h2 : (T.setVm s.vm).sameButNew ({ U with vm := s.vm } : State) [] (0 + 1) (0 + 6) := ⟨e1, e2⟩
    have h3 := X.same.trans h2
    rw [List.append_nil] at h3
    exact h3.mono hc hs
  refine ⟨U, ?_, .threw T.heap.size, hrun, hend, Or.inr ⟨T.heap.size, rfl, cls, ce, locs, hx U hWs.alike f1 (fun q hq => f2 q hq (fun z hz => nomatch hz)), hce, hO.vm, hcl, hWs, hall, hf⟩⟩
  refine st1 _ ?_
  show Steps p.tables e below (T1.setTop { method := m, pc := pc + 3, locals := ls, stack := .ref T.heap.size :: rest, locked := none }) _
  jvm_step X₁.here [X₁.here.top, hexec, d3', Value.category]
  exact X₁.ldcString hexec (own := own) (text := text) (index := is) (a := sa) hown' hstr'.1 hstr'.2
    (g := { method := m, pc := pc + 4, locals := ls, stack := .ref T.heap.size :: .ref T.heap.size :: rest, locked := none }) rfl d4' _ hsteps
/-- 'throw new E("text")', the text by a wide index -/
theorem vx_throwSW {cc : ByteArray} {pc : Nat} (hexec : p.tables.exec = Jvm.exec) (hb : c.code = cc) (hl : l.stackTraces = false) {own cls text : String} {names : List String} {ik is ic mc ms sa : Nat} {A : Nat → Prop}
    (hown : s.vm.findClass own = some m.cls) (hcls : Bundle.fit cls = true) (hnames : ∀ n ∈ names, Bundle.fit n = true)
    (hk : (Cond.classLink own ik cls).before args s = true) (hini : (Cond.initialized cls).before args s = true) (hstr : vk_R own is text sa s) (hat : ∀ w ∈ vx_atS own ic cls names, w.before args s = true)
    (hgood : ∀ w ∈ Cond.classLink own ik cls :: Cond.initialized cls :: vx_atS own ic cls names, vx_ot w = true)
    (hU : vx_Zq Bundle.tN "UNASSIGNED_STACK" Bundle.steD A s s.heap) (hN : vx_Zq Bundle.tN "SUPPRESSED_SENTINEL" Bundle.listD A s s.heap) (hS : va_S A s.heap H locs) (hsize : ls.size = c.maxLocals)
    (d0 : decode cc pc = .ok (.new ik, 3)) (d3 : decode cc (pc + 3) = .ok (.dup, 1)) (d4 : decode cc (pc + 4) = .ok (.ldc_w is, 3)) (d7 : decode cc (pc + 7) = .ok (.invokespecial ic, 3)) (d10 : decode cc (pc + 10) = .ok (.athrow, 1))
    (hout : ∀ x ∈ c.exceptionTable.toList, covers x (pc + 10) = false)
    (hRframes : names.length + 3 < R.frames) (hRlocals : (rest.map fun v => v.category).sum + (13 * (names.length + 1) + 43) ≤ R.locals) (hRcells : cells + 1 ≤ R.cells) (hRslots : slots + 6 ≤ R.slots) (hlocks : meth.locks = false)
    (hx : ∀ t : State, s.vm.Alike t.vm → H.size ≤ t.heap.size → (∀ q : Nat, q < H.size → t.heap[q]? = H[q]?) → XC cls s t)
    (hf : ∀ z ∈ locs, free z.base) (hc : cells + 1 ≤ mc) (hs : slots + 6 ≤ ms) :
    W p l e R s m args below meth c H locs cells slots (vx_MQ below Qc XC args s mc ms free) (F0 m pc ls rest) := by
  intro T hT X
  have htr : e.platform.stackTraces = false := (show e.platform.stackTraces = l.stackTraces by rw [X.admits.platform]).trans hl
  have Y := vx_rebase X (R' := { frames := R.frames, locals := R.locals, cells := 1, slots := 6 }) (Nat.le_refl _) (Nat.le_refl _) hRcells hRslots
  obtain ⟨s', hA⟩ : ∃ z, z = (T.setVm s.vm).setFrames (.invoking m args :: below) := ⟨_, rfl⟩
  rw [← hA] at Y
  have hvm : s'.vm = s.vm := by rw [hA]; rfl
  have hhp : s'.heap = H := by rw [hA]; exact hT
  have hW0 : s.WarmedH s'.vm := by rw [hvm]; exact State.WarmedH.refl s
  have hat' : ∀ w ∈ vx_atS own ic cls names, w.before args s' = true := fun w hw => vx_ot_at hW0 hvm.symm (hgood w (List.mem_cons_of_mem _ (List.mem_cons_of_mem _ hw))) (hat w hw)
  have hk' : (Cond.classLink own ik cls).before args s' = true := vx_ot_at hW0 hvm.symm (hgood _ List.mem_cons_self) hk
  have hini' : (Cond.initialized cls).before args s' = true := vx_ot_at hW0 hvm.symm (hgood _ (List.mem_cons_of_mem _ List.mem_cons_self)) hini
  have hU' : vx_Zq Bundle.tN "UNASSIGNED_STACK" Bundle.steD A s' s'.heap := by rw [hhp]; exact vx_Zq.moved hW0.alike (hU.kept hS.2.1)
  have hN' : vx_Zq Bundle.tN "SUPPRESSED_SENTINEL" Bundle.listD A s' s'.heap := by rw [hhp]; exact vx_Zq.moved hW0.alike (hN.kept hS.2.1)
  have h : ∀ w ∈ Bundle.ownAtoms own ic cls names, w.before args s' = true := vx_own hat' (vx_isRefq hU'.1) (vx_isRefq hN'.1) hU'.2.word hN'.2.word
  have hown' : s'.vm.findClass own = some m.cls := by rw [hvm]; exact hown
  have hins : (Cond.instantiable cls 6).before args s' = true := h _ (by simp [Bundle.ownAtoms])
  obtain ⟨vm₁, cX, kX, hfX, hkX, -, -, X₁, st1⟩ := Y.newCold hexec (own := own) (C := cls) (index := ik) (n := 6) hown' hk' hins hini'
    (g := F0 m pc ls rest) rfl (by rw [hb]; exact d0) (Nat.le_refl _) (Nat.le_refl _)
  generalize hT1 : (T.setVm vm₁).pushCell { cls := cX, slots := kX.instanceTypes.map defaultValue, vm := .none } = T1 at X₁ st1
  have hcat : (Value.ref T.heap.size).category = 1 := rfl
  have hcellA : T1.heap[T.heap.size]? = some (freshCell cX kX) := by rw [← hT1]; exact State.heap_pushCell_size _ _
  have d3' : decode c.code (pc + 3) = .ok (.dup, 1) := by rw [hb]; exact d3
  have d4' : decode c.code (pc + 4) = .ok (.ldc_w is, 3) := by rw [hb]; exact d4
  have hstr' : vk_R own is text sa s' := vk_R.warm hW0 hstr
  obtain ⟨U, hsteps, hrun, hend, hW, hsame, ce, hce, hO⟩ := X₁.ctorThrowS hexec htr (own := own) (cls := cls) (names := names) (ic := ic) hown' hcls hnames h (fun x hx => nomatch hx) hfX hkX hcellA (by rw [hhp, hT]; exact Nat.le_refl _) (msg := .ref sa) rfl
    (g := { method := m, pc := pc + 7, locals := ls, stack := .ref sa :: .ref T.heap.size :: .ref T.heap.size :: rest, locked := none }) rfl hsize rfl rfl (rest := rest) rfl
    (by rw [hb]; exact d7) (by rw [hb]; exact d10) hout hRframes (by simp only [List.map_cons, List.sum_cons, hcat]; omega) hlocks
  obtain ⟨f1, f2⟩ := vx_frame hsame
  rw [hhp] at f1 f2
  have hWs : s.WarmedH U.vm := State.WarmedH.trans hW0 hW
  have hcl : s.vm.findClass cls = some ce.cls := by
    have h9 := hO.cls
    rw [hvm] at h9
    exact h9
  have hall : s.sameButNew ({ U with vm := s.vm } : State) locs mc ms := by
    subst hA
    obtain ⟨e1, e2⟩ := hsame
    rw [State.setFrames_setFrames] at e1
    have h2 : (T.setVm s.vm).sameButNew ({ U with vm := s.vm } : State) [] (0 + 1) (0 + 6) := ⟨e1, e2⟩
    have h3 := X.same.trans h2
    rw [List.append_nil] at h3
    exact h3.mono hc hs
  refine ⟨U, ?_, .threw T.heap.size, hrun, hend, Or.inr ⟨T.heap.size, rfl, cls, ce, locs, hx U hWs.alike f1 (fun q hq => f2 q hq (fun z hz => nomatch hz)), hce, hO.vm, hcl, hWs, hall, hf⟩⟩
  refine st1 _ ?_
  show Steps p.tables e below (T1.setTop { method := m, pc := pc + 3, locals := ls, stack := .ref T.heap.size :: rest, locked := none }) _
  jvm_step X₁.here [X₁.here.top, hexec, d3', Value.category]
  exact X₁.ldcStringW hexec (own := own) (text := text) (index := is) (a := sa) hown' hstr'.1 hstr'.2
    (g := { method := m, pc := pc + 4, locals := ls, stack := .ref T.heap.size :: .ref T.heap.size :: rest, locked := none }) rfl d4' _ hsteps
end Ends
section Bodies
variable {l : Launch}
theorem vx_ofW {y : MethodName} {ws ws' : List Cond} {rm : Room} {Pc : Array Value → State → Prop} {Qc : Array Value → State → Outcome → State → Prop} {XC : String → State → State → Prop} {mc ms : Nat} {free : Addr → Prop} {cc : ByteArray} {maxL : Nat} {ret : Option FieldType}
    (hy : plainName y.cls = true) (hw : ws = Cond.code y cc maxL ret :: ws')
    (body : ∀ p e s m args below meth c s₁, BodyLoose p l y (headSpec ws rm) cc maxL ret e s m args below meth c s₁ → c.maxLocals = maxL → (∀ x ∈ c.exceptionTable.toList, False) → Pc args s →
      W p l e (headSpec ws rm).room s m args below meth c s.heap [] 0 0 (vx_MQ below Qc XC args s mc ms free) (entryFrame m args maxL)) : vx_Met l y ws rm Pc Qc XC mc ms free := by
  refine MetFree.of_bodyS (code := cc) (maxLocals := maxL) (ret := ret) hy ?_ ?_
  · intro args s m h hn
    obtain ⟨meth, c, h1, h2, h3, h4, h5, h6, -, -⟩ := Cond.code_spec hn (atoms_spec (ws := ws) h _ (by rw [hw]; exact List.mem_cons_self))
    exact ⟨meth, c, h1, h2, h3, h4, h5, h6⟩
  · intro p e s m args below meth c s₁ B hml hP _
    have hh0 : s₁.heap = s.heap := by rw [B.state]; rfl
    have ht : ∀ x ∈ c.exceptionTable.toList, False := by
      obtain ⟨meth9, c9, h1, h2, -, -, -, -, h7, -⟩ := Cond.code_spec B.named (atoms_spec (ws := ws) B.pre _ (by rw [hw]; exact List.mem_cons_self))
      cases Option.some.inj (h1.symm.trans B.method)
      cases Option.some.inj (h2.symm.trans (Stand.of_body B).code)
      intro x hx
      rw [Array.isEmpty_iff.mp h7] at hx
      cases hx
    obtain ⟨t, a1, o, b1, b2, b3⟩ := body p e s m args below meth c s₁ B hml ht hP s₁ hh0 (Stand.of_body B)
    exact ⟨t, o, a1, b1, b2, b3⟩
/-- the table of a body with handlers -/
theorem vx_table {p : Program} {x y : MethodName} {S : Spec} {cc bytes : ByteArray} {maxL maxL' : Nat} {ret ret' : Option FieldType} {e : Env} {s s₁ : State} {m : MethodId} {args : Array Value} {below : List Frame} {meth : Method} {c : Code} {hh : List (Nat × Nat × Nat × Nat)}
    (B : BodyLoose p l y S cc maxL ret e s m args below meth c s₁) (h : (Cond.codeWith y bytes maxL' ret' hh).before args s = true) : c.exceptionTable.toList = tableOf hh := by
  obtain ⟨m9, meth9, c9, hn9, h1, h2, -, -, h6, -⟩ := Cond.codeWith_spec h
  cases Option.some.inj (hn9.symm.trans B.named)
  cases Option.some.inj (h1.symm.trans B.method)
  cases Option.some.inj (h2.symm.trans (Stand.of_body B).code)
  rw [← h6, table_eq]
end Bodies
end VXA
/-! ===== END ===== -/
/-! ===== BEGIN a static call of a method with an exception table ===== -/
section VXS
variable {p : Program} {l : Launch} {e : Env} {R : Room} {s : State} {m : MethodId} {args : Array Value} {below : List Frame} {meth : Method} {c : Code} {T : State} {H : Heap} {locs : List Loc} {cells slots : Nat}
abbrev vx_CSW (R : Room) (s : State) (args : Array Value) (own : String) (index : Nat) (y : MethodName) (bytes : ByteArray) (maxL : Nat) (ret : Option FieldType) (hh : List (Nat × Nat × Nat × Nat)) (ws : List Cond) (rm : Room) (mc ms n : Nat) : Prop :=
  (rm.cells = mc ∧ rm.slots = ms ∧ rm.frames + 1 ≤ R.frames ∧ 8 + (maxL + 11) + rm.locals ≤ R.locals ∧ (∀ w ∈ ws, ∀ (a' : Array Value) (U : State), s.WarmedH U.vm → w.before a' U = true) ∧ Cond.codeWith y bytes maxL ret hh ∈ ws) ∧
  (Cond.codeWith y bytes maxL ret hh).before args s = true ∧ (Cond.initialized y.cls).before args s = true ∧ (y.cls ≠ "java/lang/invoke/MethodHandle" ∧ y.cls ≠ "java/lang/invoke/VarHandle") ∧
  (∀ sig, parseMethodDescriptor y.desc = some sig → n = sig.parameters.length) ∧ (Cond.methodLink own index y).before args s = true ∧ (Cond.static y).before args s = true
theorem vx_cwSW {own : String} {index maxL mc ms : Nat} {y : MethodName} {bytes : ByteArray} {ret : Option FieldType} {hh : List (Nat × Nat × Nat × Nat)} {Ts ws ws' : List Cond} {rm : Room} (n : Nat) (ht : ∀ w ∈ Ts, w.before args s = true) (hT : GoodIn Ts (va_wsS own index y ws)) (hw : ws = Cond.codeWith y bytes maxL ret hh :: ws') (hrc : rm.cells = mc) (hrs : rm.slots = ms)
    (hd : y.cls ≠ "java/lang/invoke/MethodHandle" ∧ y.cls ≠ "java/lang/invoke/VarHandle" ∧ (parseMethodDescriptor y.desc).map (fun d => d.parameters.length) = some n) (hR : rm.frames + 1 ≤ R.frames ∧ 8 + (maxL + 11) + rm.locals ≤ R.locals) :
    vx_CSW R s args own index y bytes maxL ret hh ws rm mc ms n := by
  have ok : ∀ w ∈ va_wsS own index y ws, w.before args s = true := fun w h => ht w (hT w h).1
  have hG : GoodIn Ts ws := fun w h => hT w (by unfold va_wsS; exact List.mem_append_right _ h)
  have hc : Cond.codeWith y bytes maxL ret hh ∈ ws := by rw [hw]; exact List.mem_cons_self
  refine ⟨⟨hrc, hrs, hR.1, hR.2, pay_in ht hG, hc⟩, ht _ (hG _ hc).1, ok _ (by simp [va_wsS]), ⟨hd.1, hd.2.1⟩, fun sig h => ?_, ok _ (by simp [va_wsS]), ok _ (by simp [va_wsS])⟩
  have h2 := hd.2.2
  rw [h] at h2
  exact (Option.some.inj h2).symm
theorem vx_callSW (X : Stand p l e R s m args below meth c T locs cells slots) (hexec : p.tables.exec = Jvm.exec) {own : String} {index : Nat} {y : MethodName} {bytes : ByteArray} {maxL : Nat} {ret : Option FieldType} {hh : List (Nat × Nat × Nat × Nat)}
    (hown : s.vm.findClass own = some m.cls) (hlink : (Cond.methodLink own index y).before args s = true) (hstat : (Cond.static y).before args s = true) (hinit : (Cond.initialized y.cls).before args s = true)
    (hcode : (Cond.codeWith y bytes maxL ret hh).before args s = true) (hy : y.cls ≠ "java/lang/invoke/MethodHandle" ∧ y.cls ≠ "java/lang/invoke/VarHandle")
    {W9 : Nat} {Pre : Pt → Array Value → Prop} {Post : Pt → Array Value → Option Value → Pt → Prop} (hK : Back l R p e below s args y 3 W9 Pre Post)
    {g : JFrame} (hg : g.method = m) (hsize : g.locals.size = c.maxLocals) {argsL rest : List Value} (hlen : ∀ sig, parseMethodDescriptor y.desc = some sig → argsL.length = sig.parameters.length)
    (hstack : g.stack = argsL.reverse ++ rest) (hW : 2 * g.monitorRoom + (rest.map fun v => v.category).sum ≤ W9) (hdg : decode c.code g.pc = .ok (.invokestatic index, 3))
    (hpre : ∀ vm₁, s.WarmedH vm₁ → Pre ⟨T.setVm vm₁, locs, cells, slots⟩ argsL.toArray) :
    ∃ (v : Option Value) (vm₁ : Vm) (B : Pt), s.WarmedH vm₁ ∧ Stand p l e R s m args below meth c B.U B.locs B.cells B.slots ∧ Post ⟨T.setVm vm₁, locs, cells, slots⟩ argsL.toArray v B ∧
      ∀ target, Steps p.tables e below (B.U.setTop { g with pc := g.pc + 3, stack := v.toList ++ rest }) target → Steps p.tables e below (T.setTop g) target := by
  obtain ⟨mk, methM, cM, hnamed, hmethM, -, -, -, -, -, -, hsigM⟩ := Cond.codeWith_spec hcode
  have hstatic : methM.isStatic = true := Cond.static_spec hnamed hmethM hstat
  obtain ⟨kP, hkP, -⟩ := className_of_methodNamed hnamed
  have hinitP : kP.init = .initialized := Cond.initialized_spec (findClass_of_methodNamed hnamed) hkP hinit
  obtain ⟨vm₁, X₁, hstep₁⟩ := X.invokestatic hexec hown hlink hnamed hmethM hstatic hkP hinitP hy (g := g) hg (argsL := argsL) (rest := rest) (hlen _ hsigM) hstack hdg
  obtain ⟨v, B, X', hpost, hsteps⟩ := hK m meth c ⟨T.setVm vm₁, locs, cells, slots⟩ { g with stack := rest } (.invokestatic index) mk argsL.toArray X₁ hg hsize hdg hW (X₁.named hnamed) (hpre vm₁ X₁.warmed)
  exact ⟨v, vm₁, B, X₁.warmed, X', hpost, fun target h => hstep₁ _ fun acts => by rw [doInvoke_state]; exact hsteps.trans h⟩
theorem vx_runSW {y : MethodName} {bytes cc : ByteArray} {maxL nL mc ms n index : Nat} {ret : Option FieldType} {hh : List (Nat × Nat × Nat × Nat)} {ws : List Cond} {rm : Room} {Pc : Array Value → State → Prop} {Qc : Array Value → State → Outcome → State → Prop} {free : Addr → Prop} {Ts : List Cond} {own : String} {As rest : List Value} {g : JFrame}
    (S : CallFix p m c cc nL s args Ts own) (hM : Met l y ws rm Pc Qc mc ms free) (cw : vx_CSW R s args own index y bytes maxL ret hh ws rm mc ms n) (hp : PreS s H Pc As)
    (hg : g.method = m) (hn : As.length = n) (hsize : g.locals.size = nL) (hstack : g.stack = As.reverse ++ rest) (hW : 2 * g.monitorRoom + (rest.map fun v => v.category).sum ≤ 8) (hdg : decode cc g.pc = .ok (.invokestatic index, 3)) (hf : cells + mc ≤ R.cells ∧ slots + ms ≤ R.slots) :
    va_Run p l e R s m args below meth c H locs cells slots mc ms g rest (Qc As.toArray) (free) := by
  obtain ⟨⟨hrc, hrs, hfr, hlo, hws, hcw⟩, hcode, hini, hy, hlen, hl, hstt⟩ := cw
  have hK : Back l R p e below s args y 3 8 (PreOf R mc ms Pc) (PostOf Qc mc ms free) := va_backW (hh := hh) (bytes := bytes) (maxL := maxL) (ret := ret) hM hp.1 hrc hrs hfr hlo hws hcw (fun a' U hW => word_at hW (Or.inl (by first | rfl | simp [Cond.onTables, Cond.keeps, Cond.steady])) hini)
  obtain ⟨hx, hb, hml, ho, -⟩ := S
  intro T hT X
  obtain ⟨v, vm₁, ⟨U', l2, c2, s2⟩, hW₁, X', ⟨g', mk, t, L, e1, e2, hq, h1, hL, h2, h3⟩, st⟩ := vx_callSW X hx (hh := hh) (bytes := bytes) (maxL := maxL) (ret := ret) ho hl hstt hini hcode hy hK hg (hsize.trans hml.symm) (argsL := As) (rest := rest) (fun sig h => hn.trans (hlen sig h)) hstack hW (by rw [hb]; exact hdg)
    (fun vm₁ hW₁ => ⟨hf.1, hf.2, hp.2 (T.setVm vm₁) hT hW₁⟩)
  dsimp only [Pt.U, Pt.locs, Pt.cells, Pt.slots] at X' e1 e2 h1 h2 h3 st
  subst h1; subst h2; subst h3
  exact ⟨v, (T.setVm vm₁).calling g' mk As.toArray, t, U', L, hT, X', hL, e1, e2, hq, st⟩
/-- a thing of a world lies in the heap -/
theorem vx_lt {D : va_G} {cl : List vw_C} {ws : va_W} {H1 : Heap} (h : va_P D cl ws H1) {k : Nat} {q : Nat × va_E} (hk : ws[k]? = some q) : q.1 < H1.size := (h k q hk).lt
end VXS
/-! ===== END ===== -/
/-! ===== BEGIN methods with a table of their own: called by a name, returning or throwing ===== -/
section VXH
/-! vx_backW, vx_callVX, vx_callSX, vx_callVW, vx_runVW, vx_runVX, vx_runSX, vx_ofWH follow the same proofs as their sisters above (Free/Laws.lean, Shelf42/LK1.lean); vx_outP calls Shelf42/NT130.lean (outThrough). -/
section
variable {l : Launch} {R : Room} {p : Program} {e : Env} {below : List Frame} {s : State} {sargs : Array Value} {y : MethodName} {len W9 : Nat}
theorem vx_backW {ws : List Cond} {rm : Room} {Pc : Array Value → State → Prop} {Qc : Array Value → State → Outcome → State → Prop} {XC : String → State → State → Prop} {mc ms : Nat} {free : Addr → Prop} {bytes : ByteArray} {maxL : Nat} {ret : Option FieldType} {hh : List (Nat × Nat × Nat × Nat)}
    (hM : vx_Met l y ws rm Pc Qc XC mc ms free) (hblind : FrameBlind Pc) (hrc : rm.cells = mc) (hrs : rm.slots = ms)
    (hframes : rm.frames + 1 ≤ R.frames) (hlocals : W9 + (maxL + 11) + rm.locals ≤ R.locals)
    (hws : ∀ w ∈ ws, ∀ a' U, s.WarmedH U.vm → w.before a' U = true) (hcode : Cond.codeWith y bytes maxL ret hh ∈ ws) (hinit : ∀ a' U, s.WarmedH U.vm → (Cond.initialized y.cls).before a' U = true) :
    vx_Back l R p e below s sargs y len W9 (PreOf R mc ms Pc) (PostOf Qc mc ms free) (vx_Post XC mc ms free) := by
  intro m meth c A g ig mk a X hg hsize hdg hW hn hp
  have h1 : (headSpec ws rm).pre.before a A.U = true := atoms_intro fun w hw => hws w hw _ _ X.warmed
  have h2 : (Cond.codeWith y bytes maxL ret hh).before a A.U = true := hws _ hcode _ _ X.warmed
  have h3 : (Cond.initialized y.cls).before a A.U = true := hinit _ _ X.warmed
  have h4 : A.cells + (headSpec ws rm).room.cells ≤ R.cells := by rw [show (headSpec ws rm).room.cells = mc from hrc]; exact hp.1
  have h5 : A.slots + (headSpec ws rm).room.slots ≤ R.slots := by rw [show (headSpec ws rm).room.slots = ms from hrs]; exact hp.2.1
  have hPc : Pc a (A.U.calling g mk a) := hblind _ _ _ _ hp.2.2
  obtain ⟨U, Ls, c0, s0⟩ := A
  dsimp only [Pt.U, Pt.locs, Pt.cells, Pt.slots] at h1 h2 h3 h4 h5 X hn hPc ⊢
  obtain ⟨m9, methY, cY, hn9, hmY, hcY, -, hlY, -⟩ := Cond.codeWith_spec h2
  cases Option.some.inj (hn9.symm.trans hn)
  obtain ⟨kY, hkY, -⟩ := className_of_methodNamed hn
  have hinitY : kY.init = .initialized := Cond.initialized_spec (findClass_of_methodNamed hn) hkY h3
  have h : At U g.method c below := by rw [hg]; exact X.here
  have hlocals9 : W9 + (maxL + 11) + (headSpec ws rm).room.locals ≤ R.locals := hlocals
  have happ : (headSpec ws rm).appliesLoose y e.platform (U.calling g mk a) = true :=
    Spec.appliesLoose_calling (g := g) h hdg hn hkY hinitY
      (X.room_calling (g := g) (R' := (headSpec ws rm).room) hsize hmY hcY hframes (by rw [hlY]; omega) h4 h5) h1
  obtain ⟨mid, hmid⟩ := h.above
  have hfr : (U.setTop g).frames = (.java g :: mid) ++ below := by rw [State.frames_setTop' g h.top, hmid]; rfl
  obtain ⟨o, s₂, hsteps, -, hend, hq⟩ := Steps.callFree hM p X.admits X.cas X.clock (acts := []) hfr happ hPc trivial
  have hq' : vx_Q Qc XC mc ms free a (U.calling g mk a) o s₂ := hq
  rw [State.frames_setTop' g h.top] at hend
  obtain ⟨g₀, hg0⟩ := Option.isSome_iff_exists.mp h.top
  obtain ⟨r, hr⟩ := State.topJava?_eq_some.mp hg0
  have hr' : (({ U with heap := s₂.heap, slotsUsed := s₂.slotsUsed } : State).setVm s₂.vm).frames = .java g₀ :: r := hr
  rcases hq' with ⟨hqc, L, hfe, hL⟩ | ⟨q, rfl, E, ce, L, hx, hce, hcv, hcl, hW₂, hsm, hL⟩
  · obtain ⟨⟨v, rfl⟩, hW₂, e2, q2, q3, q4, q5, q6⟩ := id hfe
    have e3 : s₂ = ({ (U.calling g mk a).setFrames s₂.frames with heap := s₂.heap, slotsUsed := s₂.slotsUsed } : State).setVm s₂.vm := by
      have : s₂ = ({ s₂ with vm := (U.calling g mk a).vm } : State).setVm s₂.vm := rfl
      rw [e2] at this
      exact this
    obtain ⟨c₂, i₂, len₂, hc₂, hd₂, hf₂⟩ := hend
    have hW' : U.WarmedH s₂.vm := hW₂
    have hcc : c₂ = c := by
      have h1 : s₂.code? g.method = U.code? g.method := by
        rw [State.code?_eq, State.code?_eq, hW'.alike.method?]
      exact Option.some.inj (hc₂.symm.trans (h1.trans h.code))
    subst hcc
    have hlen : len₂ = len := by rw [hdg] at hd₂; cases hd₂; rfl
    subst hlen
    have hs₂ : s₂ = (({ U with heap := s₂.heap, slotsUsed := s₂.slotsUsed } : State).setVm s₂.vm).setTop { g with pc := g.pc + len₂, stack := v.toList ++ g.stack } := by
      refine e3.trans ?_
      rw [hf₂, State.calling_eq h.top, State.setFrames_setFrames, State.setTop_of_frames _ hr', hr]
      rfl
    have hsame : U.sameButNew ({ U with heap := s₂.heap, slotsUsed := s₂.slotsUsed } : State) L mc ms := by
      refine ⟨?_, q2, q3, q4, q5, q6⟩
      obtain ⟨t, ht, -⟩ := State.frames_cons hr
      show ({ U with heap := s₂.heap, slotsUsed := s₂.slotsUsed } : State) = { U.setFrames U.frames with heap := s₂.heap, slotsUsed := s₂.slotsUsed }
      rw [State.setFrames_self ht]
    subst hg
    refine Or.inl ⟨v, ⟨(({ U with heap := s₂.heap, slotsUsed := s₂.slotsUsed } : State).setVm s₂.vm), Ls ++ L, c0 + mc, s0 + ms⟩,
      ⟨X.admits, X.cas, X.clock, X.frames, X.room, X.hears, X.method, X.code, (X.here.setHeapUsed s₂.heap s₂.slotsUsed).setVm hW'.alike, X.tail, State.WarmedH.trans X.warmed hW', X.limits, X.bytes, X.same.trans (hsame.setVm s.vm)⟩,
      ⟨g, mk, s₂, L, rfl, rfl, hqc, rfl, hL, rfl, rfl⟩, ?_⟩
    show Steps p.tables e below _ ((({ U with heap := s₂.heap, slotsUsed := s₂.slotsUsed } : State).setVm s₂.vm).setTop { g with pc := g.pc + len₂, stack := v.toList ++ g.stack })
    rw [← hs₂]
    exact hsteps
  · obtain ⟨e2, q2, q3, q4, q5, q6⟩ := id hsm
    have e3 : s₂ = ({ (U.calling g mk a).setFrames s₂.frames with heap := s₂.heap, slotsUsed := s₂.slotsUsed } : State).setVm s₂.vm := by
      have : s₂ = ({ s₂ with vm := (U.calling g mk a).vm } : State).setVm s₂.vm := rfl
      rw [e2] at this
      exact this
    have hf₂ : s₂.frames = .throwing q :: .java g :: U.frames.tail := hend
    have hW' : U.WarmedH s₂.vm := hW₂
    have hs₂ : s₂ = ((({ U with heap := s₂.heap, slotsUsed := s₂.slotsUsed } : State).setVm s₂.vm).setTop g).pushFrame (.throwing q) := by
      refine e3.trans ?_
      rw [hf₂, State.calling_eq h.top, State.setFrames_setFrames, State.pushFrame, State.frames_setTop _ hr', State.setTop_of_frames _ hr', State.setFrames_setFrames, hr]
      rfl
    have hsame : U.sameButNew ({ U with heap := s₂.heap, slotsUsed := s₂.slotsUsed } : State) L mc ms := by
      refine ⟨?_, q2, q3, q4, q5, q6⟩
      obtain ⟨t, ht, -⟩ := State.frames_cons hr
      show ({ U with heap := s₂.heap, slotsUsed := s₂.slotsUsed } : State) = { U.setFrames U.frames with heap := s₂.heap, slotsUsed := s₂.slotsUsed }
      rw [State.setFrames_self ht]
    subst hg
    refine Or.inr ⟨q, ⟨(({ U with heap := s₂.heap, slotsUsed := s₂.slotsUsed } : State).setVm s₂.vm), Ls ++ L, c0 + mc, s0 + ms⟩,
      ⟨X.admits, X.cas, X.clock, X.frames, X.room, X.hears, X.method, X.code, (X.here.setHeapUsed s₂.heap s₂.slotsUsed).setVm hW'.alike, X.tail, State.WarmedH.trans X.warmed hW', X.limits, X.bytes, X.same.trans (hsame.setVm s.vm)⟩,
      ⟨g, mk, s₂, L, E, ce, rfl, rfl, hx, hce, hcv, hcl, rfl, hL, rfl, rfl⟩, ?_⟩
    show Steps p.tables e below _ (((({ U with heap := s₂.heap, slotsUsed := s₂.slotsUsed } : State).setVm s₂.vm).setTop g).pushFrame (.throwing q))
    rw [← hs₂]
    exact hsteps
end
variable {p : Program} {l : Launch} {e : Env} {R : Room} {s : State} {m : MethodId} {args : Array Value} {below : List Frame} {meth : Method} {c : Code} {T : State} {H : Heap} {locs : List Loc} {cells slots : Nat}
theorem vx_callVX (X : Stand p l e R s m args below meth c T locs cells slots) (hexec : p.tables.exec = Jvm.exec) {own C : String} {index : Nat} {y : MethodName} {bytes : ByteArray} {maxL : Nat} {ret : Option FieldType} {hh : List (Nat × Nat × Nat × Nat)}
    (hown : s.vm.findClass own = some m.cls) (hlink : (Cond.methodLink own index y).before args s = true) (hinst : (Cond.instanceMethod y).before args s = true) (hsel : (Cond.selects C y y).before args s = true)
    (hcode : (Cond.codeWith y bytes maxL ret hh).before args s = true) (hy : y.cls ≠ "java/lang/invoke/MethodHandle" ∧ y.cls ≠ "java/lang/invoke/VarHandle")
    {W9 : Nat} {Pre : Pt → Array Value → Prop} {Post : Pt → Array Value → Option Value → Pt → Prop} {PostX : Pt → Array Value → Addr → Pt → Prop} (hK : vx_Back l R p e below s args y 3 W9 Pre Post PostX)
    {b : Addr} {cellB : Cell} (hcell : T.heap[b]? = some cellB) (hobj : cellB.vm.isStatics = false) (hcls : s.vm.findClass C = some cellB.cls)
    {g : JFrame} (hg : g.method = m) (hsize : g.locals.size = c.maxLocals) {argsL rest : List Value} (hlen : ∀ sig, parseMethodDescriptor y.desc = some sig → argsL.length = sig.parameters.length)
    (hstack : g.stack = argsL.reverse ++ .ref b :: rest) (hW : 2 * g.monitorRoom + (rest.map fun v => v.category).sum ≤ W9) (hdg : decode c.code g.pc = .ok (.invokevirtual index, 3))
    (hpre : ∀ vm₁, s.WarmedH vm₁ → Pre ⟨T.setVm vm₁, locs, cells, slots⟩ (Value.ref b :: argsL).toArray) :
    (∃ (v : Option Value) (vm₁ : Vm) (B : Pt), s.WarmedH vm₁ ∧ Stand p l e R s m args below meth c B.U B.locs B.cells B.slots ∧ Post ⟨T.setVm vm₁, locs, cells, slots⟩ (Value.ref b :: argsL).toArray v B ∧
      ∀ target, Steps p.tables e below (B.U.setTop { g with pc := g.pc + 3, stack := v.toList ++ rest }) target → Steps p.tables e below (T.setTop g) target) ∨
    (∃ (q : Addr) (vm₁ : Vm) (B : Pt), s.WarmedH vm₁ ∧ Stand p l e R s m args below meth c B.U B.locs B.cells B.slots ∧ PostX ⟨T.setVm vm₁, locs, cells, slots⟩ (Value.ref b :: argsL).toArray q B ∧
      Steps p.tables e below (T.setTop g) ((B.U.setTop { g with stack := rest }).pushFrame (.throwing q))) := by
  obtain ⟨mk, methM, hnamed, hmethM, hstM, habM⟩ := Cond.instanceMethod_spec hinst
  obtain ⟨m8, methM', cM, hn8, hmethM', -, -, -, -, -, -, hsigM⟩ := Cond.codeWith_spec hcode
  cases Option.some.inj (hn8.symm.trans hnamed)
  cases hmethM.symm.trans hmethM'
  obtain ⟨c2, r2, m2, q1, q2, q3, q4, kP, hkP, hkPi⟩ := Cond.selects_spec hsel
  cases hcls.symm.trans q1
  cases (State.methodFound?_of_named hnamed hy).symm.trans q2
  cases hnamed.symm.trans q3
  have hselP : selectMethod e.platform s.vm cellB.cls mk = .method mk := by rw [Launch.admits_selectMethod X.admits]; exact q4
  obtain ⟨vm₁, X₁, hstep₁⟩ := X.invokevirtual hexec hown hlink hnamed hmethM hstM hkP hkPi hy (a := b) (cell := cellB) hcell
    (fun z h => by rw [h] at hobj; cases hobj) hselP hmethM habM hkP hkPi (g := g) hg (argsL := argsL) (rest := rest) (hlen _ hsigM) hstack hdg
  rcases hK m meth c ⟨T.setVm vm₁, locs, cells, slots⟩ { g with stack := rest } (.invokevirtual index) mk (Value.ref b :: argsL).toArray X₁ hg hsize hdg hW (X₁.named hnamed) (hpre vm₁ X₁.warmed) with ⟨v, B, X', hpost, hsteps⟩ | ⟨q, B, X', hpost, hsteps⟩
  · exact Or.inl ⟨v, vm₁, B, X₁.warmed, X', hpost, fun target h => hstep₁ _ fun acts => by rw [doInvoke_state]; exact hsteps.trans h⟩
  · exact Or.inr ⟨q, vm₁, B, X₁.warmed, X', hpost, hstep₁ _ fun acts => by rw [doInvoke_state]; exact hsteps⟩
theorem vx_callSX (X : Stand p l e R s m args below meth c T locs cells slots) (hexec : p.tables.exec = Jvm.exec) {own : String} {index : Nat} {y : MethodName} {bytes : ByteArray} {maxL : Nat} {ret : Option FieldType} {hh : List (Nat × Nat × Nat × Nat)}
    (hown : s.vm.findClass own = some m.cls) (hlink : (Cond.methodLink own index y).before args s = true) (hstat : (Cond.static y).before args s = true) (hinit : (Cond.initialized y.cls).before args s = true)
    (hcode : (Cond.codeWith y bytes maxL ret hh).before args s = true) (hy : y.cls ≠ "java/lang/invoke/MethodHandle" ∧ y.cls ≠ "java/lang/invoke/VarHandle")
    {W9 : Nat} {Pre : Pt → Array Value → Prop} {Post : Pt → Array Value → Option Value → Pt → Prop} {PostX : Pt → Array Value → Addr → Pt → Prop} (hK : vx_Back l R p e below s args y 3 W9 Pre Post PostX)
    {g : JFrame} (hg : g.method = m) (hsize : g.locals.size = c.maxLocals) {argsL rest : List Value} (hlen : ∀ sig, parseMethodDescriptor y.desc = some sig → argsL.length = sig.parameters.length)
    (hstack : g.stack = argsL.reverse ++ rest) (hW : 2 * g.monitorRoom + (rest.map fun v => v.category).sum ≤ W9) (hdg : decode c.code g.pc = .ok (.invokestatic index, 3))
    (hpre : ∀ vm₁, s.WarmedH vm₁ → Pre ⟨T.setVm vm₁, locs, cells, slots⟩ argsL.toArray) :
    (∃ (v : Option Value) (vm₁ : Vm) (B : Pt), s.WarmedH vm₁ ∧ Stand p l e R s m args below meth c B.U B.locs B.cells B.slots ∧ Post ⟨T.setVm vm₁, locs, cells, slots⟩ argsL.toArray v B ∧
      ∀ target, Steps p.tables e below (B.U.setTop { g with pc := g.pc + 3, stack := v.toList ++ rest }) target → Steps p.tables e below (T.setTop g) target) ∨
    (∃ (q : Addr) (vm₁ : Vm) (B : Pt), s.WarmedH vm₁ ∧ Stand p l e R s m args below meth c B.U B.locs B.cells B.slots ∧ PostX ⟨T.setVm vm₁, locs, cells, slots⟩ argsL.toArray q B ∧
      Steps p.tables e below (T.setTop g) ((B.U.setTop { g with stack := rest }).pushFrame (.throwing q))) := by
  obtain ⟨mk, methM, cM, hnamed, hmethM, -, -, -, -, -, -, hsigM⟩ := Cond.codeWith_spec hcode
  have hstatic : methM.isStatic = true := Cond.static_spec hnamed hmethM hstat
  obtain ⟨kP, hkP, -⟩ := className_of_methodNamed hnamed
  have hinitP : kP.init = .initialized := Cond.initialized_spec (findClass_of_methodNamed hnamed) hkP hinit
  obtain ⟨vm₁, X₁, hstep₁⟩ := X.invokestatic hexec hown hlink hnamed hmethM hstatic hkP hinitP hy (g := g) hg (argsL := argsL) (rest := rest) (hlen _ hsigM) hstack hdg
  rcases hK m meth c ⟨T.setVm vm₁, locs, cells, slots⟩ { g with stack := rest } (.invokestatic index) mk argsL.toArray X₁ hg hsize hdg hW (X₁.named hnamed) (hpre vm₁ X₁.warmed) with ⟨v, B, X', hpost, hsteps⟩ | ⟨q, B, X', hpost, hsteps⟩
  · exact Or.inl ⟨v, vm₁, B, X₁.warmed, X', hpost, fun target h => hstep₁ _ fun acts => by rw [doInvoke_state]; exact hsteps.trans h⟩
  · exact Or.inr ⟨q, vm₁, B, X₁.warmed, X', hpost, hstep₁ _ fun acts => by rw [doInvoke_state]; exact hsteps⟩
theorem vx_callVW (X : Stand p l e R s m args below meth c T locs cells slots) (hexec : p.tables.exec = Jvm.exec) {own C : String} {index : Nat} {y : MethodName} {bytes : ByteArray} {maxL : Nat} {ret : Option FieldType} {hh : List (Nat × Nat × Nat × Nat)}
    (hown : s.vm.findClass own = some m.cls) (hlink : (Cond.methodLink own index y).before args s = true) (hinst : (Cond.instanceMethod y).before args s = true) (hsel : (Cond.selects C y y).before args s = true)
    (hcode : (Cond.codeWith y bytes maxL ret hh).before args s = true) (hy : y.cls ≠ "java/lang/invoke/MethodHandle" ∧ y.cls ≠ "java/lang/invoke/VarHandle")
    {W9 : Nat} {Pre : Pt → Array Value → Prop} {Post : Pt → Array Value → Option Value → Pt → Prop} (hK : Back l R p e below s args y 3 W9 Pre Post)
    {b : Addr} {cellB : Cell} (hcell : T.heap[b]? = some cellB) (hobj : cellB.vm.isStatics = false) (hcls : s.vm.findClass C = some cellB.cls)
    {g : JFrame} (hg : g.method = m) (hsize : g.locals.size = c.maxLocals) {argsL rest : List Value} (hlen : ∀ sig, parseMethodDescriptor y.desc = some sig → argsL.length = sig.parameters.length)
    (hstack : g.stack = argsL.reverse ++ .ref b :: rest) (hW : 2 * g.monitorRoom + (rest.map fun v => v.category).sum ≤ W9) (hdg : decode c.code g.pc = .ok (.invokevirtual index, 3))
    (hpre : ∀ vm₁, s.WarmedH vm₁ → Pre ⟨T.setVm vm₁, locs, cells, slots⟩ (Value.ref b :: argsL).toArray) :
    ∃ (v : Option Value) (vm₁ : Vm) (B : Pt), s.WarmedH vm₁ ∧ Stand p l e R s m args below meth c B.U B.locs B.cells B.slots ∧ Post ⟨T.setVm vm₁, locs, cells, slots⟩ (Value.ref b :: argsL).toArray v B ∧
      ∀ target, Steps p.tables e below (B.U.setTop { g with pc := g.pc + 3, stack := v.toList ++ rest }) target → Steps p.tables e below (T.setTop g) target := by
  obtain ⟨mk, methM, hnamed, hmethM, hstM, habM⟩ := Cond.instanceMethod_spec hinst
  obtain ⟨m8, methM', cM, hn8, hmethM', -, -, -, -, -, -, hsigM⟩ := Cond.codeWith_spec hcode
  cases Option.some.inj (hn8.symm.trans hnamed)
  cases hmethM.symm.trans hmethM'
  obtain ⟨c2, r2, m2, q1, q2, q3, q4, kP, hkP, hkPi⟩ := Cond.selects_spec hsel
  cases hcls.symm.trans q1
  cases (State.methodFound?_of_named hnamed hy).symm.trans q2
  cases hnamed.symm.trans q3
  have hselP : selectMethod e.platform s.vm cellB.cls mk = .method mk := by rw [Launch.admits_selectMethod X.admits]; exact q4
  obtain ⟨vm₁, X₁, hstep₁⟩ := X.invokevirtual hexec hown hlink hnamed hmethM hstM hkP hkPi hy (a := b) (cell := cellB) hcell
    (fun z h => by rw [h] at hobj; cases hobj) hselP hmethM habM hkP hkPi (g := g) hg (argsL := argsL) (rest := rest) (hlen _ hsigM) hstack hdg
  obtain ⟨v, B, X', hpost, hsteps⟩ := hK m meth c ⟨T.setVm vm₁, locs, cells, slots⟩ { g with stack := rest } (.invokevirtual index) mk (Value.ref b :: argsL).toArray X₁ hg hsize hdg hW (X₁.named hnamed) (hpre vm₁ X₁.warmed)
  exact ⟨v, vm₁, B, X₁.warmed, X', hpost, fun target h => hstep₁ _ fun acts => by rw [doInvoke_state]; exact hsteps.trans h⟩
abbrev vx_CVW (R : Room) (s : State) (args : Array Value) (own C : String) (index : Nat) (y : MethodName) (bytes : ByteArray) (maxL : Nat) (ret : Option FieldType) (hh : List (Nat × Nat × Nat × Nat)) (ws : List Cond) (rm : Room) (mc ms n : Nat) : Prop :=
  (rm.cells = mc ∧ rm.slots = ms ∧ rm.frames + 1 ≤ R.frames ∧ 8 + (maxL + 11) + rm.locals ≤ R.locals ∧ (∀ w ∈ ws, ∀ (a' : Array Value) (U : State), s.WarmedH U.vm → w.before a' U = true) ∧ Cond.codeWith y bytes maxL ret hh ∈ ws) ∧
  (Cond.codeWith y bytes maxL ret hh).before args s = true ∧ (Cond.initialized y.cls).before args s = true ∧ (y.cls ≠ "java/lang/invoke/MethodHandle" ∧ y.cls ≠ "java/lang/invoke/VarHandle") ∧
  (∀ sig, parseMethodDescriptor y.desc = some sig → n = sig.parameters.length) ∧ (Cond.methodLink own index y).before args s = true ∧ (Cond.instanceMethod y).before args s = true ∧ (Cond.selects C y y).before args s = true
theorem vx_cwVW {own C : String} {index maxL mc ms : Nat} {y : MethodName} {bytes : ByteArray} {ret : Option FieldType} {hh : List (Nat × Nat × Nat × Nat)} {Ts ws ws' : List Cond} {rm : Room} (n : Nat) (ht : ∀ w ∈ Ts, w.before args s = true) (hT : GoodIn Ts (wsV own index C y ws)) (hw : ws = Cond.codeWith y bytes maxL ret hh :: ws') (hrc : rm.cells = mc) (hrs : rm.slots = ms)
    (hd : y.cls = C ∧ y.cls ≠ "java/lang/invoke/MethodHandle" ∧ y.cls ≠ "java/lang/invoke/VarHandle" ∧ (parseMethodDescriptor y.desc).map (fun d => d.parameters.length) = some n) (hR : rm.frames + 1 ≤ R.frames ∧ 8 + (maxL + 11) + rm.locals ≤ R.locals) :
    vx_CVW R s args own C index y bytes maxL ret hh ws rm mc ms n := by
  obtain ⟨hC, hd⟩ := hd
  subst hC
  have ok : ∀ w ∈ wsV own index y.cls y ws, w.before args s = true := fun w h => ht w (hT w h).1
  have hG : GoodIn Ts ws := fun w h => hT w (by unfold wsV; exact List.mem_append_right _ h)
  have hc : Cond.codeWith y bytes maxL ret hh ∈ ws := by rw [hw]; exact List.mem_cons_self
  refine ⟨⟨hrc, hrs, hR.1, hR.2, pay_in ht hG, hc⟩, ht _ (hG _ hc).1, ok _ (by simp [wsV]), ⟨hd.1, hd.2.1⟩, fun sig h => ?_, ok _ (by simp [wsV]), ok _ (by simp [wsV]), ok _ (by simp [wsV])⟩
  have h2 := hd.2.2
  rw [h] at h2
  exact (Option.some.inj h2).symm
theorem vx_runVW {y : MethodName} {bytes cc : ByteArray} {maxL nL mc ms n index : Nat} {ret : Option FieldType} {hh : List (Nat × Nat × Nat × Nat)} {ws : List Cond} {rm : Room} {Pc : Array Value → State → Prop} {Qc : Array Value → State → Outcome → State → Prop} {free : Addr → Prop} {Ts : List Cond} {own C : String} {b : Addr} {As rest : List Value} {g : JFrame}
    (S : CallFix p m c cc nL s args Ts own) (hM : Met l y ws rm Pc Qc mc ms free) (cw : vx_CVW R s args own C index y bytes maxL ret hh ws rm mc ms n) (hp : PreV s H C b Pc As)
    (hg : g.method = m) (hn : As.length = n) (hsize : g.locals.size = nL) (hstack : g.stack = As.reverse ++ .ref b :: rest) (hW : 2 * g.monitorRoom + (rest.map fun v => v.category).sum ≤ 8) (hdg : decode cc g.pc = .ok (.invokevirtual index, 3)) (hf : cells + mc ≤ R.cells ∧ slots + ms ≤ R.slots) :
    va_Run p l e R s m args below meth c H locs cells slots mc ms g rest (Qc (Value.ref b :: As).toArray) free := by
  obtain ⟨⟨hrc, hrs, hfr, hlo, hws, hcw⟩, hcode, hini, hy, hlen, hl, hin, hse⟩ := cw
  have hK : Back l R p e below s args y 3 8 (PreOf R mc ms Pc) (PostOf Qc mc ms free) := va_backW (hh := hh) (bytes := bytes) (maxL := maxL) (ret := ret) hM hp.1 hrc hrs hfr hlo hws hcw (fun a' U hW => word_at hW (Or.inl (by first | rfl | simp [Cond.onTables, Cond.keeps, Cond.steady])) hini)
  obtain ⟨hx, hb, hml, ho, -⟩ := S
  obtain ⟨-, ⟨cellB, hcB, hoB, hclB⟩, hPc⟩ := hp
  intro T hT X
  obtain ⟨v, vm₁, ⟨U', l2, c2, s2⟩, hW₁, X', ⟨g', mk, t, L, e1, e2, hq, h1, hL, h2, h3⟩, st⟩ := vx_callVW X hx (C := C) (hh := hh) (bytes := bytes) (maxL := maxL) (ret := ret) ho hl hin hse hcode hy hK (by rw [hT]; exact hcB) hoB hclB hg (hsize.trans hml.symm) (argsL := As) (rest := rest) (fun sig h => hn.trans (hlen sig h)) hstack hW (by rw [hb]; exact hdg)
    (fun vm₁ hW₁ => ⟨hf.1, hf.2, hPc (T.setVm vm₁) hT hW₁⟩)
  dsimp only [Pt.U, Pt.locs, Pt.cells, Pt.slots] at X' e1 e2 h1 h2 h3 st
  subst h1; subst h2; subst h3
  exact ⟨v, (T.setVm vm₁).calling g' mk (Value.ref b :: As).toArray, t, U', L, hT, X', hL, e1, e2, hq, st⟩
section
variable {y : MethodName} {bytes cc : ByteArray} {maxL nL mc ms n index : Nat} {ret : Option FieldType} {ws : List Cond} {rm : Room} {Pc : Array Value → State → Prop} {Qc : Array Value → State → Outcome → State → Prop} {XC : String → State → State → Prop} {free : Addr → Prop} {Ts : List Cond} {own C : String} {b : Addr} {As rest : List Value} {g : JFrame}
theorem vx_runVX {hh : List (Nat × Nat × Nat × Nat)} (S : CallFix p m c cc nL s args Ts own) (hM : vx_Met l y ws rm Pc Qc XC mc ms free) (cw : vx_CVW R s args own C index y bytes maxL ret hh ws rm mc ms n) (hp : PreV s H C b Pc As)
    (hg : g.method = m) (hn : As.length = n) (hsize : g.locals.size = nL) (hstack : g.stack = As.reverse ++ .ref b :: rest) (hW : 2 * g.monitorRoom + (rest.map fun v => v.category).sum ≤ 8) (hdg : decode cc g.pc = .ok (.invokevirtual index, 3)) (hf : cells + mc ≤ R.cells ∧ slots + ms ≤ R.slots) :
    vx_Run p l e R s m args below meth c H locs cells slots mc ms g rest (Qc (Value.ref b :: As).toArray) XC free := by
  obtain ⟨⟨hrc, hrs, hfr, hlo, hws, hcw⟩, hcode, hini, hy, hlen, hl, hin, hse⟩ := cw
  have hK : vx_Back l R p e below s args y 3 8 (PreOf R mc ms Pc) (PostOf Qc mc ms free) (vx_Post XC mc ms free) := vx_backW (hh := hh) (bytes := bytes) (maxL := maxL) (ret := ret) hM hp.1 hrc hrs hfr hlo hws hcw (fun a' U hW => word_at hW (Or.inl (by first | rfl | simp [Cond.onTables, Cond.keeps, Cond.steady])) hini)
  obtain ⟨hx, hb, hml, ho, -⟩ := S
  obtain ⟨-, ⟨cellB, hcB, hoB, hclB⟩, hPc⟩ := hp
  intro T hT X
  rcases vx_callVX X hx (C := C) (hh := hh) (bytes := bytes) (maxL := maxL) (ret := ret) ho hl hin hse hcode hy hK (by rw [hT]; exact hcB) hoB hclB hg (hsize.trans hml.symm) (argsL := As) (rest := rest) (fun sig h => hn.trans (hlen sig h)) hstack hW (by rw [hb]; exact hdg)
    (fun vm₁ hW₁ => ⟨hf.1, hf.2, hPc (T.setVm vm₁) hT hW₁⟩) with ⟨v, vm₁, ⟨U', l2, c2, s2⟩, hW₁, X', ⟨g', mk, t, L, e1, e2, hq, h1, hL, h2, h3⟩, st⟩ | ⟨q, vm₁, ⟨U', l2, c2, s2⟩, hW₁, X', ⟨g', mk, t, L, E, ce, e1, e2, hq, hce, hcv, hcl, h1, hL, h2, h3⟩, st⟩
  · dsimp only [Pt.U, Pt.locs, Pt.cells, Pt.slots] at X' e1 e2 h1 h2 h3 st
    subst h1; subst h2; subst h3
    exact Or.inl ⟨v, (T.setVm vm₁).calling g' mk (Value.ref b :: As).toArray, t, U', L, hT, X', hL, e1, e2, hq, st⟩
  · dsimp only [Pt.U, Pt.locs, Pt.cells, Pt.slots] at X' e1 e2 h1 h2 h3 st hcl
    subst h1; subst h2; subst h3
    exact Or.inr ⟨q, (T.setVm vm₁).calling g' mk (Value.ref b :: As).toArray, t, U', L, E, ce, hT, X', hL, e1, e2, hq, hce, hcv, vx_cls hW₁ hcl, st⟩
theorem vx_runSX {hh : List (Nat × Nat × Nat × Nat)} (S : CallFix p m c cc nL s args Ts own) (hM : vx_Met l y ws rm Pc Qc XC mc ms free) (cw : vx_CSW R s args own index y bytes maxL ret hh ws rm mc ms n) (hp : PreS s H Pc As)
    (hg : g.method = m) (hn : As.length = n) (hsize : g.locals.size = nL) (hstack : g.stack = As.reverse ++ rest) (hW : 2 * g.monitorRoom + (rest.map fun v => v.category).sum ≤ 8) (hdg : decode cc g.pc = .ok (.invokestatic index, 3)) (hf : cells + mc ≤ R.cells ∧ slots + ms ≤ R.slots) :
    vx_Run p l e R s m args below meth c H locs cells slots mc ms g rest (Qc As.toArray) XC free := by
  obtain ⟨⟨hrc, hrs, hfr, hlo, hws, hcw⟩, hcode, hini, hy, hlen, hl, hstt⟩ := cw
  have hK : vx_Back l R p e below s args y 3 8 (PreOf R mc ms Pc) (PostOf Qc mc ms free) (vx_Post XC mc ms free) := vx_backW (hh := hh) (bytes := bytes) (maxL := maxL) (ret := ret) hM hp.1 hrc hrs hfr hlo hws hcw (fun a' U hW => word_at hW (Or.inl (by first | rfl | simp [Cond.onTables, Cond.keeps, Cond.steady])) hini)
  obtain ⟨hx, hb, hml, ho, -⟩ := S
  intro T hT X
  rcases vx_callSX X hx (hh := hh) (bytes := bytes) (maxL := maxL) (ret := ret) ho hl hstt hini hcode hy hK hg (hsize.trans hml.symm) (argsL := As) (rest := rest) (fun sig h => hn.trans (hlen sig h)) hstack hW (by rw [hb]; exact hdg)
    (fun vm₁ hW₁ => ⟨hf.1, hf.2, hp.2 (T.setVm vm₁) hT hW₁⟩) with ⟨v, vm₁, ⟨U', l2, c2, s2⟩, hW₁, X', ⟨g', mk, t, L, e1, e2, hq, h1, hL, h2, h3⟩, st⟩ | ⟨q, vm₁, ⟨U', l2, c2, s2⟩, hW₁, X', ⟨g', mk, t, L, E, ce, e1, e2, hq, hce, hcv, hcl, h1, hL, h2, h3⟩, st⟩
  · dsimp only [Pt.U, Pt.locs, Pt.cells, Pt.slots] at X' e1 e2 h1 h2 h3 st
    subst h1; subst h2; subst h3
    exact Or.inl ⟨v, (T.setVm vm₁).calling g' mk As.toArray, t, U', L, hT, X', hL, e1, e2, hq, st⟩
  · dsimp only [Pt.U, Pt.locs, Pt.cells, Pt.slots] at X' e1 e2 h1 h2 h3 st hcl
    subst h1; subst h2; subst h3
    exact Or.inr ⟨q, (T.setVm vm₁).calling g' mk As.toArray, t, U', L, E, ce, hT, X', hL, e1, e2, hq, hce, hcv, vx_cls hW₁ hcl, st⟩
end
end VXH
theorem vx_ofWH {l : Launch} {y : MethodName} {ws ws' : List Cond} {rm : Room} {Pc : Array Value → State → Prop} {Qc : Array Value → State → Outcome → State → Prop} {XC : String → State → State → Prop} {mc ms : Nat} {free : Addr → Prop} {cc : ByteArray} {maxL : Nat} {ret : Option FieldType} {hh : List (Nat × Nat × Nat × Nat)}
    (hy : plainName y.cls = true) (hw : ws = Cond.codeWith y cc maxL ret hh :: ws')
    (body : ∀ p e s m args below meth c s₁, BodyLoose p l y (headSpec ws rm) cc maxL ret e s m args below meth c s₁ → c.maxLocals = maxL → Pc args s →
      W p l e (headSpec ws rm).room s m args below meth c s.heap [] 0 0 (vx_MQ below Qc XC args s mc ms free) (entryFrame m args maxL)) : vx_Met l y ws rm Pc Qc XC mc ms free := by
  refine MetFree.of_bodyS (code := cc) (maxLocals := maxL) (ret := ret) hy ?_ ?_
  · intro args s m h hn
    obtain ⟨m9, meth, c, hn9, h1, h2, h3, h4, -, h5, h6, -⟩ := Cond.codeWith_spec (atoms_spec (ws := ws) h _ (by rw [hw]; exact List.mem_cons_self))
    cases hn.symm.trans hn9
    exact ⟨meth, c, h1, h2, h3, h4, h5, h6⟩
  · intro p e s m args below meth c s₁ B hml hP _
    have hh0 : s₁.heap = s.heap := by rw [B.state]; rfl
    obtain ⟨t, a1, o, b1, b2, b3⟩ := body p e s m args below meth c s₁ B hml hP s₁ hh0 (Stand.of_body B)
    exact ⟨t, o, a1, b1, b2, b3⟩
/-! ===== END ===== -/
end
section
/-! 'throw new NoSuchElementException("text")': as vx_throwS, for a class whose constructor calls its super's by an entry of another number (13) than the library's own words have it (7). cy_chain, cy_ctor follow the library's chainS and ctorThrowS. -/
section CY
def cy_chainA (X : String) (ix : Nat) (rx : ByteArray) : List String → List Cond
  | [] => Bundle.passSAtoms X Bundle.tN ix rx
  | Y :: r => Bundle.passSAtoms X Y ix rx ++ Bundle.chainSAtoms Y r
theorem cy_chain {args : Array Value} {s : State} {pl : Platform} (hpl : pl.magicAccessors = ({} : Platform).magicAccessors) {top : MethodId} (htop : s.methodNamed? (Bundle.initS Bundle.tN) = some top)
    {ix : Nat} {rx : ByteArray} (x0 : decode rx 0 = .ok (.aload_n 0, 1)) (x1 : decode rx 1 = .ok (.aload_n 1, 1)) (x2 : decode rx 2 = .ok (.invokespecial ix, 3)) (x5 : decode rx 5 = .ok (.return_, 1)) :
    ∀ (names : List String) (X : String), Bundle.fit X = true → (∀ n ∈ names, Bundle.fit n = true) → (∀ c ∈ cy_chainA X ix rx names, c.before args s = true) →
      ∃ (P1 : PassC) (Ps : List PassC), Ps.length = names.length ∧ P1.LinksS pl s ∧ (∀ P, P ∈ Ps → P.LinksS pl s) ∧ s.methodNamed? (Bundle.initS X) = some P1.m ∧
        P1.sup = firstOf top (Ps.map (·.toPassT)) ∧ PassesOn top (Ps.map (·.toPassT)) := by
  intro names
  cases names with
  | nil =>
    intro X hX _ h
    obtain ⟨P, L, hm, hs⟩ := PassC.ofS_atoms (args := args) (s := s) hpl (X := X) (Y := Bundle.tN) (Bundle.fit_spec hX).1 (by decide) x0 x1 x2 x5 h
    exact ⟨P, [], rfl, L, (fun _ hP => by cases hP), hm, Option.some.inj (hs.symm.trans htop), trivial⟩
  | cons Y r =>
    intro X hX hn h
    obtain ⟨P, L, hm, hs⟩ := PassC.ofS_atoms (args := args) (s := s) hpl (X := X) (Y := Y) (Bundle.fit_spec hX).1 (Bundle.fit_spec (hn Y List.mem_cons_self)).2 x0 x1 x2 x5
      (fun c hc => h c (by simp only [cy_chainA, List.mem_append]; exact Or.inl hc))
    obtain ⟨P', Ps, hlen, L', hL, hm', hsup, hpass⟩ := Bundle.chainS (args := args) hpl htop r Y (hn Y List.mem_cons_self) (fun n hn' => hn n (List.mem_cons_of_mem _ hn')) (fun c hc => h c (by simp only [cy_chainA, List.mem_append]; exact Or.inr hc))
    refine ⟨P, P' :: Ps, by simp [hlen], L, ?_, hm, Option.some.inj (hs.symm.trans hm'), hsup, hpass⟩
    intro Q hQ
    rcases List.mem_cons.mp hQ with rfl | hQ
    · exact L'
    · exact hL Q hQ
def cy_own (own : String) (ic : Nat) (X : String) (ix : Nat) (rx : ByteArray) (names : List String) : List Cond :=
  Bundle.throwableAtoms ++ Bundle.throwableSAtoms ++ cy_chainA X ix rx names ++
  [.methodLink own ic (Bundle.initS X), .instantiable X 6, .castable X X, .selects X Bundle.tFill0 Bundle.tFill0, .selects X Bundle.tFill Bundle.tFill,
   .lays X Bundle.tN "cause" "Ljava/lang/Throwable;", .lays X Bundle.tN "stackTrace" Bundle.steD, .lays X Bundle.tN "suppressedExceptions" Bundle.listD, .lays X Bundle.tN "detailMessage" "Ljava/lang/String;",
   .isRef (.static Bundle.tN "UNASSIGNED_STACK" Bundle.steD), .isRef (.static Bundle.tN "SUPPRESSED_SENTINEL" Bundle.listD),
   .fieldLink Bundle.tN 198 Bundle.tN "backtrace" "Ljava/lang/Object;", .lays Bundle.tN Bundle.tN "backtrace" "Ljava/lang/Object;", .lays X Bundle.tN "backtrace" "Ljava/lang/Object;"]
variable {p : Program} {l : Launch} {e : Env} {R : Room} {s : State} {m₀ : MethodId} {args : Array Value} {below : List Frame} {meth : Method} {c : Code} {W : State} {locs : List Loc} {cells slots : Nat}
set_option maxHeartbeats 1000000 in
theorem cy_ctor (X : Stand p l e R s m₀ args below meth c W locs cells slots) (hexec : p.tables.exec = Jvm.exec) (htr : e.platform.stackTraces = false) {own cls : String} {names : List String} {ic : Nat} {ix : Nat} {rx : ByteArray} (x0 : decode rx 0 = .ok (.aload_n 0, 1)) (x1 : decode rx 1 = .ok (.aload_n 1, 1)) (x2 : decode rx 2 = .ok (.invokespecial ix, 3)) (x5 : decode rx 5 = .ok (.return_, 1))
    (hown : s.vm.findClass own = some m₀.cls) (hcls : Bundle.fit cls = true) (hnames : ∀ n ∈ names, Bundle.fit n = true)
    (h : ∀ a ∈ cy_own own ic cls ix rx names, a.before args s = true)
    (hlocs : ∀ x ∈ locs, ∀ cell, s.heap[x.base]? = some cell → cell.vm.isStatics = false)
    {a : Addr} {cX : ClassId} {kX : Class} (hfoundX : s.vm.findClass cls = some cX) (hkX : s.vm.classes[cX]? = some kX) (hcell : W.heap[a]? = some (freshCell cX kX)) (hnew : s.heap.size ≤ a)
    {msg : Value} (hmsg : msg.isRef = true)
    {g : JFrame} (hg : g.method = m₀) (hsize : g.locals.size = c.maxLocals) (hlocked : g.locked = none) (hentered : g.entered = []) {rest : List Value} (hstack : g.stack = msg :: .ref a :: .ref a :: rest)
    (hd6 : decode c.code g.pc = .ok (.invokespecial ic, 3)) (hd9 : decode c.code (g.pc + 3) = .ok (.athrow, 1)) (hout : ∀ x ∈ c.exceptionTable.toList, covers x (g.pc + 3) = false)
    (hRframes : names.length + 3 < R.frames) (hRlocals : 2 * g.monitorRoom + ((Value.ref a :: rest).map fun v => v.category).sum + (13 * (names.length + 1) + 42) ≤ R.locals) (hlocks : meth.locks = false := by first | assumption | exact BodyLoose.notSynchronized (by assumption) | exact Body.notSynchronized (by assumption)) :
    ∃ U : State, Steps p.tables e below (W.setTop g) U ∧ U.status = .running ∧ Ended U below (.threw a) ∧ s.WarmedH U.vm ∧ s.sameButNew ({ U with vm := s.vm } : State) locs cells slots ∧
      ∃ ce, U.heap[a]? = some ce ∧ Bundle.OwnCell args s cls a msg ce := by
  have howns : e.platform.frameOwnsMonitors = true := by rw [X.admits.platform]
  have hfin : e.platform.finalization = false := by rw [X.admits.platform]
  have hpl : e.platform.magicAccessors = ({} : Platform).magicAccessors := by rw [X.admits.platform]
  have a' : ∀ x, x ∈ cy_own own ic cls ix rx names → x.holds args s none s [] = true := fun x hx => h x hx
  obtain ⟨T, Z0, L, -, Y⟩ := ThrowableC.of_atoms (args := args) howns hfin hpl (fun x hx => h x (by simp [cy_own, hx]))
  obtain ⟨Z, M, LZ, LM, hnZ⟩ := Init0T.ofS_atoms (args := args) hpl L Y (fun x hx => h x (by simp [cy_own, hx]))
  obtain ⟨P1, Ps, hlen, L1, hL, hP1m, hlink1, hlink⟩ := cy_chain (args := args) hpl hnZ x0 x1 x2 x5 names cls hcls hnames (fun x hx => h x (by simp [cy_own, hx]))
  have hfound : s.vm.findClass cls = some P1.m.cls := findClass_of_methodNamed hP1m
  cases Option.some.inj (hfoundX.symm.trans hfound)
  obtain ⟨c1, kX', hc1, hk, hord, -, -, hn6⟩ := Cond.instantiable_spec (a' (.instantiable cls 6) (by simp [cy_own]))
  cases Option.some.inj (hc1.symm.trans hfound)
  cases Option.some.inj (hkX.symm.trans hk)
  have hsel0 : selectMethod e.platform s.vm P1.m.cls T.fill0 = .method T.fill0 := by
    obtain ⟨c2, r2, m2, q1, q2, q3, q4, -⟩ := Cond.selects_spec (a' (.selects cls Bundle.tFill0 Bundle.tFill0) (by simp [cy_own]))
    cases Option.some.inj (q1.symm.trans hfound)
    cases Option.some.inj (q2.symm.trans (State.methodFound?_of_named Y.fill0 (by decide)))
    cases Option.some.inj (q3.symm.trans Y.fill0)
    rw [Launch.admits_selectMethod X.admits]; exact q4
  have hselF : selectMethod e.platform s.vm P1.m.cls T.fill = .method T.fill := by
    obtain ⟨c2, r2, m2, q1, q2, q3, q4, -⟩ := Cond.selects_spec (a' (.selects cls Bundle.tFill Bundle.tFill) (by simp [cy_own]))
    cases Option.some.inj (q1.symm.trans hfound)
    cases Option.some.inj (q2.symm.trans (State.methodFound?_of_named Y.fill (by decide)))
    cases Option.some.inj (q3.symm.trans Y.fill)
    rw [Launch.admits_selectMethod X.admits]; exact q4
  obtain ⟨cellS0, hcS0, hiss⟩ := Y.statics
  obtain ⟨u0, hu0⟩ := Cond.staticRefV Y.unassigned L.unassignedStatic L.statics hcS0 hiss (a' (.isRef (.static Bundle.tN "UNASSIGNED_STACK" Bundle.steD)) (by simp [cy_own]))
  obtain ⟨sen, hsen⟩ := Cond.staticRefV Y.sentinel L.sentinelStatic L.statics hcS0 hiss (a' (.isRef (.static Bundle.tN "SUPPRESSED_SENTINEL" Bundle.listD)) (by simp [cy_own]))
  obtain ⟨ci198, i198, fB, hk198, hg198, ha198, hsB, -, hnB, htB, hffB⟩ := Cond.ownField (t := .object "java/lang/Object") Y.found L.cls (by decide +kernel) (a' (.fieldLink Bundle.tN 198 Bundle.tN "backtrace" "Ljava/lang/Object;") (by simp [cy_own])) (a' (.lays Bundle.tN Bundle.tN "backtrace" "Ljava/lang/Object;") (by simp [cy_own])) e.platform hpl
  obtain ⟨cellS, hcS', heS, -, hkeep⟩ := X.same.2.2.2.2.2 T.aS cellS0 hcS0
  have hcellS : W.heap[T.aS]? = some cellS := hcS'
  have hout' : ∀ i, (⟨T.aS, i⟩ : Loc) ∉ locs := fun i hmem => by
    have := hlocs _ hmem cellS0 hcS0
    rw [hiss] at this; cases this
  have hknownS : cellS.vm ≠ .unknown := by
    rw [heS]; intro hu
    rw [show cellS0.vm = .unknown from hu] at hiss
    cases hiss
  have hneS : T.aS ≠ a := Nat.ne_of_lt (Nat.lt_of_lt_of_le (Array.getElem?_eq_some_iff.mp hcS0).1 hnew)
  obtain ⟨iM, hffM⟩ := Y.msg
  obtain ⟨tyC, dC, hdC, hdnC⟩ := Cond.laysAt hfound hk Y.cause (a' (.lays cls Bundle.tN "cause" "Ljava/lang/Throwable;") (by simp [cy_own]))
  obtain ⟨tyS, dS, hdS, hdnS⟩ := Cond.laysAt hfound hk Y.stack (a' (.lays cls Bundle.tN "stackTrace" Bundle.steD) (by simp [cy_own]))
  obtain ⟨tyP, dP, hdP, hdnP⟩ := Cond.laysAt hfound hk Y.supp (a' (.lays cls Bundle.tN "suppressedExceptions" Bundle.listD) (by simp [cy_own]))
  obtain ⟨tyM, dM, hdM, hdnM⟩ := Cond.laysAt hfound hk hffM (a' (.lays cls Bundle.tN "detailMessage" "Ljava/lang/String;") (by simp [cy_own]))
  obtain ⟨tyB, dB, hdB, hdnB⟩ := Cond.laysAt hfound hk hffB (a' (.lays cls Bundle.tN "backtrace" "Ljava/lang/Object;") (by simp [cy_own]))
  have bC := Cond.laysApart hdB hdC hdnB hdnC (by rw [hnB, Y.causeName]; decide)
  have bS := Cond.laysApart hdB hdS hdnB hdnS (by rw [hnB, Y.stackName]; decide)
  have bP := Cond.laysApart hdB hdP hdnB hdnP (by rw [hnB, Y.suppName]; decide)
  have hskip : SkipFacts T e.platform s (fun u => u) u0 ((preparedCellV T.toThrowableT (freshCell P1.m.cls kX) a u0 sen).withEntry W.cur) :=
    ⟨{ ci198 := ci198, i198 := i198, fBack := fB }, ⟨hk198, hg198, ha198, hsB⟩, by
      have := fresh_default (c := P1.m.cls) tyB
      rw [htB] at this
      simpa [preparedCellV, Cell.setSlot, Cell.withEntry, Array.getElem?_setIfInBounds, bC, bS, bP, bC.symm, bS.symm, bP.symm, defaultValue] using this, fun _ _ => rfl⟩
  obtain ⟨tm, methC, cdC, kC, vm₁, hnC, -, -, -, -, -, -, -, hW₁, st1⟩ := Steps.initColdS (tb := p.tables) (e := e) (below := below) (s := s) (U := W) X.here hexec X.warmed hpl hown (t := Bundle.initS cls) rfl rfl (Bundle.fit_spec hcls).2
    (a' (.methodLink own ic (Bundle.initS cls)) (by simp [cy_own])) (h (.instanceMethod (Bundle.initS cls)) (by cases names <;> simp [cy_own, cy_chainA, Bundle.passSAtoms])) (bytes := rx) (maxL := 2) (h (.code (Bundle.initS cls) rx 2 none) (by cases names <;> simp [cy_own, cy_chainA, Bundle.passSAtoms]))
    (f := g) hg (a := a) (msg := msg) (rest := .ref a :: rest) hstack hd6
  cases Option.some.inj (hnC.symm.trans hP1m)
  have X₁ := X.noted hW₁
  obtain ⟨vm₂, X₂, st2⟩ := X₁.ctorMessageOffV hexec (g := { g with stack := .ref a :: rest }) hg hsize T L Z LZ M LM (P1 :: Ps)
    (fun P hP => by rcases List.mem_cons.mp hP with rfl | hP; exact L1; exact hL P hP) ⟨hlink1, hlink⟩ (u0 := u0) (sen := sen) (self := a) hmsg (cell := freshCell P1.m.cls kX) (cellS := cellS)
    hcell (fun _ => by simp) (by simp) rfl rfl hsel0 hselF hcellS hneS hknownS (by rw [hkeep _ (hout' _)]; exact hu0) (by rw [hkeep _ (hout' _)]; exact hsen)
    (Takes.of_laid hk hord tyC (by rw [Y.causeType]; rfl)) (Takes.of_laid hk hord tyS (by rw [Y.stackType]; exact fits_refV_array _ u0)) (Takes.of_laid hk hord tyP (by rw [Y.suppType]; exact fits_refV_object _ sen))
    (Takes.of_laid hk hord tyM (by rw [Y.msgType]; exact fits_refV_object _ ⟨msg, hmsg⟩)) Y.objLocals hskip htr [] hd6
    (by simp only [List.length_cons, hlen]; omega) (by simp only [List.length_cons, hlen]; exact hRlocals)
  obtain ⟨hwalk, hrun, hended, hWU, hsame⟩ := X₂.athrowLeaves hexec (g := { g with stack := .ref a :: rest, pc := g.pc + 3 }) hg hlocked hentered hout (a := a) (rest := rest) rfl hd9
  obtain ⟨c3, c4, hc3, hc4, hasg⟩ := Cond.castable_spec (a' (.castable cls cls) (by simp [cy_own]))
  cases Option.some.inj (hc3.symm.trans hfound)
  cases Option.some.inj (hc4.symm.trans hfound)
  have hlt : a < ((W.setVm vm₁).setVm vm₂).heap.size := (Array.getElem?_eq_some_iff.mp hcell).1
  have hU := heapAt_setCell_self (s := (W.setVm vm₁).setVm vm₂) (plainBareV T.toThrowableT (freshCell P1.m.cls kX) a u0 sen msg) hlt
  have hnM : T.fMsg.name = "detailMessage" := (State.fieldFound?_type hffM (t := .object "java/lang/String") (by decide +kernel)).1
  have nCS := Cond.laysApart hdC hdS hdnC hdnS (by rw [Y.causeName, Y.stackName]; decide)
  have nCP := Cond.laysApart hdC hdP hdnC hdnP (by rw [Y.causeName, Y.suppName]; decide)
  have nCM := Cond.laysApart hdC hdM hdnC hdnM (by rw [Y.causeName, hnM]; decide)
  have nSP := Cond.laysApart hdS hdP hdnS hdnP (by rw [Y.stackName, Y.suppName]; decide)
  have nSM := Cond.laysApart hdS hdM hdnS hdnM (by rw [Y.stackName, hnM]; decide)
  have nPM := Cond.laysApart hdP hdM hdnP hdnM (by rw [Y.suppName, hnM]; decide)
  have lC : T.fCause.slot < kX.instanceTypes.size := (Array.getElem?_eq_some_iff.mp tyC).1
  have lS : T.fStack.slot < kX.instanceTypes.size := (Array.getElem?_eq_some_iff.mp tyS).1
  have lP : T.fSupp.slot < kX.instanceTypes.size := (Array.getElem?_eq_some_iff.mp tyP).1
  have lM : T.fMsg.slot < kX.instanceTypes.size := (Array.getElem?_eq_some_iff.mp tyM).1
  have evU : ∀ o, (Term.static Bundle.tN "UNASSIGNED_STACK" Bundle.steD).eval args s o [] s = some u0.v := by
    intro o
    simp [Term.eval, State.fieldNamed?, Y.unassigned, L.unassignedStatic, L.statics, hcS0, hiss, hu0]
  have evS : ∀ o, (Term.static Bundle.tN "SUPPRESSED_SENTINEL" Bundle.listD).eval args s o [] s = some sen.v := by
    intro o
    simp [Term.eval, State.fieldNamed?, Y.sentinel, L.sentinelStatic, L.statics, hcS0, hiss, hsen]
  refine ⟨_, st1 _ (fun acts => ?_), hrun, hended, hWU, hsame.weaken (fun y hy hlt' => ?_) (Nat.le_refl _) (Nat.le_refl _), _, hU, ?_⟩
  · rw [doInvoke_state]
    exact st2 _ hwalk
  · rcases List.mem_append.mp hy with h1 | h1
    · exact h1
    · exfalso
      have hb : y.base = a := by
        simp only [List.mem_cons, List.not_mem_nil, or_false] at h1
        rcases h1 with rfl | rfl | rfl | rfl | rfl <;> rfl
      rw [hb] at hlt'
      exact Nat.not_lt.mpr hnew hlt'
  · exact { cls := hfound, self := hasg, monitor := rfl, hash := rfl, vm := rfl, size := by simp [plainBareV, preparedCellV, Cell.setSlot, hn6]
            cause := ⟨_, _, _, _, Y.cause, by simp [plainBareV, preparedCellV, Cell.setSlot, nCS.symm, nCP.symm, nCM.symm, lC]⟩
            stack := ⟨_, _, _, _, u0, Y.stack, by simp [plainBareV, preparedCellV, Cell.setSlot, nSM.symm, lS], evU⟩
            supp := ⟨_, _, _, _, sen, Y.supp, by simp [plainBareV, preparedCellV, Cell.setSlot, nSP, nPM.symm, lP], evS⟩
            msg := ⟨_, _, _, _, hffM, by simp [plainBareV, preparedCellV, Cell.setSlot, lM]⟩
            other := fun O f d c k i fd hf hy n1 n2 n3 n4 => by
              obtain ⟨ty, dd, hdd, hddn⟩ := Cond.laysAt hfound hk hf hy
              have m1 := Cond.laysApart hdd hdC hddn hdnC (by rw [Y.causeName]; exact n1)
              have m2 := Cond.laysApart hdd hdS hddn hdnS (by rw [Y.stackName]; exact n2)
              have m3 := Cond.laysApart hdd hdP hddn hdnP (by rw [Y.suppName]; exact n3)
              have m4 := Cond.laysApart hdd hdM hddn hdnM (by rw [hnM]; exact n4)
              have := fresh_default (c := P1.m.cls) ty
              simpa [plainBareV, preparedCellV, Cell.setSlot, Array.getElem?_setIfInBounds, m1, m2, m3, m4, m1.symm, m2.symm, m3.symm, m4.symm] using this }
end CY
def cy_atS (own : String) (ic : Nat) (X : String) (ix : Nat) (rx : ByteArray) (names : List String) : List Cond := (cy_own own ic X ix rx names).filter vx_no
section CYE
variable {p : Program} {l : Launch} {e : Env} {R : Room} {s : State} {m : MethodId} {args : Array Value} {below : List Frame} {meth : Method} {c : Code} {H : Heap} {locs : List Loc} {cells slots : Nat} {Q : State → Prop}
variable {mc ms : Nat} {free : Addr → Prop} {A0 A1 : Nat → Prop} {H0 : Heap} {a : Array Value} {ls : Array Slot} {st0 rest : List Value}
variable {Qc : Array Value → State → Outcome → State → Prop} {XC : String → State → State → Prop}
theorem cy_throwS {cc : ByteArray} {pc : Nat} (hexec : p.tables.exec = Jvm.exec) (hb : c.code = cc) (hl : l.stackTraces = false) {own cls text : String} {names : List String} {ik is ic mc ms sa ix : Nat} {rx : ByteArray} {A : Nat → Prop} (x0 : decode rx 0 = .ok (.aload_n 0, 1)) (x1 : decode rx 1 = .ok (.aload_n 1, 1)) (x2 : decode rx 2 = .ok (.invokespecial ix, 3)) (x5 : decode rx 5 = .ok (.return_, 1))
    (hown : s.vm.findClass own = some m.cls) (hcls : Bundle.fit cls = true) (hnames : ∀ n ∈ names, Bundle.fit n = true)
    (hk : (Cond.classLink own ik cls).before args s = true) (hini : (Cond.initialized cls).before args s = true) (hstr : vk_R own is text sa s) (hat : ∀ w ∈ cy_atS own ic cls ix rx names, w.before args s = true)
    (hgood : ∀ w ∈ Cond.classLink own ik cls :: Cond.initialized cls :: cy_atS own ic cls ix rx names, vx_ot w = true)
    (hU : vx_Zq Bundle.tN "UNASSIGNED_STACK" Bundle.steD A s s.heap) (hN : vx_Zq Bundle.tN "SUPPRESSED_SENTINEL" Bundle.listD A s s.heap) (hS : va_S A s.heap H locs) (hsize : ls.size = c.maxLocals)
    (d0 : decode cc pc = .ok (.new ik, 3)) (d3 : decode cc (pc + 3) = .ok (.dup, 1)) (d4 : decode cc (pc + 4) = .ok (.ldc is, 2)) (d6 : decode cc (pc + 6) = .ok (.invokespecial ic, 3)) (d9 : decode cc (pc + 9) = .ok (.athrow, 1))
    (hout : ∀ x ∈ c.exceptionTable.toList, covers x (pc + 9) = false)
    (hRframes : names.length + 3 < R.frames) (hRlocals : (rest.map fun v => v.category).sum + (13 * (names.length + 1) + 43) ≤ R.locals) (hRcells : cells + 1 ≤ R.cells) (hRslots : slots + 6 ≤ R.slots) (hlocks : meth.locks = false)
    (hx : ∀ t : State, s.vm.Alike t.vm → H.size ≤ t.heap.size → (∀ q : Nat, q < H.size → t.heap[q]? = H[q]?) → XC cls s t)
    (hf : ∀ z ∈ locs, free z.base) (hc : cells + 1 ≤ mc) (hs : slots + 6 ≤ ms) :
    W p l e R s m args below meth c H locs cells slots (vx_MQ below Qc XC args s mc ms free) (F0 m pc ls rest) := by
  intro T hT X
  have htr : e.platform.stackTraces = false := (show e.platform.stackTraces = l.stackTraces by rw [X.admits.platform]).trans hl
  have Y := vx_rebase X (R' := { frames := R.frames, locals := R.locals, cells := 1, slots := 6 }) (Nat.le_refl _) (Nat.le_refl _) hRcells hRslots
  obtain ⟨s', hA⟩ : ∃ z, z = (T.setVm s.vm).setFrames (.invoking m args :: below) := ⟨_, rfl⟩
  rw [← hA] at Y
  have hvm : s'.vm = s.vm := by rw [hA]; rfl
  have hhp : s'.heap = H := by rw [hA]; exact hT
  have hW0 : s.WarmedH s'.vm := by rw [hvm]; exact State.WarmedH.refl s
  have hat' : ∀ w ∈ cy_atS own ic cls ix rx names, w.before args s' = true := fun w hw => vx_ot_at hW0 hvm.symm (hgood w (List.mem_cons_of_mem _ (List.mem_cons_of_mem _ hw))) (hat w hw)
  have hk' : (Cond.classLink own ik cls).before args s' = true := vx_ot_at hW0 hvm.symm (hgood _ List.mem_cons_self) hk
  have hini' : (Cond.initialized cls).before args s' = true := vx_ot_at hW0 hvm.symm (hgood _ (List.mem_cons_of_mem _ List.mem_cons_self)) hini
  have hU' : vx_Zq Bundle.tN "UNASSIGNED_STACK" Bundle.steD A s' s'.heap := by rw [hhp]; exact vx_Zq.moved hW0.alike (hU.kept hS.2.1)
  have hN' : vx_Zq Bundle.tN "SUPPRESSED_SENTINEL" Bundle.listD A s' s'.heap := by rw [hhp]; exact vx_Zq.moved hW0.alike (hN.kept hS.2.1)
  have h : ∀ w ∈ cy_own own ic cls ix rx names, w.before args s' = true := vx_own hat' (vx_isRefq hU'.1) (vx_isRefq hN'.1) hU'.2.word hN'.2.word
  have hown' : s'.vm.findClass own = some m.cls := by rw [hvm]; exact hown
  have hins : (Cond.instantiable cls 6).before args s' = true := h _ (by simp [cy_own])
  obtain ⟨vm₁, cX, kX, hfX, hkX, -, -, X₁, st1⟩ := Y.newCold hexec (own := own) (C := cls) (index := ik) (n := 6) hown' hk' hins hini'
    (g := F0 m pc ls rest) rfl (by rw [hb]; exact d0) (Nat.le_refl _) (Nat.le_refl _)
  generalize hT1 : (T.setVm vm₁).pushCell { cls := cX, slots := kX.instanceTypes.map defaultValue, vm := .none } = T1 at X₁ st1
  have hcat : (Value.ref T.heap.size).category = 1 := rfl
  have hcellA : T1.heap[T.heap.size]? = some (freshCell cX kX) := by rw [← hT1]; exact State.heap_pushCell_size _ _
  have d3' : decode c.code (pc + 3) = .ok (.dup, 1) := by rw [hb]; exact d3
  have d4' : decode c.code (pc + 4) = .ok (.ldc is, 2) := by rw [hb]; exact d4
  have hstr' : vk_R own is text sa s' := vk_R.warm hW0 hstr
  obtain ⟨U, hsteps, hrun, hend, hW, hsame, ce, hce, hO⟩ := cy_ctor X₁ hexec htr x0 x1 x2 x5 (own := own) (cls := cls) (names := names) (ic := ic) hown' hcls hnames h (fun x hx => nomatch hx) hfX hkX hcellA (by rw [hhp, hT]; exact Nat.le_refl _) (msg := .ref sa) rfl
    (g := { method := m, pc := pc + 6, locals := ls, stack := .ref sa :: .ref T.heap.size :: .ref T.heap.size :: rest, locked := none }) rfl hsize rfl rfl (rest := rest) rfl
    (by rw [hb]; exact d6) (by rw [hb]; exact d9) hout hRframes (by simp only [List.map_cons, List.sum_cons, hcat]; omega) hlocks
  obtain ⟨f1, f2⟩ := vx_frame hsame
  rw [hhp] at f1 f2
  have hWs : s.WarmedH U.vm := State.WarmedH.trans hW0 hW
  have hcl : s.vm.findClass cls = some ce.cls := by
    have h9 := hO.cls
    rw [hvm] at h9
    exact h9
  have hall : s.sameButNew ({ U with vm := s.vm } : State) locs mc ms := by
    subst hA
    obtain ⟨e1, e2⟩ := hsame
    rw [State.setFrames_setFrames] at e1
    have h2 : (T.setVm s.vm).sameButNew ({ U with vm := s.vm } : State) [] (0 + 1) (0 + 6) := ⟨e1, e2⟩
    have h3 := X.same.trans h2
    rw [List.append_nil] at h3
    exact h3.mono hc hs
  refine ⟨U, ?_, .threw T.heap.size, hrun, hend, Or.inr ⟨T.heap.size, rfl, cls, ce, locs, hx U hWs.alike f1 (fun q hq => f2 q hq (fun z hz => nomatch hz)), hce, hO.vm, hcl, hWs, hall, hf⟩⟩
  refine st1 _ ?_
  show Steps p.tables e below (T1.setTop { method := m, pc := pc + 3, locals := ls, stack := .ref T.heap.size :: rest, locked := none }) _
  jvm_step X₁.here [X₁.here.top, hexec, d3', Value.category]
  exact X₁.ldcString hexec (own := own) (text := text) (index := is) (a := sa) hown' hstr'.1 hstr'.2
    (g := { method := m, pc := pc + 4, locals := ls, stack := .ref T.heap.size :: .ref T.heap.size :: rest, locked := none }) rfl d4' _ hsteps
end CYE
def cy_at : List Cond := cy_atS "HarbourBoard" 180 "java/util/NoSuchElementException" 13 prog_14_method_4_code ["java/lang/RuntimeException", "java/lang/Exception"]
end
section
/-! ===== BEGIN printed: names, fields, word lists, decode rows ===== -/
def RX0 : String := "HarbourBoard"
def TX0 : u_T := fun k => match k with
  | 0 => ("HarbourBoard", "isNumber", "[Z", true)
  | 1 => ("HarbourBoard", "numbers", "[D", true)
  | 2 => ("HarbourBoard", "lengths", "[I", true)
  | 3 => ("HarbourBoard", "gateOpen", "Z", false)
  | _ => ("HarbourBoard", "moves", "I", false)
def tyX0 : Nat → FieldType := fun k => match k with
  | 0 => .array .boolean
  | 1 => .array .double
  | 2 => .array .int
  | 3 => .boolean
  | _ => .int
abbrev wsX00 : List Cond := u_ws RX0 TX0 5
theorem nmX0 : ∀ a, a < 5 → ∀ b, b < 5 → a ≠ b → (TX0 a).2.1 ≠ (TX0 b).2.1 := by decide +kernel
theorem tyX0_ok : ∀ k, k < 5 → parseFieldDescriptor (TX0 k).2.2.1 = some (tyX0 k) := by decide +kernel
abbrev cX0_init : ByteArray := prog_1_method_1_code
def yX0_init : MethodName := ⟨RX0, "<init>", "()V"⟩
abbrev cX0_level : ByteArray := prog_1_method_2_code
def yX0_level : MethodName := ⟨RX0, "level", "(ID)I"⟩
abbrev cX0_wind : ByteArray := prog_1_method_3_code
def yX0_wind : MethodName := ⟨RX0, "wind", "(IF)I"⟩
abbrev cX0_out : ByteArray := prog_1_method_4_code
def yX0_out : MethodName := ⟨RX0, "out", "(II)I"⟩
abbrev cX0_clear : ByteArray := prog_1_method_5_code
def yX0_clear : MethodName := ⟨RX0, "clear", "(I)I"⟩
abbrev cX0_mark : ByteArray := prog_1_method_6_code
def yX0_mark : MethodName := ⟨RX0, "mark", "(IID)Z"⟩
abbrev cX0_gale : ByteArray := prog_1_method_7_code
def yX0_gale : MethodName := ⟨RX0, "gale", "(IF)Z"⟩
abbrev cX0_lift : ByteArray := prog_1_method_8_code
def yX0_lift : MethodName := ⟨RX0, "lift", "(II)Z"⟩
abbrev cX0_probe : ByteArray := prog_1_method_9_code
def yX0_probe : MethodName := ⟨RX0, "probe", "(D)I"⟩
abbrev cX0_probeWind : ByteArray := prog_1_method_10_code
def yX0_probeWind : MethodName := ⟨RX0, "probeWind", "(F)I"⟩
abbrev cX0_probeOut : ByteArray := prog_1_method_11_code
def yX0_probeOut : MethodName := ⟨RX0, "probeOut", "(I)I"⟩
abbrev cX0_run : ByteArray := prog_1_method_12_code
def yX0_run : MethodName := ⟨RX0, "run", "(IIIZ)I"⟩
abbrev cX0_count : ByteArray := prog_1_method_13_code
def yX0_count : MethodName := ⟨RX0, "count", "(IIIZ)I"⟩
abbrev cX0_holds : ByteArray := prog_1_method_14_code
def yX0_holds : MethodName := ⟨RX0, "holds", "(IIII)Z"⟩
abbrev cX0_pick : ByteArray := prog_1_method_15_code
def yX0_pick : MethodName := ⟨RX0, "pick", "(IIII)I"⟩
abbrev cX0_stand : ByteArray := prog_1_method_16_code
def yX0_stand : MethodName := ⟨RX0, "stand", "(I)I"⟩
abbrev cX0_order : ByteArray := prog_1_method_17_code
def yX0_order : MethodName := ⟨RX0, "order", "(I)I"⟩
abbrev cX0_highest : ByteArray := prog_1_method_18_code
def yX0_highest : MethodName := ⟨RX0, "highest", "(I)D"⟩
abbrev cX0_calmest : ByteArray := prog_1_method_19_code
def yX0_calmest : MethodName := ⟨RX0, "calmest", "(I)F"⟩
abbrev cX0_same : ByteArray := prog_1_method_20_code
def yX0_same : MethodName := ⟨RX0, "same", "(II)I"⟩
abbrev cX0_move : ByteArray := prog_1_method_21_code
def yX0_move : MethodName := ⟨RX0, "move", "(Z)I"⟩
abbrev cX0_size : ByteArray := prog_1_method_22_code
def yX0_size : MethodName := ⟨RX0, "size", "(II)I"⟩
abbrev cX0_needGauge : ByteArray := prog_1_method_23_code
def yX0_needGauge : MethodName := ⟨RX0, "needGauge", "(I)V"⟩
abbrev cX0_needWhat : ByteArray := prog_1_method_24_code
def yX0_needWhat : MethodName := ⟨RX0, "needWhat", "(I)V"⟩
abbrev cX0_needRelation : ByteArray := prog_1_method_25_code
def yX0_needRelation : MethodName := ⟨RX0, "needRelation", "(I)V"⟩
abbrev cX0_needLevel : ByteArray := prog_1_method_26_code
def yX0_needLevel : MethodName := ⟨RX0, "needLevel", "(D)V"⟩
abbrev cX0_needWind : ByteArray := prog_1_method_27_code
def yX0_needWind : MethodName := ⟨RX0, "needWind", "(F)V"⟩
abbrev cX0_needRoom : ByteArray := prog_1_method_28_code
def yX0_needRoom : MethodName := ⟨RX0, "needRoom", "(I)V"⟩
abbrev cX0_needMayOpen : ByteArray := prog_1_method_29_code
def yX0_needMayOpen : MethodName := ⟨RX0, "needMayOpen", "()V"⟩
abbrev cX0_needMayShut : ByteArray := prog_1_method_30_code
def yX0_needMayShut : MethodName := ⟨RX0, "needMayShut", "()V"⟩
abbrev cX0_stripOf : ByteArray := prog_1_method_31_code
def yX0_stripOf : MethodName := ⟨RX0, "stripOf", "(II)I"⟩
abbrev cX0_stripPlace : ByteArray := prog_1_method_32_code
def yX0_stripPlace : MethodName := ⟨RX0, "stripPlace", "(II)I"⟩
abbrev cX0_markPlace : ByteArray := prog_1_method_33_code
def yX0_markPlace : MethodName := ⟨RX0, "markPlace", "(II)I"⟩
abbrev cX0_probePlace : ByteArray := prog_1_method_34_code
def yX0_probePlace : MethodName := ⟨RX0, "probePlace", "(I)I"⟩
abbrev cX0_latestPlace : ByteArray := prog_1_method_35_code
def yX0_latestPlace : MethodName := ⟨RX0, "latestPlace", "(II)I"⟩
abbrev cX0_putNumber : ByteArray := prog_1_method_36_code
def yX0_putNumber : MethodName := ⟨RX0, "putNumber", "(ID)Z"⟩
abbrev cX0_putOut : ByteArray := prog_1_method_37_code
def yX0_putOut : MethodName := ⟨RX0, "putOut", "(I)Z"⟩
abbrev cX0_appendNumber : ByteArray := prog_1_method_38_code
def yX0_appendNumber : MethodName := ⟨RX0, "appendNumber", "(ID)I"⟩
abbrev cX0_appendOut : ByteArray := prog_1_method_39_code
def yX0_appendOut : MethodName := ⟨RX0, "appendOut", "(I)I"⟩
abbrev cX0_emptyStrip : ByteArray := prog_1_method_40_code
def yX0_emptyStrip : MethodName := ⟨RX0, "emptyStrip", "(I)I"⟩
abbrev cX0_isRelated : ByteArray := prog_1_method_41_code
def yX0_isRelated : MethodName := ⟨RX0, "isRelated", "(III)Z"⟩
abbrev cX0_gaugesRelatedToProbe : ByteArray := prog_1_method_42_code
def yX0_gaugesRelatedToProbe : MethodName := ⟨RX0, "gaugesRelatedToProbe", "(II)I"⟩
abbrev cX0_runAhead : ByteArray := prog_1_method_43_code
def yX0_runAhead : MethodName := ⟨RX0, "runAhead", "(III)I"⟩
abbrev cX0_runBack : ByteArray := prog_1_method_44_code
def yX0_runBack : MethodName := ⟨RX0, "runBack", "(III)I"⟩
abbrev cX0_standOfLevel : ByteArray := prog_1_method_45_code
def yX0_standOfLevel : MethodName := ⟨RX0, "standOfLevel", "(I)I"⟩
abbrev cX0_standOfWind : ByteArray := prog_1_method_46_code
def yX0_standOfWind : MethodName := ⟨RX0, "standOfWind", "(I)I"⟩
abbrev cX0_gaugesAheadOf : ByteArray := prog_1_method_47_code
def yX0_gaugesAheadOf : MethodName := ⟨RX0, "gaugesAheadOf", "(I)I"⟩
abbrev cX0_isAhead : ByteArray := prog_1_method_48_code
def yX0_isAhead : MethodName := ⟨RX0, "isAhead", "(II)Z"⟩
abbrev cX0_likenessOf : ByteArray := prog_1_method_49_code
def yX0_likenessOf : MethodName := ⟨RX0, "likenessOf", "(II)I"⟩
abbrev cX0_extremePlace : ByteArray := prog_1_method_50_code
def yX0_extremePlace : MethodName := ⟨RX0, "extremePlace", "(II)I"⟩
def RX1 : String := "HarbourBoardModel"
def TX1 : u_T := fun k => match k with
  | 0 => ("HarbourBoardModel", "thrown", "I", false)
  | 1 => ("HarbourBoardModel", "value", "[D", true)
  | 2 => ("HarbourBoardModel", "isOut", "[Z", true)
  | 3 => ("HarbourBoardModel", "sizes", "[I", true)
  | 4 => ("HarbourBoardModel", "markValue", "[D", true)
  | 5 => ("HarbourBoardModel", "isSet", "[Z", true)
  | 6 => ("HarbourBoardModel", "probeValue", "[D", true)
  | 7 => ("HarbourBoardModel", "isProbed", "[Z", true)
  | 8 => ("HarbourBoardModel", "isOpen", "Z", false)
  | _ => ("HarbourBoardModel", "moves", "I", false)
def tyX1 : Nat → FieldType := fun k => match k with
  | 0 => .int
  | 1 => .array .double
  | 2 => .array .boolean
  | 3 => .array .int
  | 4 => .array .double
  | 5 => .array .boolean
  | 6 => .array .double
  | 7 => .array .boolean
  | 8 => .boolean
  | _ => .int
abbrev wsX10 : List Cond := u_ws RX1 TX1 10
theorem nmX1 : ∀ a, a < 10 → ∀ b, b < 10 → a ≠ b → (TX1 a).2.1 ≠ (TX1 b).2.1 := by decide +kernel
theorem tyX1_ok : ∀ k, k < 10 → parseFieldDescriptor (TX1 k).2.2.1 = some (tyX1 k) := by decide +kernel
abbrev cX1_init : ByteArray := prog_3_method_1_code
def yX1_init : MethodName := ⟨RX1, "<init>", "()V"⟩
abbrev cX1_thrown : ByteArray := prog_3_method_2_code
def yX1_thrown : MethodName := ⟨RX1, "thrown", "()I"⟩
abbrev cX1_throwing : ByteArray := prog_3_method_3_code
def yX1_throwing : MethodName := ⟨RX1, "throwing", "(ZZZ)Z"⟩
abbrev cX1_outside : ByteArray := prog_3_method_4_code
def yX1_outside : MethodName := ⟨RX1, "outside", "(II)Z"⟩
abbrev cX1_isLevel : ByteArray := prog_3_method_5_code
def yX1_isLevel : MethodName := ⟨RX1, "isLevel", "(D)Z"⟩
abbrev cX1_isWind : ByteArray := prog_3_method_6_code
def yX1_isWind : MethodName := ⟨RX1, "isWind", "(D)Z"⟩
abbrev cX1_way : ByteArray := prog_3_method_7_code
def yX1_way : MethodName := ⟨RX1, "way", "(ZDD)I"⟩
abbrev cX1_ways : ByteArray := prog_3_method_8_code
def yX1_ways : MethodName := ⟨RX1, "ways", "(I)I"⟩
abbrev cX1_is : ByteArray := prog_3_method_9_code
def yX1_is : MethodName := ⟨RX1, "is", "(II)Z"⟩
abbrev cX1_latest : ByteArray := prog_3_method_10_code
def yX1_latest : MethodName := ⟨RX1, "latest", "(I)I"⟩
abbrev cX1_latestOut : ByteArray := prog_3_method_11_code
def yX1_latestOut : MethodName := ⟨RX1, "latestOut", "(I)Z"⟩
abbrev cX1_latestValue : ByteArray := prog_3_method_12_code
def yX1_latestValue : MethodName := ⟨RX1, "latestValue", "(I)D"⟩
abbrev cX1_latestWay : ByteArray := prog_3_method_13_code
def yX1_latestWay : MethodName := ⟨RX1, "latestWay", "(II)I"⟩
abbrev cX1_probeWay : ByteArray := prog_3_method_14_code
def yX1_probeWay : MethodName := ⟨RX1, "probeWay", "(II)I"⟩
abbrev cX1_markWay : ByteArray := prog_3_method_15_code
def yX1_markWay : MethodName := ⟨RX1, "markWay", "(II)I"⟩
abbrev cX1_comes : ByteArray := prog_3_method_16_code
def yX1_comes : MethodName := ⟨RX1, "comes", "(IZD)I"⟩
abbrev cX1_level : ByteArray := prog_3_method_17_code
def yX1_level : MethodName := ⟨RX1, "level", "(ID)I"⟩
abbrev cX1_wind : ByteArray := prog_3_method_18_code
def yX1_wind : MethodName := ⟨RX1, "wind", "(IF)I"⟩
abbrev cX1_out : ByteArray := prog_3_method_19_code
def yX1_out : MethodName := ⟨RX1, "out", "(II)I"⟩
abbrev cX1_clear : ByteArray := prog_3_method_20_code
def yX1_clear : MethodName := ⟨RX1, "clear", "(I)I"⟩
abbrev cX1_marks : ByteArray := prog_3_method_21_code
def yX1_marks : MethodName := ⟨RX1, "marks", "(IZD)Z"⟩
abbrev cX1_mark : ByteArray := prog_3_method_22_code
def yX1_mark : MethodName := ⟨RX1, "mark", "(IID)Z"⟩
abbrev cX1_gale : ByteArray := prog_3_method_23_code
def yX1_gale : MethodName := ⟨RX1, "gale", "(IF)Z"⟩
abbrev cX1_lift : ByteArray := prog_3_method_24_code
def yX1_lift : MethodName := ⟨RX1, "lift", "(II)Z"⟩
abbrev cX1_probes : ByteArray := prog_3_method_25_code
def yX1_probes : MethodName := ⟨RX1, "probes", "(IZDI)I"⟩
abbrev cX1_probe : ByteArray := prog_3_method_26_code
def yX1_probe : MethodName := ⟨RX1, "probe", "(D)I"⟩
abbrev cX1_probeWind : ByteArray := prog_3_method_27_code
def yX1_probeWind : MethodName := ⟨RX1, "probeWind", "(F)I"⟩
abbrev cX1_probeOut : ByteArray := prog_3_method_28_code
def yX1_probeOut : MethodName := ⟨RX1, "probeOut", "(I)I"⟩
abbrev cX1_run : ByteArray := prog_3_method_29_code
def yX1_run : MethodName := ⟨RX1, "run", "(IIIZ)I"⟩
abbrev cX1_count : ByteArray := prog_3_method_30_code
def yX1_count : MethodName := ⟨RX1, "count", "(IIIZ)I"⟩
abbrev cX1_holds : ByteArray := prog_3_method_31_code
def yX1_holds : MethodName := ⟨RX1, "holds", "(IIII)Z"⟩
abbrev cX1_pick : ByteArray := prog_3_method_32_code
def yX1_pick : MethodName := ⟨RX1, "pick", "(IIII)I"⟩
abbrev cX1_levelStand : ByteArray := prog_3_method_33_code
def yX1_levelStand : MethodName := ⟨RX1, "levelStand", "(I)I"⟩
abbrev cX1_stand : ByteArray := prog_3_method_34_code
def yX1_stand : MethodName := ⟨RX1, "stand", "(I)I"⟩
abbrev cX1_isAhead : ByteArray := prog_3_method_35_code
def yX1_isAhead : MethodName := ⟨RX1, "isAhead", "(II)Z"⟩
abbrev cX1_order : ByteArray := prog_3_method_36_code
def yX1_order : MethodName := ⟨RX1, "order", "(I)I"⟩
abbrev cX1_best : ByteArray := prog_3_method_37_code
def yX1_best : MethodName := ⟨RX1, "best", "(II)I"⟩
abbrev cX1_highest : ByteArray := prog_3_method_38_code
def yX1_highest : MethodName := ⟨RX1, "highest", "(I)D"⟩
abbrev cX1_calmest : ByteArray := prog_3_method_39_code
def yX1_calmest : MethodName := ⟨RX1, "calmest", "(I)F"⟩
abbrev cX1_same : ByteArray := prog_3_method_40_code
def yX1_same : MethodName := ⟨RX1, "same", "(II)I"⟩
abbrev cX1_move : ByteArray := prog_3_method_41_code
def yX1_move : MethodName := ⟨RX1, "move", "(Z)I"⟩
abbrev cX1_size : ByteArray := prog_3_method_42_code
def yX1_size : MethodName := ⟨RX1, "size", "(II)I"⟩
def RJx145de : String := "java/io/Serializable"
def TJx145de : u_T := fun k => match k with
  | _ => ("", "", "", false)
def tyJx145de : Nat → FieldType := fun k => match k with
  | _ => .int
abbrev wsJx145de0 : List Cond := u_ws RJx145de TJx145de 0
theorem nmJx145de : ∀ a, a < 0 → ∀ b, b < 0 → a ≠ b → (TJx145de a).2.1 ≠ (TJx145de b).2.1 := by decide +kernel
theorem tyJx145de_ok : ∀ k, k < 0 → parseFieldDescriptor (TJx145de k).2.2.1 = some (tyJx145de k) := by decide +kernel
def RJ9 : String := "java/lang/Math"
def TJ9 : u_T := fun k => match k with
  | _ => ("", "", "", false)
def tyJ9 : Nat → FieldType := fun k => match k with
  | _ => .int
abbrev wsJ90 : List Cond := u_ws RJ9 TJ9 0
theorem nmJ9 : ∀ a, a < 0 → ∀ b, b < 0 → a ≠ b → (TJ9 a).2.1 ≠ (TJ9 b).2.1 := by decide +kernel
theorem tyJ9_ok : ∀ k, k < 0 → parseFieldDescriptor (TJ9 k).2.2.1 = some (tyJ9 k) := by decide +kernel
abbrev cJ9_min_7cf53 : ByteArray := prog_9_method_69_code
def yJ9_min_7cf53 : MethodName := ⟨RJ9, "min", "(II)I"⟩
def RJ0 : String := "java/lang/String"
def TJ0 : u_T := fun k => match k with
  | 0 => ("java/lang/String", "value", "[B", true)
  | _ => ("java/lang/String", "coder", "B", true)
def tyJ0 : Nat → FieldType := fun k => match k with
  | 0 => .array .byte
  | _ => .byte
abbrev wsJ00 : List Cond := u_ws RJ0 TJ0 2
theorem nmJ0 : ∀ a, a < 2 → ∀ b, b < 2 → a ≠ b → (TJ0 a).2.1 ≠ (TJ0 b).2.1 := by decide +kernel
theorem tyJ0_ok : ∀ k, k < 2 → parseFieldDescriptor (TJ0 k).2.2.1 = some (tyJ0 k) := by decide +kernel
def RL : String := "HarbourBoardLaw"
abbrev cL_level : ByteArray := method_3_code
def yL_level : MethodName := ⟨RL, "level", "(LHarbourBoard;ID[J)I"⟩
abbrev cL_wind : ByteArray := method_4_code
def yL_wind : MethodName := ⟨RL, "wind", "(LHarbourBoard;IF[J)I"⟩
abbrev cL_out : ByteArray := method_5_code
def yL_out : MethodName := ⟨RL, "out", "(LHarbourBoard;II[J)I"⟩
abbrev cL_clear : ByteArray := method_6_code
def yL_clear : MethodName := ⟨RL, "clear", "(LHarbourBoard;I[J)I"⟩
abbrev cL_mark : ByteArray := method_7_code
def yL_mark : MethodName := ⟨RL, "mark", "(LHarbourBoard;IID[J)I"⟩
abbrev cL_gale : ByteArray := method_8_code
def yL_gale : MethodName := ⟨RL, "gale", "(LHarbourBoard;IF[J)I"⟩
abbrev cL_lift : ByteArray := method_9_code
def yL_lift : MethodName := ⟨RL, "lift", "(LHarbourBoard;II[J)I"⟩
abbrev cL_probe : ByteArray := method_10_code
def yL_probe : MethodName := ⟨RL, "probe", "(LHarbourBoard;D[J)I"⟩
abbrev cL_probeWind : ByteArray := method_11_code
def yL_probeWind : MethodName := ⟨RL, "probeWind", "(LHarbourBoard;F[J)I"⟩
abbrev cL_probeOut : ByteArray := method_12_code
def yL_probeOut : MethodName := ⟨RL, "probeOut", "(LHarbourBoard;I[J)I"⟩
abbrev cL_run : ByteArray := method_13_code
def yL_run : MethodName := ⟨RL, "run", "(LHarbourBoard;IIIZ[J)I"⟩
abbrev cL_count : ByteArray := method_14_code
def yL_count : MethodName := ⟨RL, "count", "(LHarbourBoard;IIIZ[J)I"⟩
abbrev cL_holds : ByteArray := method_15_code
def yL_holds : MethodName := ⟨RL, "holds", "(LHarbourBoard;IIII[J)I"⟩
abbrev cL_pick : ByteArray := method_16_code
def yL_pick : MethodName := ⟨RL, "pick", "(LHarbourBoard;IIII[J)I"⟩
abbrev cL_stand : ByteArray := method_17_code
def yL_stand : MethodName := ⟨RL, "stand", "(LHarbourBoard;I[J)I"⟩
abbrev cL_order : ByteArray := method_18_code
def yL_order : MethodName := ⟨RL, "order", "(LHarbourBoard;I[J)I"⟩
abbrev cL_highest : ByteArray := method_19_code
def yL_highest : MethodName := ⟨RL, "highest", "(LHarbourBoard;I[D)I"⟩
abbrev cL_calmest : ByteArray := method_20_code
def yL_calmest : MethodName := ⟨RL, "calmest", "(LHarbourBoard;I[D)I"⟩
abbrev cL_same : ByteArray := method_21_code
def yL_same : MethodName := ⟨RL, "same", "(LHarbourBoard;II[J)I"⟩
abbrev cL_move : ByteArray := method_22_code
def yL_move : MethodName := ⟨RL, "move", "(LHarbourBoard;Z[J)I"⟩
abbrev cL_size : ByteArray := method_23_code
def yL_size : MethodName := ⟨RL, "size", "(LHarbourBoard;II[J)I"⟩
abbrev cL_law : ByteArray := code
def yL_law : MethodName := ⟨RL, "law", "([I)Z"⟩
def wsX0_init : List Cond := .code yX0_init cX0_init 1 none :: ([.methodLink RX0 3 objectInit, .instanceMethod objectInit, .code objectInit ⟨#[0xb1]⟩ 1 none, .arrayClass .boolean, .fieldLink RX0 9 "HarbourBoard" "isNumber" "[Z", .arrayClass .double, .fieldLink RX0 13 "HarbourBoard" "numbers" "[D", .arrayClass .int, .fieldLink RX0 17 "HarbourBoard" "lengths" "[I", .fieldLink RX0 21 "HarbourBoard" "gateOpen" "Z", .fieldLink RX0 25 "HarbourBoard" "moves" "I"] ++ wsX00)
def wsX0_needGauge : List Cond := .code yX0_needGauge cX0_needGauge 1 none :: ([.classLink RX0 59 "java/lang/IllegalArgumentException", .initialized "java/lang/IllegalArgumentException"] ++ (vx_atS RX0 63 "java/lang/IllegalArgumentException" ["java/lang/RuntimeException", "java/lang/Exception"]).filter goodWord)
def wsX0_needLevel : List Cond := .code yX0_needLevel cX0_needLevel 2 none :: ([.classLink RX0 59 "java/lang/IllegalArgumentException", .initialized "java/lang/IllegalArgumentException", .constantDouble RX0 144 (13875379345695965184), .constantDouble RX0 146 (4652007308841189376)] ++ (vx_atS RX0 63 "java/lang/IllegalArgumentException" ["java/lang/RuntimeException", "java/lang/Exception"]).filter goodWord)
def wsX0_stripOf : List Cond := .code yX0_stripOf cX0_stripOf 2 (some .int) :: ([])
def wsX0_needRoom : List Cond := .code yX0_needRoom cX0_needRoom 2 none :: ([.classLink RX0 127 "java/lang/IllegalStateException", .initialized "java/lang/IllegalStateException", .fieldLink RX0 17 "HarbourBoard" "lengths" "[I"] ++ wsX00 ++ (vx_atS RX0 131 "java/lang/IllegalStateException" ["java/lang/RuntimeException", "java/lang/Exception"]).filter goodWord)
def wsX0_stripPlace : List Cond := .code yX0_stripPlace cX0_stripPlace 2 (some .int) :: ([])
def wsX0_putNumber : List Cond := .code yX0_putNumber cX0_putNumber 5 (some .boolean) :: ([.fieldLink RX0 9 "HarbourBoard" "isNumber" "[Z", .fieldLink RX0 13 "HarbourBoard" "numbers" "[D"] ++ wsX00)
def wsX0_appendNumber : List Cond := .code yX0_appendNumber cX0_appendNumber 4 (some .int) :: ([.fieldLink RX0 17 "HarbourBoard" "lengths" "[I", .methodLink RX0 169 yX0_needRoom, .instanceMethod yX0_needRoom, .selects RX0 yX0_needRoom yX0_needRoom, .initialized RX0, .code yX0_needRoom cX0_needRoom 2 none, .classLink RX0 127 "java/lang/IllegalStateException", .initialized "java/lang/IllegalStateException", .methodLink RX0 95 yX0_stripPlace, .static yX0_stripPlace, .code yX0_stripPlace cX0_stripPlace 2 (some .int), .methodLink RX0 69 yX0_putNumber, .instanceMethod yX0_putNumber, .selects RX0 yX0_putNumber yX0_putNumber, .code yX0_putNumber cX0_putNumber 5 (some .boolean), .fieldLink RX0 9 "HarbourBoard" "isNumber" "[Z", .fieldLink RX0 13 "HarbourBoard" "numbers" "[D"] ++ wsX00 ++ (vx_atS RX0 131 "java/lang/IllegalStateException" ["java/lang/RuntimeException", "java/lang/Exception"]).filter goodWord)
def wsX0_level_r1 : List Cond := [Cond.methodLink RX0 29 yX0_needGauge, Cond.static yX0_needGauge, Cond.initialized RX0, Cond.code yX0_needGauge cX0_needGauge 1 none, Cond.classLink RX0 59 "java/lang/IllegalArgumentException", Cond.initialized "java/lang/IllegalArgumentException", Cond.methodLink RX0 33 yX0_needLevel, Cond.static yX0_needLevel, Cond.code yX0_needLevel cX0_needLevel 2 none, Cond.constantDouble RX0 144 (13875379345695965184), Cond.constantDouble RX0 146 (4652007308841189376), Cond.methodLink RX0 37 yX0_stripOf, Cond.static yX0_stripOf, Cond.code yX0_stripOf cX0_stripOf 2 (some .int), Cond.methodLink RX0 41 yX0_appendNumber, Cond.instanceMethod yX0_appendNumber, Cond.selects RX0 yX0_appendNumber yX0_appendNumber, Cond.code yX0_appendNumber cX0_appendNumber 4 (some .int), Cond.fieldLink RX0 17 "HarbourBoard" "lengths" "[I", Cond.methodLink RX0 169 yX0_needRoom, Cond.instanceMethod yX0_needRoom, Cond.selects RX0 yX0_needRoom yX0_needRoom, Cond.code yX0_needRoom cX0_needRoom 2 none, Cond.classLink RX0 127 "java/lang/IllegalStateException"]
def wsX0_level_r2 : List Cond := [Cond.initialized "java/lang/IllegalStateException", Cond.methodLink RX0 95 yX0_stripPlace, Cond.static yX0_stripPlace, Cond.code yX0_stripPlace cX0_stripPlace 2 (some .int), Cond.methodLink RX0 69 yX0_putNumber, Cond.instanceMethod yX0_putNumber, Cond.selects RX0 yX0_putNumber yX0_putNumber, Cond.code yX0_putNumber cX0_putNumber 5 (some .boolean), Cond.fieldLink RX0 9 "HarbourBoard" "isNumber" "[Z", Cond.fieldLink RX0 13 "HarbourBoard" "numbers" "[D"]
def wsX0_level : List Cond := .code yX0_level cX0_level 4 (some .int) :: ((wsX0_level_r1 ++ wsX0_level_r2) ++ wsX00 ++ (vx_atS RX0 63 "java/lang/IllegalArgumentException" ["java/lang/RuntimeException", "java/lang/Exception"]).filter goodWord ++ (vx_atS RX0 131 "java/lang/IllegalStateException" ["java/lang/RuntimeException", "java/lang/Exception"]).filter goodWord)
def wsX0_needWind : List Cond := .code yX0_needWind cX0_needWind 1 none :: ([.classLink RX0 59 "java/lang/IllegalArgumentException", .initialized "java/lang/IllegalArgumentException", .constantFloat RX0 150 (1128792064)] ++ (vx_atS RX0 63 "java/lang/IllegalArgumentException" ["java/lang/RuntimeException", "java/lang/Exception"]).filter goodWord)
def wsX0_wind_r1 : List Cond := [Cond.methodLink RX0 29 yX0_needGauge, Cond.static yX0_needGauge, Cond.initialized RX0, Cond.code yX0_needGauge cX0_needGauge 1 none, Cond.classLink RX0 59 "java/lang/IllegalArgumentException", Cond.initialized "java/lang/IllegalArgumentException", Cond.methodLink RX0 45 yX0_needWind, Cond.static yX0_needWind, Cond.code yX0_needWind cX0_needWind 1 none, Cond.constantFloat RX0 150 (1128792064), Cond.methodLink RX0 37 yX0_stripOf, Cond.static yX0_stripOf, Cond.code yX0_stripOf cX0_stripOf 2 (some .int), Cond.methodLink RX0 41 yX0_appendNumber, Cond.instanceMethod yX0_appendNumber, Cond.selects RX0 yX0_appendNumber yX0_appendNumber, Cond.code yX0_appendNumber cX0_appendNumber 4 (some .int), Cond.fieldLink RX0 17 "HarbourBoard" "lengths" "[I", Cond.methodLink RX0 169 yX0_needRoom, Cond.instanceMethod yX0_needRoom, Cond.selects RX0 yX0_needRoom yX0_needRoom, Cond.code yX0_needRoom cX0_needRoom 2 none, Cond.classLink RX0 127 "java/lang/IllegalStateException", Cond.initialized "java/lang/IllegalStateException"]
def wsX0_wind_r2 : List Cond := [Cond.methodLink RX0 95 yX0_stripPlace, Cond.static yX0_stripPlace, Cond.code yX0_stripPlace cX0_stripPlace 2 (some .int), Cond.methodLink RX0 69 yX0_putNumber, Cond.instanceMethod yX0_putNumber, Cond.selects RX0 yX0_putNumber yX0_putNumber, Cond.code yX0_putNumber cX0_putNumber 5 (some .boolean), Cond.fieldLink RX0 9 "HarbourBoard" "isNumber" "[Z", Cond.fieldLink RX0 13 "HarbourBoard" "numbers" "[D"]
def wsX0_wind : List Cond := .code yX0_wind cX0_wind 3 (some .int) :: ((wsX0_wind_r1 ++ wsX0_wind_r2) ++ wsX00 ++ (vx_atS RX0 63 "java/lang/IllegalArgumentException" ["java/lang/RuntimeException", "java/lang/Exception"]).filter goodWord ++ (vx_atS RX0 131 "java/lang/IllegalStateException" ["java/lang/RuntimeException", "java/lang/Exception"]).filter goodWord)
def wsX0_needWhat : List Cond := .code yX0_needWhat cX0_needWhat 1 none :: ([.classLink RX0 59 "java/lang/IllegalArgumentException", .initialized "java/lang/IllegalArgumentException"] ++ (vx_atS RX0 63 "java/lang/IllegalArgumentException" ["java/lang/RuntimeException", "java/lang/Exception"]).filter goodWord)
def wsX0_putOut : List Cond := .code yX0_putOut cX0_putOut 3 (some .boolean) :: ([.fieldLink RX0 9 "HarbourBoard" "isNumber" "[Z"] ++ wsX00)
def wsX0_appendOut : List Cond := .code yX0_appendOut cX0_appendOut 2 (some .int) :: ([.fieldLink RX0 17 "HarbourBoard" "lengths" "[I", .methodLink RX0 169 yX0_needRoom, .instanceMethod yX0_needRoom, .selects RX0 yX0_needRoom yX0_needRoom, .initialized RX0, .code yX0_needRoom cX0_needRoom 2 none, .classLink RX0 127 "java/lang/IllegalStateException", .initialized "java/lang/IllegalStateException", .methodLink RX0 95 yX0_stripPlace, .static yX0_stripPlace, .code yX0_stripPlace cX0_stripPlace 2 (some .int), .methodLink RX0 75 yX0_putOut, .instanceMethod yX0_putOut, .selects RX0 yX0_putOut yX0_putOut, .code yX0_putOut cX0_putOut 3 (some .boolean), .fieldLink RX0 9 "HarbourBoard" "isNumber" "[Z"] ++ wsX00 ++ (vx_atS RX0 131 "java/lang/IllegalStateException" ["java/lang/RuntimeException", "java/lang/Exception"]).filter goodWord)
def wsX0_out_r1 : List Cond := [Cond.methodLink RX0 29 yX0_needGauge, Cond.static yX0_needGauge, Cond.initialized RX0, Cond.code yX0_needGauge cX0_needGauge 1 none, Cond.classLink RX0 59 "java/lang/IllegalArgumentException", Cond.initialized "java/lang/IllegalArgumentException", Cond.methodLink RX0 49 yX0_needWhat, Cond.static yX0_needWhat, Cond.code yX0_needWhat cX0_needWhat 1 none, Cond.methodLink RX0 37 yX0_stripOf, Cond.static yX0_stripOf, Cond.code yX0_stripOf cX0_stripOf 2 (some .int), Cond.methodLink RX0 52 yX0_appendOut, Cond.instanceMethod yX0_appendOut, Cond.selects RX0 yX0_appendOut yX0_appendOut, Cond.code yX0_appendOut cX0_appendOut 2 (some .int), Cond.fieldLink RX0 17 "HarbourBoard" "lengths" "[I", Cond.methodLink RX0 169 yX0_needRoom, Cond.instanceMethod yX0_needRoom, Cond.selects RX0 yX0_needRoom yX0_needRoom, Cond.code yX0_needRoom cX0_needRoom 2 none, Cond.classLink RX0 127 "java/lang/IllegalStateException", Cond.initialized "java/lang/IllegalStateException", Cond.methodLink RX0 95 yX0_stripPlace]
def wsX0_out_r2 : List Cond := [Cond.static yX0_stripPlace, Cond.code yX0_stripPlace cX0_stripPlace 2 (some .int), Cond.methodLink RX0 75 yX0_putOut, Cond.instanceMethod yX0_putOut, Cond.selects RX0 yX0_putOut yX0_putOut, Cond.code yX0_putOut cX0_putOut 3 (some .boolean), Cond.fieldLink RX0 9 "HarbourBoard" "isNumber" "[Z"]
def wsX0_out : List Cond := .code yX0_out cX0_out 3 (some .int) :: ((wsX0_out_r1 ++ wsX0_out_r2) ++ wsX00 ++ (vx_atS RX0 63 "java/lang/IllegalArgumentException" ["java/lang/RuntimeException", "java/lang/Exception"]).filter goodWord ++ (vx_atS RX0 131 "java/lang/IllegalStateException" ["java/lang/RuntimeException", "java/lang/Exception"]).filter goodWord)
def wsX0_emptyStrip : List Cond := .code yX0_emptyStrip cX0_emptyStrip 3 (some .int) :: ([.fieldLink RX0 17 "HarbourBoard" "lengths" "[I"] ++ wsX00)
def wsX0_clear : List Cond := .code yX0_clear cX0_clear 2 (some .int) :: ([.methodLink RX0 29 yX0_needGauge, .static yX0_needGauge, .initialized RX0, .code yX0_needGauge cX0_needGauge 1 none, .classLink RX0 59 "java/lang/IllegalArgumentException", .initialized "java/lang/IllegalArgumentException", .methodLink RX0 37 yX0_stripOf, .static yX0_stripOf, .code yX0_stripOf cX0_stripOf 2 (some .int), .methodLink RX0 56 yX0_emptyStrip, .instanceMethod yX0_emptyStrip, .selects RX0 yX0_emptyStrip yX0_emptyStrip, .code yX0_emptyStrip cX0_emptyStrip 3 (some .int), .fieldLink RX0 17 "HarbourBoard" "lengths" "[I"] ++ wsX00 ++ (vx_atS RX0 63 "java/lang/IllegalArgumentException" ["java/lang/RuntimeException", "java/lang/Exception"]).filter goodWord)
def wsX0_markPlace : List Cond := .code yX0_markPlace cX0_markPlace 2 (some .int) :: ([])
def wsX0_mark : List Cond := .code yX0_mark cX0_mark 5 (some .boolean) :: ([.classLink RX0 59 "java/lang/IllegalArgumentException", .initialized "java/lang/IllegalArgumentException", .methodLink RX0 29 yX0_needGauge, .static yX0_needGauge, .initialized RX0, .code yX0_needGauge cX0_needGauge 1 none, .methodLink RX0 33 yX0_needLevel, .static yX0_needLevel, .code yX0_needLevel cX0_needLevel 2 none, .constantDouble RX0 144 (13875379345695965184), .constantDouble RX0 146 (4652007308841189376), .methodLink RX0 66 yX0_markPlace, .static yX0_markPlace, .code yX0_markPlace cX0_markPlace 2 (some .int), .methodLink RX0 69 yX0_putNumber, .instanceMethod yX0_putNumber, .selects RX0 yX0_putNumber yX0_putNumber, .code yX0_putNumber cX0_putNumber 5 (some .boolean), .fieldLink RX0 9 "HarbourBoard" "isNumber" "[Z", .fieldLink RX0 13 "HarbourBoard" "numbers" "[D"] ++ wsX00 ++ (vx_atS RX0 63 "java/lang/IllegalArgumentException" ["java/lang/RuntimeException", "java/lang/Exception"]).filter goodWord)
def wsX0_gale : List Cond := .code yX0_gale cX0_gale 3 (some .boolean) :: ([.methodLink RX0 29 yX0_needGauge, .static yX0_needGauge, .initialized RX0, .code yX0_needGauge cX0_needGauge 1 none, .classLink RX0 59 "java/lang/IllegalArgumentException", .initialized "java/lang/IllegalArgumentException", .methodLink RX0 45 yX0_needWind, .static yX0_needWind, .code yX0_needWind cX0_needWind 1 none, .constantFloat RX0 150 (1128792064), .methodLink RX0 66 yX0_markPlace, .static yX0_markPlace, .code yX0_markPlace cX0_markPlace 2 (some .int), .methodLink RX0 69 yX0_putNumber, .instanceMethod yX0_putNumber, .selects RX0 yX0_putNumber yX0_putNumber, .code yX0_putNumber cX0_putNumber 5 (some .boolean), .fieldLink RX0 9 "HarbourBoard" "isNumber" "[Z", .fieldLink RX0 13 "HarbourBoard" "numbers" "[D"] ++ wsX00 ++ (vx_atS RX0 63 "java/lang/IllegalArgumentException" ["java/lang/RuntimeException", "java/lang/Exception"]).filter goodWord)
def wsX0_lift : List Cond := .code yX0_lift cX0_lift 3 (some .boolean) :: ([.classLink RX0 59 "java/lang/IllegalArgumentException", .initialized "java/lang/IllegalArgumentException", .methodLink RX0 29 yX0_needGauge, .static yX0_needGauge, .initialized RX0, .code yX0_needGauge cX0_needGauge 1 none, .methodLink RX0 66 yX0_markPlace, .static yX0_markPlace, .code yX0_markPlace cX0_markPlace 2 (some .int), .methodLink RX0 75 yX0_putOut, .instanceMethod yX0_putOut, .selects RX0 yX0_putOut yX0_putOut, .code yX0_putOut cX0_putOut 3 (some .boolean), .fieldLink RX0 9 "HarbourBoard" "isNumber" "[Z"] ++ wsX00 ++ (vx_atS RX0 63 "java/lang/IllegalArgumentException" ["java/lang/RuntimeException", "java/lang/Exception"]).filter goodWord)
def wsX0_probePlace : List Cond := .code yX0_probePlace cX0_probePlace 1 (some .int) :: ([])
def wsX0_latestPlace : List Cond := .code yX0_latestPlace cX0_latestPlace 4 (some .int) :: ([.fieldLink RX0 17 "HarbourBoard" "lengths" "[I", .methodLink RX0 37 yX0_stripOf, .static yX0_stripOf, .initialized RX0, .code yX0_stripOf cX0_stripOf 2 (some .int), .methodLink RX0 95 yX0_stripPlace, .static yX0_stripPlace, .code yX0_stripPlace cX0_stripPlace 2 (some .int)] ++ wsX00)
def wsX0_isRelated : List Cond := .code yX0_isRelated cX0_isRelated 8 (some .boolean) :: ([.fieldLink RX0 9 "HarbourBoard" "isNumber" "[Z", .fieldLink RX0 13 "HarbourBoard" "numbers" "[D"] ++ wsX00)
def wsX0_gaugesRelatedToProbe : List Cond := .code yX0_gaugesRelatedToProbe cX0_gaugesRelatedToProbe 5 (some .int) :: ([.methodLink RX0 102 yX0_latestPlace, .instanceMethod yX0_latestPlace, .selects RX0 yX0_latestPlace yX0_latestPlace, .initialized RX0, .code yX0_latestPlace cX0_latestPlace 4 (some .int), .fieldLink RX0 17 "HarbourBoard" "lengths" "[I", .methodLink RX0 37 yX0_stripOf, .static yX0_stripOf, .code yX0_stripOf cX0_stripOf 2 (some .int), .methodLink RX0 95 yX0_stripPlace, .static yX0_stripPlace, .code yX0_stripPlace cX0_stripPlace 2 (some .int), .methodLink RX0 79 yX0_probePlace, .static yX0_probePlace, .code yX0_probePlace cX0_probePlace 1 (some .int), .methodLink RX0 98 yX0_isRelated, .instanceMethod yX0_isRelated, .selects RX0 yX0_isRelated yX0_isRelated, .code yX0_isRelated cX0_isRelated 8 (some .boolean), .fieldLink RX0 9 "HarbourBoard" "isNumber" "[Z", .fieldLink RX0 13 "HarbourBoard" "numbers" "[D"] ++ wsX00)
def wsX0_probe_r1 : List Cond := [Cond.methodLink RX0 33 yX0_needLevel, Cond.static yX0_needLevel, Cond.initialized RX0, Cond.code yX0_needLevel cX0_needLevel 2 none, Cond.classLink RX0 59 "java/lang/IllegalArgumentException", Cond.initialized "java/lang/IllegalArgumentException", Cond.constantDouble RX0 144 (13875379345695965184), Cond.constantDouble RX0 146 (4652007308841189376), Cond.methodLink RX0 79 yX0_probePlace, Cond.static yX0_probePlace, Cond.code yX0_probePlace cX0_probePlace 1 (some .int), Cond.methodLink RX0 69 yX0_putNumber, Cond.instanceMethod yX0_putNumber, Cond.selects RX0 yX0_putNumber yX0_putNumber, Cond.code yX0_putNumber cX0_putNumber 5 (some .boolean), Cond.fieldLink RX0 9 "HarbourBoard" "isNumber" "[Z", Cond.fieldLink RX0 13 "HarbourBoard" "numbers" "[D", Cond.methodLink RX0 82 yX0_gaugesRelatedToProbe, Cond.instanceMethod yX0_gaugesRelatedToProbe, Cond.selects RX0 yX0_gaugesRelatedToProbe yX0_gaugesRelatedToProbe, Cond.code yX0_gaugesRelatedToProbe cX0_gaugesRelatedToProbe 5 (some .int), Cond.methodLink RX0 102 yX0_latestPlace, Cond.instanceMethod yX0_latestPlace, Cond.selects RX0 yX0_latestPlace yX0_latestPlace]
def wsX0_probe_r2 : List Cond := [Cond.code yX0_latestPlace cX0_latestPlace 4 (some .int), Cond.fieldLink RX0 17 "HarbourBoard" "lengths" "[I", Cond.methodLink RX0 37 yX0_stripOf, Cond.static yX0_stripOf, Cond.code yX0_stripOf cX0_stripOf 2 (some .int), Cond.methodLink RX0 95 yX0_stripPlace, Cond.static yX0_stripPlace, Cond.code yX0_stripPlace cX0_stripPlace 2 (some .int), Cond.methodLink RX0 98 yX0_isRelated, Cond.instanceMethod yX0_isRelated, Cond.selects RX0 yX0_isRelated yX0_isRelated, Cond.code yX0_isRelated cX0_isRelated 8 (some .boolean)]
def wsX0_probe : List Cond := .code yX0_probe cX0_probe 3 (some .int) :: ((wsX0_probe_r1 ++ wsX0_probe_r2) ++ wsX00 ++ (vx_atS RX0 63 "java/lang/IllegalArgumentException" ["java/lang/RuntimeException", "java/lang/Exception"]).filter goodWord)
def wsX0_probeWind_r1 : List Cond := [Cond.methodLink RX0 45 yX0_needWind, Cond.static yX0_needWind, Cond.initialized RX0, Cond.code yX0_needWind cX0_needWind 1 none, Cond.classLink RX0 59 "java/lang/IllegalArgumentException", Cond.initialized "java/lang/IllegalArgumentException", Cond.constantFloat RX0 150 (1128792064), Cond.methodLink RX0 79 yX0_probePlace, Cond.static yX0_probePlace, Cond.code yX0_probePlace cX0_probePlace 1 (some .int), Cond.methodLink RX0 69 yX0_putNumber, Cond.instanceMethod yX0_putNumber, Cond.selects RX0 yX0_putNumber yX0_putNumber, Cond.code yX0_putNumber cX0_putNumber 5 (some .boolean), Cond.fieldLink RX0 9 "HarbourBoard" "isNumber" "[Z", Cond.fieldLink RX0 13 "HarbourBoard" "numbers" "[D", Cond.methodLink RX0 82 yX0_gaugesRelatedToProbe, Cond.instanceMethod yX0_gaugesRelatedToProbe, Cond.selects RX0 yX0_gaugesRelatedToProbe yX0_gaugesRelatedToProbe, Cond.code yX0_gaugesRelatedToProbe cX0_gaugesRelatedToProbe 5 (some .int), Cond.methodLink RX0 102 yX0_latestPlace, Cond.instanceMethod yX0_latestPlace, Cond.selects RX0 yX0_latestPlace yX0_latestPlace, Cond.code yX0_latestPlace cX0_latestPlace 4 (some .int)]
def wsX0_probeWind_r2 : List Cond := [Cond.fieldLink RX0 17 "HarbourBoard" "lengths" "[I", Cond.methodLink RX0 37 yX0_stripOf, Cond.static yX0_stripOf, Cond.code yX0_stripOf cX0_stripOf 2 (some .int), Cond.methodLink RX0 95 yX0_stripPlace, Cond.static yX0_stripPlace, Cond.code yX0_stripPlace cX0_stripPlace 2 (some .int), Cond.methodLink RX0 98 yX0_isRelated, Cond.instanceMethod yX0_isRelated, Cond.selects RX0 yX0_isRelated yX0_isRelated, Cond.code yX0_isRelated cX0_isRelated 8 (some .boolean)]
def wsX0_probeWind : List Cond := .code yX0_probeWind cX0_probeWind 2 (some .int) :: ((wsX0_probeWind_r1 ++ wsX0_probeWind_r2) ++ wsX00 ++ (vx_atS RX0 63 "java/lang/IllegalArgumentException" ["java/lang/RuntimeException", "java/lang/Exception"]).filter goodWord)
def wsX0_probeOut_r1 : List Cond := [Cond.methodLink RX0 49 yX0_needWhat, Cond.static yX0_needWhat, Cond.initialized RX0, Cond.code yX0_needWhat cX0_needWhat 1 none, Cond.classLink RX0 59 "java/lang/IllegalArgumentException", Cond.initialized "java/lang/IllegalArgumentException", Cond.methodLink RX0 79 yX0_probePlace, Cond.static yX0_probePlace, Cond.code yX0_probePlace cX0_probePlace 1 (some .int), Cond.methodLink RX0 75 yX0_putOut, Cond.instanceMethod yX0_putOut, Cond.selects RX0 yX0_putOut yX0_putOut, Cond.code yX0_putOut cX0_putOut 3 (some .boolean), Cond.fieldLink RX0 9 "HarbourBoard" "isNumber" "[Z", Cond.methodLink RX0 82 yX0_gaugesRelatedToProbe, Cond.instanceMethod yX0_gaugesRelatedToProbe, Cond.selects RX0 yX0_gaugesRelatedToProbe yX0_gaugesRelatedToProbe, Cond.code yX0_gaugesRelatedToProbe cX0_gaugesRelatedToProbe 5 (some .int), Cond.methodLink RX0 102 yX0_latestPlace, Cond.instanceMethod yX0_latestPlace, Cond.selects RX0 yX0_latestPlace yX0_latestPlace, Cond.code yX0_latestPlace cX0_latestPlace 4 (some .int), Cond.fieldLink RX0 17 "HarbourBoard" "lengths" "[I", Cond.methodLink RX0 37 yX0_stripOf]
def wsX0_probeOut_r2 : List Cond := [Cond.static yX0_stripOf, Cond.code yX0_stripOf cX0_stripOf 2 (some .int), Cond.methodLink RX0 95 yX0_stripPlace, Cond.static yX0_stripPlace, Cond.code yX0_stripPlace cX0_stripPlace 2 (some .int), Cond.methodLink RX0 98 yX0_isRelated, Cond.instanceMethod yX0_isRelated, Cond.selects RX0 yX0_isRelated yX0_isRelated, Cond.code yX0_isRelated cX0_isRelated 8 (some .boolean), Cond.fieldLink RX0 13 "HarbourBoard" "numbers" "[D"]
def wsX0_probeOut : List Cond := .code yX0_probeOut cX0_probeOut 2 (some .int) :: ((wsX0_probeOut_r1 ++ wsX0_probeOut_r2) ++ wsX00 ++ (vx_atS RX0 63 "java/lang/IllegalArgumentException" ["java/lang/RuntimeException", "java/lang/Exception"]).filter goodWord)
def wsX0_needRelation : List Cond := .code yX0_needRelation cX0_needRelation 1 none :: ([.classLink RX0 59 "java/lang/IllegalArgumentException", .initialized "java/lang/IllegalArgumentException"] ++ (vx_atS RX0 63 "java/lang/IllegalArgumentException" ["java/lang/RuntimeException", "java/lang/Exception"]).filter goodWord)
def wsX0_runBack : List Cond := .code yX0_runBack cX0_runBack 6 (some .int) :: ([.fieldLink RX0 17 "HarbourBoard" "lengths" "[I", .methodLink RX0 95 yX0_stripPlace, .static yX0_stripPlace, .initialized RX0, .code yX0_stripPlace cX0_stripPlace 2 (some .int), .methodLink RX0 98 yX0_isRelated, .instanceMethod yX0_isRelated, .selects RX0 yX0_isRelated yX0_isRelated, .code yX0_isRelated cX0_isRelated 8 (some .boolean), .fieldLink RX0 9 "HarbourBoard" "isNumber" "[Z", .fieldLink RX0 13 "HarbourBoard" "numbers" "[D"] ++ wsX00)
def wsX0_runAhead : List Cond := .code yX0_runAhead cX0_runAhead 5 (some .int) :: ([.fieldLink RX0 17 "HarbourBoard" "lengths" "[I", .methodLink RX0 95 yX0_stripPlace, .static yX0_stripPlace, .initialized RX0, .code yX0_stripPlace cX0_stripPlace 2 (some .int), .methodLink RX0 98 yX0_isRelated, .instanceMethod yX0_isRelated, .selects RX0 yX0_isRelated yX0_isRelated, .code yX0_isRelated cX0_isRelated 8 (some .boolean), .fieldLink RX0 9 "HarbourBoard" "isNumber" "[Z", .fieldLink RX0 13 "HarbourBoard" "numbers" "[D"] ++ wsX00)
def wsX0_run_r1 : List Cond := [Cond.methodLink RX0 29 yX0_needGauge, Cond.static yX0_needGauge, Cond.initialized RX0, Cond.code yX0_needGauge cX0_needGauge 1 none, Cond.classLink RX0 59 "java/lang/IllegalArgumentException", Cond.initialized "java/lang/IllegalArgumentException", Cond.methodLink RX0 49 yX0_needWhat, Cond.static yX0_needWhat, Cond.code yX0_needWhat cX0_needWhat 1 none, Cond.methodLink RX0 85 yX0_needRelation, Cond.static yX0_needRelation, Cond.code yX0_needRelation cX0_needRelation 1 none, Cond.methodLink RX0 37 yX0_stripOf, Cond.static yX0_stripOf, Cond.code yX0_stripOf cX0_stripOf 2 (some .int), Cond.methodLink RX0 79 yX0_probePlace, Cond.static yX0_probePlace, Cond.code yX0_probePlace cX0_probePlace 1 (some .int), Cond.methodLink RX0 88 yX0_runBack, Cond.instanceMethod yX0_runBack, Cond.selects RX0 yX0_runBack yX0_runBack, Cond.code yX0_runBack cX0_runBack 6 (some .int), Cond.fieldLink RX0 17 "HarbourBoard" "lengths" "[I", Cond.methodLink RX0 95 yX0_stripPlace]
def wsX0_run_r2 : List Cond := [Cond.static yX0_stripPlace, Cond.code yX0_stripPlace cX0_stripPlace 2 (some .int), Cond.methodLink RX0 98 yX0_isRelated, Cond.instanceMethod yX0_isRelated, Cond.selects RX0 yX0_isRelated yX0_isRelated, Cond.code yX0_isRelated cX0_isRelated 8 (some .boolean), Cond.fieldLink RX0 9 "HarbourBoard" "isNumber" "[Z", Cond.fieldLink RX0 13 "HarbourBoard" "numbers" "[D", Cond.methodLink RX0 92 yX0_runAhead, Cond.instanceMethod yX0_runAhead, Cond.selects RX0 yX0_runAhead yX0_runAhead, Cond.code yX0_runAhead cX0_runAhead 5 (some .int)]
def wsX0_run : List Cond := .code yX0_run cX0_run 7 (some .int) :: ((wsX0_run_r1 ++ wsX0_run_r2) ++ wsX00 ++ (vx_atS RX0 63 "java/lang/IllegalArgumentException" ["java/lang/RuntimeException", "java/lang/Exception"]).filter goodWord)
def wsX0_count_r1 : List Cond := [Cond.fieldLink RX0 17 "HarbourBoard" "lengths" "[I", Cond.methodLink RX0 29 yX0_needGauge, Cond.static yX0_needGauge, Cond.initialized RX0, Cond.code yX0_needGauge cX0_needGauge 1 none, Cond.classLink RX0 59 "java/lang/IllegalArgumentException", Cond.initialized "java/lang/IllegalArgumentException", Cond.methodLink RX0 49 yX0_needWhat, Cond.static yX0_needWhat, Cond.code yX0_needWhat cX0_needWhat 1 none, Cond.methodLink RX0 85 yX0_needRelation, Cond.static yX0_needRelation, Cond.code yX0_needRelation cX0_needRelation 1 none, Cond.methodLink RX0 37 yX0_stripOf, Cond.static yX0_stripOf, Cond.code yX0_stripOf cX0_stripOf 2 (some .int), Cond.methodLink RX0 95 yX0_stripPlace, Cond.static yX0_stripPlace, Cond.code yX0_stripPlace cX0_stripPlace 2 (some .int), Cond.methodLink RX0 79 yX0_probePlace, Cond.static yX0_probePlace, Cond.code yX0_probePlace cX0_probePlace 1 (some .int), Cond.methodLink RX0 98 yX0_isRelated, Cond.instanceMethod yX0_isRelated]
def wsX0_count_r2 : List Cond := [Cond.selects RX0 yX0_isRelated yX0_isRelated, Cond.code yX0_isRelated cX0_isRelated 8 (some .boolean), Cond.fieldLink RX0 9 "HarbourBoard" "isNumber" "[Z", Cond.fieldLink RX0 13 "HarbourBoard" "numbers" "[D"]
def wsX0_count : List Cond := .code yX0_count cX0_count 8 (some .int) :: ((wsX0_count_r1 ++ wsX0_count_r2) ++ wsX00 ++ (vx_atS RX0 63 "java/lang/IllegalArgumentException" ["java/lang/RuntimeException", "java/lang/Exception"]).filter goodWord)
def wsX0_holds_r1 : List Cond := [Cond.methodLink RX0 29 yX0_needGauge, Cond.static yX0_needGauge, Cond.initialized RX0, Cond.code yX0_needGauge cX0_needGauge 1 none, Cond.classLink RX0 59 "java/lang/IllegalArgumentException", Cond.initialized "java/lang/IllegalArgumentException", Cond.methodLink RX0 49 yX0_needWhat, Cond.static yX0_needWhat, Cond.code yX0_needWhat cX0_needWhat 1 none, Cond.methodLink RX0 85 yX0_needRelation, Cond.static yX0_needRelation, Cond.code yX0_needRelation cX0_needRelation 1 none, Cond.methodLink RX0 102 yX0_latestPlace, Cond.instanceMethod yX0_latestPlace, Cond.selects RX0 yX0_latestPlace yX0_latestPlace, Cond.code yX0_latestPlace cX0_latestPlace 4 (some .int), Cond.fieldLink RX0 17 "HarbourBoard" "lengths" "[I", Cond.methodLink RX0 37 yX0_stripOf, Cond.static yX0_stripOf, Cond.code yX0_stripOf cX0_stripOf 2 (some .int), Cond.methodLink RX0 95 yX0_stripPlace, Cond.static yX0_stripPlace, Cond.code yX0_stripPlace cX0_stripPlace 2 (some .int), Cond.methodLink RX0 98 yX0_isRelated]
def wsX0_holds_r2 : List Cond := [Cond.instanceMethod yX0_isRelated, Cond.selects RX0 yX0_isRelated yX0_isRelated, Cond.code yX0_isRelated cX0_isRelated 8 (some .boolean), Cond.fieldLink RX0 9 "HarbourBoard" "isNumber" "[Z", Cond.fieldLink RX0 13 "HarbourBoard" "numbers" "[D"]
def wsX0_holds : List Cond := .code yX0_holds cX0_holds 5 (some .boolean) :: ((wsX0_holds_r1 ++ wsX0_holds_r2) ++ wsX00 ++ (vx_atS RX0 63 "java/lang/IllegalArgumentException" ["java/lang/RuntimeException", "java/lang/Exception"]).filter goodWord)
def wsX0_pick_r1 : List Cond := [Cond.methodLink RX0 29 yX0_needGauge, Cond.static yX0_needGauge, Cond.initialized RX0, Cond.code yX0_needGauge cX0_needGauge 1 none, Cond.classLink RX0 59 "java/lang/IllegalArgumentException", Cond.initialized "java/lang/IllegalArgumentException", Cond.methodLink RX0 49 yX0_needWhat, Cond.static yX0_needWhat, Cond.code yX0_needWhat cX0_needWhat 1 none, Cond.methodLink RX0 85 yX0_needRelation, Cond.static yX0_needRelation, Cond.code yX0_needRelation cX0_needRelation 1 none, Cond.methodLink RX0 102 yX0_latestPlace, Cond.instanceMethod yX0_latestPlace, Cond.selects RX0 yX0_latestPlace yX0_latestPlace, Cond.code yX0_latestPlace cX0_latestPlace 4 (some .int), Cond.fieldLink RX0 17 "HarbourBoard" "lengths" "[I", Cond.methodLink RX0 37 yX0_stripOf, Cond.static yX0_stripOf, Cond.code yX0_stripOf cX0_stripOf 2 (some .int), Cond.methodLink RX0 95 yX0_stripPlace, Cond.static yX0_stripPlace, Cond.code yX0_stripPlace cX0_stripPlace 2 (some .int), Cond.methodLink RX0 98 yX0_isRelated]
def wsX0_pick_r2 : List Cond := [Cond.instanceMethod yX0_isRelated, Cond.selects RX0 yX0_isRelated yX0_isRelated, Cond.code yX0_isRelated cX0_isRelated 8 (some .boolean), Cond.fieldLink RX0 9 "HarbourBoard" "isNumber" "[Z", Cond.fieldLink RX0 13 "HarbourBoard" "numbers" "[D"]
def wsX0_pick : List Cond := .code yX0_pick cX0_pick 7 (some .int) :: ((wsX0_pick_r1 ++ wsX0_pick_r2) ++ wsX00 ++ (vx_atS RX0 63 "java/lang/IllegalArgumentException" ["java/lang/RuntimeException", "java/lang/Exception"]).filter goodWord)
def wsX0_standOfLevel : List Cond := .code yX0_standOfLevel cX0_standOfLevel 5 (some .int) :: ([.fieldLink RX0 17 "HarbourBoard" "lengths" "[I", .fieldLink RX0 9 "HarbourBoard" "isNumber" "[Z", .methodLink RX0 37 yX0_stripOf, .static yX0_stripOf, .initialized RX0, .code yX0_stripOf cX0_stripOf 2 (some .int), .methodLink RX0 102 yX0_latestPlace, .instanceMethod yX0_latestPlace, .selects RX0 yX0_latestPlace yX0_latestPlace, .code yX0_latestPlace cX0_latestPlace 4 (some .int), .methodLink RX0 95 yX0_stripPlace, .static yX0_stripPlace, .code yX0_stripPlace cX0_stripPlace 2 (some .int), .methodLink RX0 66 yX0_markPlace, .static yX0_markPlace, .code yX0_markPlace cX0_markPlace 2 (some .int), .methodLink RX0 98 yX0_isRelated, .instanceMethod yX0_isRelated, .selects RX0 yX0_isRelated yX0_isRelated, .code yX0_isRelated cX0_isRelated 8 (some .boolean), .fieldLink RX0 13 "HarbourBoard" "numbers" "[D"] ++ wsX00)
def wsX0_standOfWind : List Cond := .code yX0_standOfWind cX0_standOfWind 4 (some .int) :: ([.fieldLink RX0 9 "HarbourBoard" "isNumber" "[Z", .methodLink RX0 102 yX0_latestPlace, .instanceMethod yX0_latestPlace, .selects RX0 yX0_latestPlace yX0_latestPlace, .initialized RX0, .code yX0_latestPlace cX0_latestPlace 4 (some .int), .fieldLink RX0 17 "HarbourBoard" "lengths" "[I", .methodLink RX0 37 yX0_stripOf, .static yX0_stripOf, .code yX0_stripOf cX0_stripOf 2 (some .int), .methodLink RX0 95 yX0_stripPlace, .static yX0_stripPlace, .code yX0_stripPlace cX0_stripPlace 2 (some .int), .methodLink RX0 66 yX0_markPlace, .static yX0_markPlace, .code yX0_markPlace cX0_markPlace 2 (some .int), .methodLink RX0 98 yX0_isRelated, .instanceMethod yX0_isRelated, .selects RX0 yX0_isRelated yX0_isRelated, .code yX0_isRelated cX0_isRelated 8 (some .boolean), .fieldLink RX0 13 "HarbourBoard" "numbers" "[D"] ++ wsX00)
def wsX0_stand_r1 : List Cond := [Cond.methodLink RX0 29 yX0_needGauge, Cond.static yX0_needGauge, Cond.initialized RX0, Cond.code yX0_needGauge cX0_needGauge 1 none, Cond.classLink RX0 59 "java/lang/IllegalArgumentException", Cond.initialized "java/lang/IllegalArgumentException", Cond.methodLink RX0 105 yX0_standOfLevel, Cond.instanceMethod yX0_standOfLevel, Cond.selects RX0 yX0_standOfLevel yX0_standOfLevel, Cond.code yX0_standOfLevel cX0_standOfLevel 5 (some .int), Cond.fieldLink RX0 17 "HarbourBoard" "lengths" "[I", Cond.fieldLink RX0 9 "HarbourBoard" "isNumber" "[Z", Cond.methodLink RX0 37 yX0_stripOf, Cond.static yX0_stripOf, Cond.code yX0_stripOf cX0_stripOf 2 (some .int), Cond.methodLink RX0 102 yX0_latestPlace, Cond.instanceMethod yX0_latestPlace, Cond.selects RX0 yX0_latestPlace yX0_latestPlace, Cond.code yX0_latestPlace cX0_latestPlace 4 (some .int), Cond.methodLink RX0 95 yX0_stripPlace, Cond.static yX0_stripPlace, Cond.code yX0_stripPlace cX0_stripPlace 2 (some .int), Cond.methodLink RX0 66 yX0_markPlace, Cond.static yX0_markPlace]
def wsX0_stand_r2 : List Cond := [Cond.code yX0_markPlace cX0_markPlace 2 (some .int), Cond.methodLink RX0 98 yX0_isRelated, Cond.instanceMethod yX0_isRelated, Cond.selects RX0 yX0_isRelated yX0_isRelated, Cond.code yX0_isRelated cX0_isRelated 8 (some .boolean), Cond.fieldLink RX0 13 "HarbourBoard" "numbers" "[D", Cond.methodLink RX0 108 yX0_standOfWind, Cond.instanceMethod yX0_standOfWind, Cond.selects RX0 yX0_standOfWind yX0_standOfWind, Cond.code yX0_standOfWind cX0_standOfWind 4 (some .int)]
def wsX0_stand : List Cond := .code yX0_stand cX0_stand 2 (some .int) :: ((wsX0_stand_r1 ++ wsX0_stand_r2) ++ wsX00 ++ (vx_atS RX0 63 "java/lang/IllegalArgumentException" ["java/lang/RuntimeException", "java/lang/Exception"]).filter goodWord)
def wsX0_likenessOf : List Cond := .code yX0_likenessOf cX0_likenessOf 3 (some .int) :: ([.fieldLink RX0 9 "HarbourBoard" "isNumber" "[Z", .methodLink RX0 98 yX0_isRelated, .instanceMethod yX0_isRelated, .selects RX0 yX0_isRelated yX0_isRelated, .initialized RX0, .code yX0_isRelated cX0_isRelated 8 (some .boolean), .fieldLink RX0 13 "HarbourBoard" "numbers" "[D"] ++ wsX00)
def wsX0_isAhead : List Cond := .code yX0_isAhead cX0_isAhead 5 (some .boolean) :: ([.fieldLink RX0 9 "HarbourBoard" "isNumber" "[Z", .methodLink RX0 102 yX0_latestPlace, .instanceMethod yX0_latestPlace, .selects RX0 yX0_latestPlace yX0_latestPlace, .initialized RX0, .code yX0_latestPlace cX0_latestPlace 4 (some .int), .fieldLink RX0 17 "HarbourBoard" "lengths" "[I", .methodLink RX0 37 yX0_stripOf, .static yX0_stripOf, .code yX0_stripOf cX0_stripOf 2 (some .int), .methodLink RX0 95 yX0_stripPlace, .static yX0_stripPlace, .code yX0_stripPlace cX0_stripPlace 2 (some .int), .methodLink RX0 119 yX0_likenessOf, .instanceMethod yX0_likenessOf, .selects RX0 yX0_likenessOf yX0_likenessOf, .code yX0_likenessOf cX0_likenessOf 3 (some .int), .methodLink RX0 98 yX0_isRelated, .instanceMethod yX0_isRelated, .selects RX0 yX0_isRelated yX0_isRelated, .code yX0_isRelated cX0_isRelated 8 (some .boolean), .fieldLink RX0 13 "HarbourBoard" "numbers" "[D"] ++ wsX00)
def wsX0_gaugesAheadOf_r1 : List Cond := [Cond.methodLink RX0 172 yX0_isAhead, Cond.instanceMethod yX0_isAhead, Cond.selects RX0 yX0_isAhead yX0_isAhead, Cond.initialized RX0, Cond.code yX0_isAhead cX0_isAhead 5 (some .boolean), Cond.fieldLink RX0 9 "HarbourBoard" "isNumber" "[Z", Cond.methodLink RX0 102 yX0_latestPlace, Cond.instanceMethod yX0_latestPlace, Cond.selects RX0 yX0_latestPlace yX0_latestPlace, Cond.code yX0_latestPlace cX0_latestPlace 4 (some .int), Cond.fieldLink RX0 17 "HarbourBoard" "lengths" "[I", Cond.methodLink RX0 37 yX0_stripOf, Cond.static yX0_stripOf, Cond.code yX0_stripOf cX0_stripOf 2 (some .int), Cond.methodLink RX0 95 yX0_stripPlace, Cond.static yX0_stripPlace, Cond.code yX0_stripPlace cX0_stripPlace 2 (some .int), Cond.methodLink RX0 119 yX0_likenessOf, Cond.instanceMethod yX0_likenessOf, Cond.selects RX0 yX0_likenessOf yX0_likenessOf, Cond.code yX0_likenessOf cX0_likenessOf 3 (some .int), Cond.methodLink RX0 98 yX0_isRelated, Cond.instanceMethod yX0_isRelated, Cond.selects RX0 yX0_isRelated yX0_isRelated]
def wsX0_gaugesAheadOf_r2 : List Cond := [Cond.code yX0_isRelated cX0_isRelated 8 (some .boolean), Cond.fieldLink RX0 13 "HarbourBoard" "numbers" "[D"]
def wsX0_gaugesAheadOf : List Cond := .code yX0_gaugesAheadOf cX0_gaugesAheadOf 4 (some .int) :: ((wsX0_gaugesAheadOf_r1 ++ wsX0_gaugesAheadOf_r2) ++ wsX00)
def wsX0_order_r1 : List Cond := [Cond.classLink RX0 59 "java/lang/IllegalArgumentException", Cond.initialized "java/lang/IllegalArgumentException", Cond.methodLink RX0 113 yX0_gaugesAheadOf, Cond.instanceMethod yX0_gaugesAheadOf, Cond.selects RX0 yX0_gaugesAheadOf yX0_gaugesAheadOf, Cond.initialized RX0, Cond.code yX0_gaugesAheadOf cX0_gaugesAheadOf 4 (some .int), Cond.methodLink RX0 172 yX0_isAhead, Cond.instanceMethod yX0_isAhead, Cond.selects RX0 yX0_isAhead yX0_isAhead, Cond.code yX0_isAhead cX0_isAhead 5 (some .boolean), Cond.fieldLink RX0 9 "HarbourBoard" "isNumber" "[Z", Cond.methodLink RX0 102 yX0_latestPlace, Cond.instanceMethod yX0_latestPlace, Cond.selects RX0 yX0_latestPlace yX0_latestPlace, Cond.code yX0_latestPlace cX0_latestPlace 4 (some .int), Cond.fieldLink RX0 17 "HarbourBoard" "lengths" "[I", Cond.methodLink RX0 37 yX0_stripOf, Cond.static yX0_stripOf, Cond.code yX0_stripOf cX0_stripOf 2 (some .int), Cond.methodLink RX0 95 yX0_stripPlace, Cond.static yX0_stripPlace, Cond.code yX0_stripPlace cX0_stripPlace 2 (some .int), Cond.methodLink RX0 119 yX0_likenessOf]
def wsX0_order_r2 : List Cond := [Cond.instanceMethod yX0_likenessOf, Cond.selects RX0 yX0_likenessOf yX0_likenessOf, Cond.code yX0_likenessOf cX0_likenessOf 3 (some .int), Cond.methodLink RX0 98 yX0_isRelated, Cond.instanceMethod yX0_isRelated, Cond.selects RX0 yX0_isRelated yX0_isRelated, Cond.code yX0_isRelated cX0_isRelated 8 (some .boolean), Cond.fieldLink RX0 13 "HarbourBoard" "numbers" "[D"]
def wsX0_order : List Cond := .code yX0_order cX0_order 4 (some .int) :: ((wsX0_order_r1 ++ wsX0_order_r2) ++ wsX00 ++ (vx_atS RX0 63 "java/lang/IllegalArgumentException" ["java/lang/RuntimeException", "java/lang/Exception"]).filter goodWord)
def wsX0_extremePlace : List Cond := .code yX0_extremePlace cX0_extremePlace 7 (some .int) :: ([.classLink RX0 176 "java/util/NoSuchElementException", .initialized "java/util/NoSuchElementException", .fieldLink RX0 17 "HarbourBoard" "lengths" "[I", .fieldLink RX0 9 "HarbourBoard" "isNumber" "[Z", .methodLink RX0 95 yX0_stripPlace, .static yX0_stripPlace, .initialized RX0, .code yX0_stripPlace cX0_stripPlace 2 (some .int), .methodLink RX0 98 yX0_isRelated, .instanceMethod yX0_isRelated, .selects RX0 yX0_isRelated yX0_isRelated, .code yX0_isRelated cX0_isRelated 8 (some .boolean), .fieldLink RX0 13 "HarbourBoard" "numbers" "[D"] ++ wsX00 ++ cy_at.filter goodWord)
def wsX0_highest_r1 : List Cond := [Cond.fieldLink RX0 13 "HarbourBoard" "numbers" "[D", Cond.methodLink RX0 29 yX0_needGauge, Cond.static yX0_needGauge, Cond.initialized RX0, Cond.code yX0_needGauge cX0_needGauge 1 none, Cond.classLink RX0 59 "java/lang/IllegalArgumentException", Cond.initialized "java/lang/IllegalArgumentException", Cond.methodLink RX0 37 yX0_stripOf, Cond.static yX0_stripOf, Cond.code yX0_stripOf cX0_stripOf 2 (some .int), Cond.methodLink RX0 116 yX0_extremePlace, Cond.instanceMethod yX0_extremePlace, Cond.selects RX0 yX0_extremePlace yX0_extremePlace, Cond.code yX0_extremePlace cX0_extremePlace 7 (some .int), Cond.classLink RX0 176 "java/util/NoSuchElementException", Cond.initialized "java/util/NoSuchElementException", Cond.fieldLink RX0 17 "HarbourBoard" "lengths" "[I", Cond.fieldLink RX0 9 "HarbourBoard" "isNumber" "[Z", Cond.methodLink RX0 95 yX0_stripPlace, Cond.static yX0_stripPlace, Cond.code yX0_stripPlace cX0_stripPlace 2 (some .int), Cond.methodLink RX0 98 yX0_isRelated, Cond.instanceMethod yX0_isRelated, Cond.selects RX0 yX0_isRelated yX0_isRelated]
def wsX0_highest_r2 : List Cond := [Cond.code yX0_isRelated cX0_isRelated 8 (some .boolean)]
def wsX0_highest : List Cond := .code yX0_highest cX0_highest 2 (some .double) :: ((wsX0_highest_r1 ++ wsX0_highest_r2) ++ wsX00 ++ (vx_atS RX0 63 "java/lang/IllegalArgumentException" ["java/lang/RuntimeException", "java/lang/Exception"]).filter goodWord ++ cy_at.filter goodWord)
def wsX0_calmest_r1 : List Cond := [Cond.fieldLink RX0 13 "HarbourBoard" "numbers" "[D", Cond.methodLink RX0 29 yX0_needGauge, Cond.static yX0_needGauge, Cond.initialized RX0, Cond.code yX0_needGauge cX0_needGauge 1 none, Cond.classLink RX0 59 "java/lang/IllegalArgumentException", Cond.initialized "java/lang/IllegalArgumentException", Cond.methodLink RX0 37 yX0_stripOf, Cond.static yX0_stripOf, Cond.code yX0_stripOf cX0_stripOf 2 (some .int), Cond.methodLink RX0 116 yX0_extremePlace, Cond.instanceMethod yX0_extremePlace, Cond.selects RX0 yX0_extremePlace yX0_extremePlace, Cond.code yX0_extremePlace cX0_extremePlace 7 (some .int), Cond.classLink RX0 176 "java/util/NoSuchElementException", Cond.initialized "java/util/NoSuchElementException", Cond.fieldLink RX0 17 "HarbourBoard" "lengths" "[I", Cond.fieldLink RX0 9 "HarbourBoard" "isNumber" "[Z", Cond.methodLink RX0 95 yX0_stripPlace, Cond.static yX0_stripPlace, Cond.code yX0_stripPlace cX0_stripPlace 2 (some .int), Cond.methodLink RX0 98 yX0_isRelated, Cond.instanceMethod yX0_isRelated, Cond.selects RX0 yX0_isRelated yX0_isRelated]
def wsX0_calmest_r2 : List Cond := [Cond.code yX0_isRelated cX0_isRelated 8 (some .boolean)]
def wsX0_calmest : List Cond := .code yX0_calmest cX0_calmest 2 (some .float) :: ((wsX0_calmest_r1 ++ wsX0_calmest_r2) ++ wsX00 ++ (vx_atS RX0 63 "java/lang/IllegalArgumentException" ["java/lang/RuntimeException", "java/lang/Exception"]).filter goodWord ++ cy_at.filter goodWord)
def wsX0_same_r1 : List Cond := [Cond.fieldLink RX0 17 "HarbourBoard" "lengths" "[I", Cond.methodLink RX0 122 Lib.Math.min.name, Cond.static Lib.Math.min.name, Cond.initialized "java/lang/Math", Cond.code Lib.Math.min.name Lib.Math.min.code 2 (some .int), Cond.methodLink RX0 29 yX0_needGauge, Cond.static yX0_needGauge, Cond.initialized RX0, Cond.code yX0_needGauge cX0_needGauge 1 none, Cond.classLink RX0 59 "java/lang/IllegalArgumentException", Cond.initialized "java/lang/IllegalArgumentException", Cond.methodLink RX0 37 yX0_stripOf, Cond.static yX0_stripOf, Cond.code yX0_stripOf cX0_stripOf 2 (some .int), Cond.methodLink RX0 95 yX0_stripPlace, Cond.static yX0_stripPlace, Cond.code yX0_stripPlace cX0_stripPlace 2 (some .int), Cond.methodLink RX0 119 yX0_likenessOf, Cond.instanceMethod yX0_likenessOf, Cond.selects RX0 yX0_likenessOf yX0_likenessOf, Cond.code yX0_likenessOf cX0_likenessOf 3 (some .int), Cond.fieldLink RX0 9 "HarbourBoard" "isNumber" "[Z", Cond.methodLink RX0 98 yX0_isRelated, Cond.instanceMethod yX0_isRelated]
def wsX0_same_r2 : List Cond := [Cond.selects RX0 yX0_isRelated yX0_isRelated, Cond.code yX0_isRelated cX0_isRelated 8 (some .boolean), Cond.fieldLink RX0 13 "HarbourBoard" "numbers" "[D"]
def wsX0_same : List Cond := .code yX0_same cX0_same 7 (some .int) :: ((wsX0_same_r1 ++ wsX0_same_r2) ++ wsX00 ++ (vx_atS RX0 63 "java/lang/IllegalArgumentException" ["java/lang/RuntimeException", "java/lang/Exception"]).filter goodWord)
def wsX0_needMayOpen_r1 : List Cond := [Cond.classLink RX0 155 "java/lang/UnsupportedOperationException", Cond.initialized "java/lang/UnsupportedOperationException", Cond.classLink RX0 160 "java/lang/ArithmeticException", Cond.initialized "java/lang/ArithmeticException", Cond.fieldLink RX0 9 "HarbourBoard" "isNumber" "[Z", Cond.methodLink RX0 102 yX0_latestPlace, Cond.instanceMethod yX0_latestPlace, Cond.selects RX0 yX0_latestPlace yX0_latestPlace, Cond.initialized RX0, Cond.code yX0_latestPlace cX0_latestPlace 4 (some .int), Cond.fieldLink RX0 17 "HarbourBoard" "lengths" "[I", Cond.methodLink RX0 37 yX0_stripOf, Cond.static yX0_stripOf, Cond.code yX0_stripOf cX0_stripOf 2 (some .int), Cond.methodLink RX0 95 yX0_stripPlace, Cond.static yX0_stripPlace, Cond.code yX0_stripPlace cX0_stripPlace 2 (some .int), Cond.methodLink RX0 98 yX0_isRelated, Cond.instanceMethod yX0_isRelated, Cond.selects RX0 yX0_isRelated yX0_isRelated, Cond.code yX0_isRelated cX0_isRelated 8 (some .boolean), Cond.fieldLink RX0 13 "HarbourBoard" "numbers" "[D", Cond.methodLink RX0 66 yX0_markPlace, Cond.static yX0_markPlace]
def wsX0_needMayOpen_r2 : List Cond := [Cond.code yX0_markPlace cX0_markPlace 2 (some .int)]
def wsX0_needMayOpen : List Cond := .code yX0_needMayOpen cX0_needMayOpen 2 none :: ((wsX0_needMayOpen_r1 ++ wsX0_needMayOpen_r2) ++ wsX00 ++ (vx_atS RX0 159 "java/lang/UnsupportedOperationException" ["java/lang/RuntimeException", "java/lang/Exception"]).filter goodWord ++ (vx_atS RX0 164 "java/lang/ArithmeticException" ["java/lang/RuntimeException", "java/lang/Exception"]).filter goodWord)
def wsX0_needMayShut_r1 : List Cond := [Cond.classLink RX0 155 "java/lang/UnsupportedOperationException", Cond.initialized "java/lang/UnsupportedOperationException", Cond.classLink RX0 160 "java/lang/ArithmeticException", Cond.initialized "java/lang/ArithmeticException", Cond.methodLink RX0 102 yX0_latestPlace, Cond.instanceMethod yX0_latestPlace, Cond.selects RX0 yX0_latestPlace yX0_latestPlace, Cond.initialized RX0, Cond.code yX0_latestPlace cX0_latestPlace 4 (some .int), Cond.fieldLink RX0 17 "HarbourBoard" "lengths" "[I", Cond.methodLink RX0 37 yX0_stripOf, Cond.static yX0_stripOf, Cond.code yX0_stripOf cX0_stripOf 2 (some .int), Cond.methodLink RX0 95 yX0_stripPlace, Cond.static yX0_stripPlace, Cond.code yX0_stripPlace cX0_stripPlace 2 (some .int), Cond.methodLink RX0 66 yX0_markPlace, Cond.static yX0_markPlace, Cond.code yX0_markPlace cX0_markPlace 2 (some .int), Cond.methodLink RX0 98 yX0_isRelated, Cond.instanceMethod yX0_isRelated, Cond.selects RX0 yX0_isRelated yX0_isRelated, Cond.code yX0_isRelated cX0_isRelated 8 (some .boolean), Cond.fieldLink RX0 9 "HarbourBoard" "isNumber" "[Z"]
def wsX0_needMayShut_r2 : List Cond := [Cond.fieldLink RX0 13 "HarbourBoard" "numbers" "[D"]
def wsX0_needMayShut : List Cond := .code yX0_needMayShut cX0_needMayShut 1 none :: ((wsX0_needMayShut_r1 ++ wsX0_needMayShut_r2) ++ wsX00 ++ (vx_atS RX0 159 "java/lang/UnsupportedOperationException" ["java/lang/RuntimeException", "java/lang/Exception"]).filter goodWord ++ (vx_atS RX0 164 "java/lang/ArithmeticException" ["java/lang/RuntimeException", "java/lang/Exception"]).filter goodWord)
def wsX0_move_r1 : List Cond := [Cond.classLink RX0 127 "java/lang/IllegalStateException", Cond.initialized "java/lang/IllegalStateException", Cond.fieldLink RX0 21 "HarbourBoard" "gateOpen" "Z", Cond.fieldLink RX0 25 "HarbourBoard" "moves" "I", Cond.methodLink RX0 132 yX0_needMayOpen, Cond.instanceMethod yX0_needMayOpen, Cond.selects RX0 yX0_needMayOpen yX0_needMayOpen, Cond.initialized RX0, Cond.code yX0_needMayOpen cX0_needMayOpen 2 none, Cond.classLink RX0 155 "java/lang/UnsupportedOperationException", Cond.initialized "java/lang/UnsupportedOperationException", Cond.classLink RX0 160 "java/lang/ArithmeticException", Cond.initialized "java/lang/ArithmeticException", Cond.fieldLink RX0 9 "HarbourBoard" "isNumber" "[Z", Cond.methodLink RX0 102 yX0_latestPlace, Cond.instanceMethod yX0_latestPlace, Cond.selects RX0 yX0_latestPlace yX0_latestPlace, Cond.code yX0_latestPlace cX0_latestPlace 4 (some .int), Cond.fieldLink RX0 17 "HarbourBoard" "lengths" "[I", Cond.methodLink RX0 37 yX0_stripOf, Cond.static yX0_stripOf, Cond.code yX0_stripOf cX0_stripOf 2 (some .int), Cond.methodLink RX0 95 yX0_stripPlace, Cond.static yX0_stripPlace]
def wsX0_move_r2 : List Cond := [Cond.code yX0_stripPlace cX0_stripPlace 2 (some .int), Cond.methodLink RX0 98 yX0_isRelated, Cond.instanceMethod yX0_isRelated, Cond.selects RX0 yX0_isRelated yX0_isRelated, Cond.code yX0_isRelated cX0_isRelated 8 (some .boolean), Cond.fieldLink RX0 13 "HarbourBoard" "numbers" "[D", Cond.methodLink RX0 66 yX0_markPlace, Cond.static yX0_markPlace, Cond.code yX0_markPlace cX0_markPlace 2 (some .int), Cond.methodLink RX0 135 yX0_needMayShut, Cond.instanceMethod yX0_needMayShut, Cond.selects RX0 yX0_needMayShut yX0_needMayShut, Cond.code yX0_needMayShut cX0_needMayShut 1 none]
def wsX0_move : List Cond := .code yX0_move cX0_move 2 (some .int) :: ((wsX0_move_r1 ++ wsX0_move_r2) ++ wsX00 ++ (vx_atS RX0 131 "java/lang/IllegalStateException" ["java/lang/RuntimeException", "java/lang/Exception"]).filter goodWord ++ (vx_atS RX0 159 "java/lang/UnsupportedOperationException" ["java/lang/RuntimeException", "java/lang/Exception"]).filter goodWord ++ (vx_atS RX0 164 "java/lang/ArithmeticException" ["java/lang/RuntimeException", "java/lang/Exception"]).filter goodWord)
def wsX0_size : List Cond := .code yX0_size cX0_size 3 (some .int) :: ([.fieldLink RX0 17 "HarbourBoard" "lengths" "[I", .methodLink RX0 29 yX0_needGauge, .static yX0_needGauge, .initialized RX0, .code yX0_needGauge cX0_needGauge 1 none, .classLink RX0 59 "java/lang/IllegalArgumentException", .initialized "java/lang/IllegalArgumentException", .methodLink RX0 49 yX0_needWhat, .static yX0_needWhat, .code yX0_needWhat cX0_needWhat 1 none, .methodLink RX0 37 yX0_stripOf, .static yX0_stripOf, .code yX0_stripOf cX0_stripOf 2 (some .int)] ++ wsX00 ++ (vx_atS RX0 63 "java/lang/IllegalArgumentException" ["java/lang/RuntimeException", "java/lang/Exception"]).filter goodWord)
def wsX1_init : List Cond := .code yX1_init cX1_init 1 none :: ([.methodLink RX1 1 objectInit, .instanceMethod objectInit, .code objectInit ⟨#[0xb1]⟩ 1 none, .arrayClass .double, .fieldLink RX1 7 "HarbourBoardModel" "value" "[D", .arrayClass .boolean, .fieldLink RX1 13 "HarbourBoardModel" "isOut" "[Z", .arrayClass .int, .fieldLink RX1 17 "HarbourBoardModel" "sizes" "[I", .fieldLink RX1 21 "HarbourBoardModel" "markValue" "[D", .fieldLink RX1 24 "HarbourBoardModel" "isSet" "[Z", .fieldLink RX1 27 "HarbourBoardModel" "probeValue" "[D", .fieldLink RX1 30 "HarbourBoardModel" "isProbed" "[Z"] ++ wsX10)
def wsX1_thrown : List Cond := .code yX1_thrown cX1_thrown 1 (some .int) :: ([.fieldLink RX1 33 "HarbourBoardModel" "thrown" "I"] ++ wsX10)
def wsX1_throwing : List Cond := .code yX1_throwing cX1_throwing 4 (some .boolean) :: ([.fieldLink RX1 33 "HarbourBoardModel" "thrown" "I"] ++ wsX10)
def wsX1_outside : List Cond := .code yX1_outside cX1_outside 2 (some .boolean) :: ([])
def wsX1_isLevel : List Cond := .code yX1_isLevel cX1_isLevel 2 (some .boolean) :: ([.constantDouble RX1 37 (13875379345695965184), .constantDouble RX1 39 (4652007308841189376)])
def wsX1_isWind : List Cond := .code yX1_isWind cX1_isWind 2 (some .boolean) :: ([.constantDouble RX1 41 (4641240890982006784)])
def wsX1_way : List Cond := .code yX1_way cX1_way 5 (some .int) :: ([])
def wsX1_ways : List Cond := .code yX1_ways cX1_ways 1 (some .int) :: ([])
def wsX1_is : List Cond := .code yX1_is cX1_is 2 (some .boolean) :: ([.methodLink RX1 43 yX1_ways, .static yX1_ways, .initialized RX1, .code yX1_ways cX1_ways 1 (some .int)])
def wsX1_latest : List Cond := .code yX1_latest cX1_latest 2 (some .int) :: ([.fieldLink RX1 17 "HarbourBoardModel" "sizes" "[I"] ++ wsX10)
def wsX1_latestOut : List Cond := .code yX1_latestOut cX1_latestOut 2 (some .boolean) :: ([.fieldLink RX1 17 "HarbourBoardModel" "sizes" "[I", .fieldLink RX1 13 "HarbourBoardModel" "isOut" "[Z", .methodLink RX1 47 yX1_latest, .instanceMethod yX1_latest, .selects RX1 yX1_latest yX1_latest, .initialized RX1, .code yX1_latest cX1_latest 2 (some .int)] ++ wsX10)
def wsX1_latestValue : List Cond := .code yX1_latestValue cX1_latestValue 2 (some .double) :: ([.fieldLink RX1 17 "HarbourBoardModel" "sizes" "[I", .fieldLink RX1 7 "HarbourBoardModel" "value" "[D", .methodLink RX1 47 yX1_latest, .instanceMethod yX1_latest, .selects RX1 yX1_latest yX1_latest, .initialized RX1, .code yX1_latest cX1_latest 2 (some .int)] ++ wsX10)
def wsX1_latestWay : List Cond := .code yX1_latestWay cX1_latestWay 3 (some .int) :: ([.methodLink RX1 50 yX1_latestOut, .instanceMethod yX1_latestOut, .selects RX1 yX1_latestOut yX1_latestOut, .initialized RX1, .code yX1_latestOut cX1_latestOut 2 (some .boolean), .fieldLink RX1 17 "HarbourBoardModel" "sizes" "[I", .fieldLink RX1 13 "HarbourBoardModel" "isOut" "[Z", .methodLink RX1 47 yX1_latest, .instanceMethod yX1_latest, .selects RX1 yX1_latest yX1_latest, .code yX1_latest cX1_latest 2 (some .int), .methodLink RX1 54 yX1_latestValue, .instanceMethod yX1_latestValue, .selects RX1 yX1_latestValue yX1_latestValue, .code yX1_latestValue cX1_latestValue 2 (some .double), .fieldLink RX1 7 "HarbourBoardModel" "value" "[D", .methodLink RX1 58 yX1_way, .static yX1_way, .code yX1_way cX1_way 5 (some .int)] ++ wsX10)
def wsX1_probeWay : List Cond := .code yX1_probeWay cX1_probeWay 3 (some .int) :: ([.fieldLink RX1 13 "HarbourBoardModel" "isOut" "[Z", .fieldLink RX1 30 "HarbourBoardModel" "isProbed" "[Z", .fieldLink RX1 7 "HarbourBoardModel" "value" "[D", .fieldLink RX1 27 "HarbourBoardModel" "probeValue" "[D", .methodLink RX1 58 yX1_way, .static yX1_way, .initialized RX1, .code yX1_way cX1_way 5 (some .int)] ++ wsX10)
def wsX1_markWay : List Cond := .code yX1_markWay cX1_markWay 3 (some .int) :: ([.fieldLink RX1 24 "HarbourBoardModel" "isSet" "[Z", .fieldLink RX1 21 "HarbourBoardModel" "markValue" "[D", .methodLink RX1 50 yX1_latestOut, .instanceMethod yX1_latestOut, .selects RX1 yX1_latestOut yX1_latestOut, .initialized RX1, .code yX1_latestOut cX1_latestOut 2 (some .boolean), .fieldLink RX1 17 "HarbourBoardModel" "sizes" "[I", .fieldLink RX1 13 "HarbourBoardModel" "isOut" "[Z", .methodLink RX1 47 yX1_latest, .instanceMethod yX1_latest, .selects RX1 yX1_latest yX1_latest, .code yX1_latest cX1_latest 2 (some .int), .methodLink RX1 54 yX1_latestValue, .instanceMethod yX1_latestValue, .selects RX1 yX1_latestValue yX1_latestValue, .code yX1_latestValue cX1_latestValue 2 (some .double), .fieldLink RX1 7 "HarbourBoardModel" "value" "[D", .methodLink RX1 58 yX1_way, .static yX1_way, .code yX1_way cX1_way 5 (some .int)] ++ wsX10)
def wsX1_comes : List Cond := .code yX1_comes cX1_comes 6 (some .int) :: ([.fieldLink RX1 17 "HarbourBoardModel" "sizes" "[I", .fieldLink RX1 7 "HarbourBoardModel" "value" "[D", .fieldLink RX1 13 "HarbourBoardModel" "isOut" "[Z"] ++ wsX10)
def wsX1_level : List Cond := .code yX1_level cX1_level 5 (some .int) :: ([.fieldLink RX1 17 "HarbourBoardModel" "sizes" "[I", .methodLink RX1 62 yX1_outside, .static yX1_outside, .initialized RX1, .code yX1_outside cX1_outside 2 (some .boolean), .methodLink RX1 66 yX1_isLevel, .static yX1_isLevel, .code yX1_isLevel cX1_isLevel 2 (some .boolean), .constantDouble RX1 37 (13875379345695965184), .constantDouble RX1 39 (4652007308841189376), .methodLink RX1 70 yX1_throwing, .instanceMethod yX1_throwing, .selects RX1 yX1_throwing yX1_throwing, .code yX1_throwing cX1_throwing 4 (some .boolean), .fieldLink RX1 33 "HarbourBoardModel" "thrown" "I", .methodLink RX1 74 yX1_comes, .instanceMethod yX1_comes, .selects RX1 yX1_comes yX1_comes, .code yX1_comes cX1_comes 6 (some .int), .fieldLink RX1 7 "HarbourBoardModel" "value" "[D", .fieldLink RX1 13 "HarbourBoardModel" "isOut" "[Z"] ++ wsX10)
def wsX1_wind : List Cond := .code yX1_wind cX1_wind 4 (some .int) :: ([.fieldLink RX1 17 "HarbourBoardModel" "sizes" "[I", .methodLink RX1 62 yX1_outside, .static yX1_outside, .initialized RX1, .code yX1_outside cX1_outside 2 (some .boolean), .methodLink RX1 78 yX1_isWind, .static yX1_isWind, .code yX1_isWind cX1_isWind 2 (some .boolean), .constantDouble RX1 41 (4641240890982006784), .methodLink RX1 70 yX1_throwing, .instanceMethod yX1_throwing, .selects RX1 yX1_throwing yX1_throwing, .code yX1_throwing cX1_throwing 4 (some .boolean), .fieldLink RX1 33 "HarbourBoardModel" "thrown" "I", .methodLink RX1 74 yX1_comes, .instanceMethod yX1_comes, .selects RX1 yX1_comes yX1_comes, .code yX1_comes cX1_comes 6 (some .int), .fieldLink RX1 7 "HarbourBoardModel" "value" "[D", .fieldLink RX1 13 "HarbourBoardModel" "isOut" "[Z"] ++ wsX10)
def wsX1_out : List Cond := .code yX1_out cX1_out 4 (some .int) :: ([.fieldLink RX1 17 "HarbourBoardModel" "sizes" "[I", .methodLink RX1 62 yX1_outside, .static yX1_outside, .initialized RX1, .code yX1_outside cX1_outside 2 (some .boolean), .methodLink RX1 70 yX1_throwing, .instanceMethod yX1_throwing, .selects RX1 yX1_throwing yX1_throwing, .code yX1_throwing cX1_throwing 4 (some .boolean), .fieldLink RX1 33 "HarbourBoardModel" "thrown" "I", .methodLink RX1 74 yX1_comes, .instanceMethod yX1_comes, .selects RX1 yX1_comes yX1_comes, .code yX1_comes cX1_comes 6 (some .int), .fieldLink RX1 7 "HarbourBoardModel" "value" "[D", .fieldLink RX1 13 "HarbourBoardModel" "isOut" "[Z"] ++ wsX10)
def wsX1_clear : List Cond := .code yX1_clear cX1_clear 3 (some .int) :: ([.fieldLink RX1 17 "HarbourBoardModel" "sizes" "[I", .methodLink RX1 62 yX1_outside, .static yX1_outside, .initialized RX1, .code yX1_outside cX1_outside 2 (some .boolean), .methodLink RX1 70 yX1_throwing, .instanceMethod yX1_throwing, .selects RX1 yX1_throwing yX1_throwing, .code yX1_throwing cX1_throwing 4 (some .boolean), .fieldLink RX1 33 "HarbourBoardModel" "thrown" "I"] ++ wsX10)
def wsX1_marks : List Cond := .code yX1_marks cX1_marks 6 (some .boolean) :: ([.fieldLink RX1 24 "HarbourBoardModel" "isSet" "[Z", .fieldLink RX1 21 "HarbourBoardModel" "markValue" "[D"] ++ wsX10)
def wsX1_mark : List Cond := .code yX1_mark cX1_mark 5 (some .boolean) :: ([.methodLink RX1 62 yX1_outside, .static yX1_outside, .initialized RX1, .code yX1_outside cX1_outside 2 (some .boolean), .methodLink RX1 66 yX1_isLevel, .static yX1_isLevel, .code yX1_isLevel cX1_isLevel 2 (some .boolean), .constantDouble RX1 37 (13875379345695965184), .constantDouble RX1 39 (4652007308841189376), .methodLink RX1 70 yX1_throwing, .instanceMethod yX1_throwing, .selects RX1 yX1_throwing yX1_throwing, .code yX1_throwing cX1_throwing 4 (some .boolean), .fieldLink RX1 33 "HarbourBoardModel" "thrown" "I", .methodLink RX1 81 yX1_marks, .instanceMethod yX1_marks, .selects RX1 yX1_marks yX1_marks, .code yX1_marks cX1_marks 6 (some .boolean), .fieldLink RX1 24 "HarbourBoardModel" "isSet" "[Z", .fieldLink RX1 21 "HarbourBoardModel" "markValue" "[D"] ++ wsX10)
def wsX1_gale : List Cond := .code yX1_gale cX1_gale 3 (some .boolean) :: ([.methodLink RX1 62 yX1_outside, .static yX1_outside, .initialized RX1, .code yX1_outside cX1_outside 2 (some .boolean), .methodLink RX1 78 yX1_isWind, .static yX1_isWind, .code yX1_isWind cX1_isWind 2 (some .boolean), .constantDouble RX1 41 (4641240890982006784), .methodLink RX1 70 yX1_throwing, .instanceMethod yX1_throwing, .selects RX1 yX1_throwing yX1_throwing, .code yX1_throwing cX1_throwing 4 (some .boolean), .fieldLink RX1 33 "HarbourBoardModel" "thrown" "I", .methodLink RX1 81 yX1_marks, .instanceMethod yX1_marks, .selects RX1 yX1_marks yX1_marks, .code yX1_marks cX1_marks 6 (some .boolean), .fieldLink RX1 24 "HarbourBoardModel" "isSet" "[Z", .fieldLink RX1 21 "HarbourBoardModel" "markValue" "[D"] ++ wsX10)
def wsX1_lift : List Cond := .code yX1_lift cX1_lift 3 (some .boolean) :: ([.methodLink RX1 62 yX1_outside, .static yX1_outside, .initialized RX1, .code yX1_outside cX1_outside 2 (some .boolean), .methodLink RX1 70 yX1_throwing, .instanceMethod yX1_throwing, .selects RX1 yX1_throwing yX1_throwing, .code yX1_throwing cX1_throwing 4 (some .boolean), .fieldLink RX1 33 "HarbourBoardModel" "thrown" "I", .methodLink RX1 81 yX1_marks, .instanceMethod yX1_marks, .selects RX1 yX1_marks yX1_marks, .code yX1_marks cX1_marks 6 (some .boolean), .fieldLink RX1 24 "HarbourBoardModel" "isSet" "[Z", .fieldLink RX1 21 "HarbourBoardModel" "markValue" "[D"] ++ wsX10)
def wsX1_probes_r1 : List Cond := [Cond.fieldLink RX1 30 "HarbourBoardModel" "isProbed" "[Z", Cond.fieldLink RX1 27 "HarbourBoardModel" "probeValue" "[D", Cond.methodLink RX1 50 yX1_latestOut, Cond.instanceMethod yX1_latestOut, Cond.selects RX1 yX1_latestOut yX1_latestOut, Cond.initialized RX1, Cond.code yX1_latestOut cX1_latestOut 2 (some .boolean), Cond.fieldLink RX1 17 "HarbourBoardModel" "sizes" "[I", Cond.fieldLink RX1 13 "HarbourBoardModel" "isOut" "[Z", Cond.methodLink RX1 47 yX1_latest, Cond.instanceMethod yX1_latest, Cond.selects RX1 yX1_latest yX1_latest, Cond.code yX1_latest cX1_latest 2 (some .int), Cond.methodLink RX1 54 yX1_latestValue, Cond.instanceMethod yX1_latestValue, Cond.selects RX1 yX1_latestValue yX1_latestValue, Cond.code yX1_latestValue cX1_latestValue 2 (some .double), Cond.fieldLink RX1 7 "HarbourBoardModel" "value" "[D", Cond.methodLink RX1 58 yX1_way, Cond.static yX1_way, Cond.code yX1_way cX1_way 5 (some .int), Cond.methodLink RX1 85 yX1_is, Cond.static yX1_is, Cond.code yX1_is cX1_is 2 (some .boolean)]
def wsX1_probes_r2 : List Cond := [Cond.methodLink RX1 43 yX1_ways, Cond.static yX1_ways, Cond.code yX1_ways cX1_ways 1 (some .int)]
def wsX1_probes : List Cond := .code yX1_probes cX1_probes 9 (some .int) :: ((wsX1_probes_r1 ++ wsX1_probes_r2) ++ wsX10)
def wsX1_probe_r1 : List Cond := [Cond.methodLink RX1 66 yX1_isLevel, Cond.static yX1_isLevel, Cond.initialized RX1, Cond.code yX1_isLevel cX1_isLevel 2 (some .boolean), Cond.constantDouble RX1 37 (13875379345695965184), Cond.constantDouble RX1 39 (4652007308841189376), Cond.methodLink RX1 70 yX1_throwing, Cond.instanceMethod yX1_throwing, Cond.selects RX1 yX1_throwing yX1_throwing, Cond.code yX1_throwing cX1_throwing 4 (some .boolean), Cond.fieldLink RX1 33 "HarbourBoardModel" "thrown" "I", Cond.methodLink RX1 88 yX1_probes, Cond.instanceMethod yX1_probes, Cond.selects RX1 yX1_probes yX1_probes, Cond.code yX1_probes cX1_probes 9 (some .int), Cond.fieldLink RX1 30 "HarbourBoardModel" "isProbed" "[Z", Cond.fieldLink RX1 27 "HarbourBoardModel" "probeValue" "[D", Cond.methodLink RX1 50 yX1_latestOut, Cond.instanceMethod yX1_latestOut, Cond.selects RX1 yX1_latestOut yX1_latestOut, Cond.code yX1_latestOut cX1_latestOut 2 (some .boolean), Cond.fieldLink RX1 17 "HarbourBoardModel" "sizes" "[I", Cond.fieldLink RX1 13 "HarbourBoardModel" "isOut" "[Z", Cond.methodLink RX1 47 yX1_latest]
def wsX1_probe_r2 : List Cond := [Cond.instanceMethod yX1_latest, Cond.selects RX1 yX1_latest yX1_latest, Cond.code yX1_latest cX1_latest 2 (some .int), Cond.methodLink RX1 54 yX1_latestValue, Cond.instanceMethod yX1_latestValue, Cond.selects RX1 yX1_latestValue yX1_latestValue, Cond.code yX1_latestValue cX1_latestValue 2 (some .double), Cond.fieldLink RX1 7 "HarbourBoardModel" "value" "[D", Cond.methodLink RX1 58 yX1_way, Cond.static yX1_way, Cond.code yX1_way cX1_way 5 (some .int), Cond.methodLink RX1 85 yX1_is, Cond.static yX1_is, Cond.code yX1_is cX1_is 2 (some .boolean), Cond.methodLink RX1 43 yX1_ways, Cond.static yX1_ways, Cond.code yX1_ways cX1_ways 1 (some .int)]
def wsX1_probe : List Cond := .code yX1_probe cX1_probe 3 (some .int) :: ((wsX1_probe_r1 ++ wsX1_probe_r2) ++ wsX10)
def wsX1_probeWind_r1 : List Cond := [Cond.methodLink RX1 78 yX1_isWind, Cond.static yX1_isWind, Cond.initialized RX1, Cond.code yX1_isWind cX1_isWind 2 (some .boolean), Cond.constantDouble RX1 41 (4641240890982006784), Cond.methodLink RX1 70 yX1_throwing, Cond.instanceMethod yX1_throwing, Cond.selects RX1 yX1_throwing yX1_throwing, Cond.code yX1_throwing cX1_throwing 4 (some .boolean), Cond.fieldLink RX1 33 "HarbourBoardModel" "thrown" "I", Cond.methodLink RX1 88 yX1_probes, Cond.instanceMethod yX1_probes, Cond.selects RX1 yX1_probes yX1_probes, Cond.code yX1_probes cX1_probes 9 (some .int), Cond.fieldLink RX1 30 "HarbourBoardModel" "isProbed" "[Z", Cond.fieldLink RX1 27 "HarbourBoardModel" "probeValue" "[D", Cond.methodLink RX1 50 yX1_latestOut, Cond.instanceMethod yX1_latestOut, Cond.selects RX1 yX1_latestOut yX1_latestOut, Cond.code yX1_latestOut cX1_latestOut 2 (some .boolean), Cond.fieldLink RX1 17 "HarbourBoardModel" "sizes" "[I", Cond.fieldLink RX1 13 "HarbourBoardModel" "isOut" "[Z", Cond.methodLink RX1 47 yX1_latest, Cond.instanceMethod yX1_latest]
def wsX1_probeWind_r2 : List Cond := [Cond.selects RX1 yX1_latest yX1_latest, Cond.code yX1_latest cX1_latest 2 (some .int), Cond.methodLink RX1 54 yX1_latestValue, Cond.instanceMethod yX1_latestValue, Cond.selects RX1 yX1_latestValue yX1_latestValue, Cond.code yX1_latestValue cX1_latestValue 2 (some .double), Cond.fieldLink RX1 7 "HarbourBoardModel" "value" "[D", Cond.methodLink RX1 58 yX1_way, Cond.static yX1_way, Cond.code yX1_way cX1_way 5 (some .int), Cond.methodLink RX1 85 yX1_is, Cond.static yX1_is, Cond.code yX1_is cX1_is 2 (some .boolean), Cond.methodLink RX1 43 yX1_ways, Cond.static yX1_ways, Cond.code yX1_ways cX1_ways 1 (some .int)]
def wsX1_probeWind : List Cond := .code yX1_probeWind cX1_probeWind 2 (some .int) :: ((wsX1_probeWind_r1 ++ wsX1_probeWind_r2) ++ wsX10)
def wsX1_probeOut_r1 : List Cond := [Cond.methodLink RX1 62 yX1_outside, Cond.static yX1_outside, Cond.initialized RX1, Cond.code yX1_outside cX1_outside 2 (some .boolean), Cond.methodLink RX1 70 yX1_throwing, Cond.instanceMethod yX1_throwing, Cond.selects RX1 yX1_throwing yX1_throwing, Cond.code yX1_throwing cX1_throwing 4 (some .boolean), Cond.fieldLink RX1 33 "HarbourBoardModel" "thrown" "I", Cond.methodLink RX1 88 yX1_probes, Cond.instanceMethod yX1_probes, Cond.selects RX1 yX1_probes yX1_probes, Cond.code yX1_probes cX1_probes 9 (some .int), Cond.fieldLink RX1 30 "HarbourBoardModel" "isProbed" "[Z", Cond.fieldLink RX1 27 "HarbourBoardModel" "probeValue" "[D", Cond.methodLink RX1 50 yX1_latestOut, Cond.instanceMethod yX1_latestOut, Cond.selects RX1 yX1_latestOut yX1_latestOut, Cond.code yX1_latestOut cX1_latestOut 2 (some .boolean), Cond.fieldLink RX1 17 "HarbourBoardModel" "sizes" "[I", Cond.fieldLink RX1 13 "HarbourBoardModel" "isOut" "[Z", Cond.methodLink RX1 47 yX1_latest, Cond.instanceMethod yX1_latest, Cond.selects RX1 yX1_latest yX1_latest]
def wsX1_probeOut_r2 : List Cond := [Cond.code yX1_latest cX1_latest 2 (some .int), Cond.methodLink RX1 54 yX1_latestValue, Cond.instanceMethod yX1_latestValue, Cond.selects RX1 yX1_latestValue yX1_latestValue, Cond.code yX1_latestValue cX1_latestValue 2 (some .double), Cond.fieldLink RX1 7 "HarbourBoardModel" "value" "[D", Cond.methodLink RX1 58 yX1_way, Cond.static yX1_way, Cond.code yX1_way cX1_way 5 (some .int), Cond.methodLink RX1 85 yX1_is, Cond.static yX1_is, Cond.code yX1_is cX1_is 2 (some .boolean), Cond.methodLink RX1 43 yX1_ways, Cond.static yX1_ways, Cond.code yX1_ways cX1_ways 1 (some .int)]
def wsX1_probeOut : List Cond := .code yX1_probeOut cX1_probeOut 2 (some .int) :: ((wsX1_probeOut_r1 ++ wsX1_probeOut_r2) ++ wsX10)
def wsX1_run_r1 : List Cond := [Cond.fieldLink RX1 17 "HarbourBoardModel" "sizes" "[I", Cond.methodLink RX1 62 yX1_outside, Cond.static yX1_outside, Cond.initialized RX1, Cond.code yX1_outside cX1_outside 2 (some .boolean), Cond.methodLink RX1 70 yX1_throwing, Cond.instanceMethod yX1_throwing, Cond.selects RX1 yX1_throwing yX1_throwing, Cond.code yX1_throwing cX1_throwing 4 (some .boolean), Cond.fieldLink RX1 33 "HarbourBoardModel" "thrown" "I", Cond.methodLink RX1 92 yX1_probeWay, Cond.instanceMethod yX1_probeWay, Cond.selects RX1 yX1_probeWay yX1_probeWay, Cond.code yX1_probeWay cX1_probeWay 3 (some .int), Cond.fieldLink RX1 13 "HarbourBoardModel" "isOut" "[Z", Cond.fieldLink RX1 30 "HarbourBoardModel" "isProbed" "[Z", Cond.fieldLink RX1 7 "HarbourBoardModel" "value" "[D", Cond.fieldLink RX1 27 "HarbourBoardModel" "probeValue" "[D", Cond.methodLink RX1 58 yX1_way, Cond.static yX1_way, Cond.code yX1_way cX1_way 5 (some .int), Cond.methodLink RX1 85 yX1_is, Cond.static yX1_is, Cond.code yX1_is cX1_is 2 (some .boolean)]
def wsX1_run_r2 : List Cond := [Cond.methodLink RX1 43 yX1_ways, Cond.static yX1_ways, Cond.code yX1_ways cX1_ways 1 (some .int)]
def wsX1_run : List Cond := .code yX1_run cX1_run 10 (some .int) :: ((wsX1_run_r1 ++ wsX1_run_r2) ++ wsX10)
def wsX1_count_r1 : List Cond := [Cond.fieldLink RX1 17 "HarbourBoardModel" "sizes" "[I", Cond.methodLink RX1 62 yX1_outside, Cond.static yX1_outside, Cond.initialized RX1, Cond.code yX1_outside cX1_outside 2 (some .boolean), Cond.methodLink RX1 70 yX1_throwing, Cond.instanceMethod yX1_throwing, Cond.selects RX1 yX1_throwing yX1_throwing, Cond.code yX1_throwing cX1_throwing 4 (some .boolean), Cond.fieldLink RX1 33 "HarbourBoardModel" "thrown" "I", Cond.methodLink RX1 92 yX1_probeWay, Cond.instanceMethod yX1_probeWay, Cond.selects RX1 yX1_probeWay yX1_probeWay, Cond.code yX1_probeWay cX1_probeWay 3 (some .int), Cond.fieldLink RX1 13 "HarbourBoardModel" "isOut" "[Z", Cond.fieldLink RX1 30 "HarbourBoardModel" "isProbed" "[Z", Cond.fieldLink RX1 7 "HarbourBoardModel" "value" "[D", Cond.fieldLink RX1 27 "HarbourBoardModel" "probeValue" "[D", Cond.methodLink RX1 58 yX1_way, Cond.static yX1_way, Cond.code yX1_way cX1_way 5 (some .int), Cond.methodLink RX1 85 yX1_is, Cond.static yX1_is, Cond.code yX1_is cX1_is 2 (some .boolean)]
def wsX1_count_r2 : List Cond := [Cond.methodLink RX1 43 yX1_ways, Cond.static yX1_ways, Cond.code yX1_ways cX1_ways 1 (some .int)]
def wsX1_count : List Cond := .code yX1_count cX1_count 8 (some .int) :: ((wsX1_count_r1 ++ wsX1_count_r2) ++ wsX10)
def wsX1_holds_r1 : List Cond := [Cond.methodLink RX1 62 yX1_outside, Cond.static yX1_outside, Cond.initialized RX1, Cond.code yX1_outside cX1_outside 2 (some .boolean), Cond.methodLink RX1 70 yX1_throwing, Cond.instanceMethod yX1_throwing, Cond.selects RX1 yX1_throwing yX1_throwing, Cond.code yX1_throwing cX1_throwing 4 (some .boolean), Cond.fieldLink RX1 33 "HarbourBoardModel" "thrown" "I", Cond.methodLink RX1 96 yX1_latestWay, Cond.instanceMethod yX1_latestWay, Cond.selects RX1 yX1_latestWay yX1_latestWay, Cond.code yX1_latestWay cX1_latestWay 3 (some .int), Cond.methodLink RX1 50 yX1_latestOut, Cond.instanceMethod yX1_latestOut, Cond.selects RX1 yX1_latestOut yX1_latestOut, Cond.code yX1_latestOut cX1_latestOut 2 (some .boolean), Cond.fieldLink RX1 17 "HarbourBoardModel" "sizes" "[I", Cond.fieldLink RX1 13 "HarbourBoardModel" "isOut" "[Z", Cond.methodLink RX1 47 yX1_latest, Cond.instanceMethod yX1_latest, Cond.selects RX1 yX1_latest yX1_latest, Cond.code yX1_latest cX1_latest 2 (some .int), Cond.methodLink RX1 54 yX1_latestValue]
def wsX1_holds_r2 : List Cond := [Cond.instanceMethod yX1_latestValue, Cond.selects RX1 yX1_latestValue yX1_latestValue, Cond.code yX1_latestValue cX1_latestValue 2 (some .double), Cond.fieldLink RX1 7 "HarbourBoardModel" "value" "[D", Cond.methodLink RX1 58 yX1_way, Cond.static yX1_way, Cond.code yX1_way cX1_way 5 (some .int), Cond.methodLink RX1 85 yX1_is, Cond.static yX1_is, Cond.code yX1_is cX1_is 2 (some .boolean), Cond.methodLink RX1 43 yX1_ways, Cond.static yX1_ways, Cond.code yX1_ways cX1_ways 1 (some .int)]
def wsX1_holds : List Cond := .code yX1_holds cX1_holds 5 (some .boolean) :: ((wsX1_holds_r1 ++ wsX1_holds_r2) ++ wsX10)
def wsX1_pick_r1 : List Cond := [Cond.methodLink RX1 62 yX1_outside, Cond.static yX1_outside, Cond.initialized RX1, Cond.code yX1_outside cX1_outside 2 (some .boolean), Cond.methodLink RX1 70 yX1_throwing, Cond.instanceMethod yX1_throwing, Cond.selects RX1 yX1_throwing yX1_throwing, Cond.code yX1_throwing cX1_throwing 4 (some .boolean), Cond.fieldLink RX1 33 "HarbourBoardModel" "thrown" "I", Cond.methodLink RX1 96 yX1_latestWay, Cond.instanceMethod yX1_latestWay, Cond.selects RX1 yX1_latestWay yX1_latestWay, Cond.code yX1_latestWay cX1_latestWay 3 (some .int), Cond.methodLink RX1 50 yX1_latestOut, Cond.instanceMethod yX1_latestOut, Cond.selects RX1 yX1_latestOut yX1_latestOut, Cond.code yX1_latestOut cX1_latestOut 2 (some .boolean), Cond.fieldLink RX1 17 "HarbourBoardModel" "sizes" "[I", Cond.fieldLink RX1 13 "HarbourBoardModel" "isOut" "[Z", Cond.methodLink RX1 47 yX1_latest, Cond.instanceMethod yX1_latest, Cond.selects RX1 yX1_latest yX1_latest, Cond.code yX1_latest cX1_latest 2 (some .int), Cond.methodLink RX1 54 yX1_latestValue]
def wsX1_pick_r2 : List Cond := [Cond.instanceMethod yX1_latestValue, Cond.selects RX1 yX1_latestValue yX1_latestValue, Cond.code yX1_latestValue cX1_latestValue 2 (some .double), Cond.fieldLink RX1 7 "HarbourBoardModel" "value" "[D", Cond.methodLink RX1 58 yX1_way, Cond.static yX1_way, Cond.code yX1_way cX1_way 5 (some .int), Cond.methodLink RX1 85 yX1_is, Cond.static yX1_is, Cond.code yX1_is cX1_is 2 (some .boolean), Cond.methodLink RX1 43 yX1_ways, Cond.static yX1_ways, Cond.code yX1_ways cX1_ways 1 (some .int)]
def wsX1_pick : List Cond := .code yX1_pick cX1_pick 7 (some .int) :: ((wsX1_pick_r1 ++ wsX1_pick_r2) ++ wsX10)
def wsX1_levelStand_r1 : List Cond := [Cond.fieldLink RX1 17 "HarbourBoardModel" "sizes" "[I", Cond.fieldLink RX1 24 "HarbourBoardModel" "isSet" "[Z", Cond.methodLink RX1 99 yX1_markWay, Cond.instanceMethod yX1_markWay, Cond.selects RX1 yX1_markWay yX1_markWay, Cond.initialized RX1, Cond.code yX1_markWay cX1_markWay 3 (some .int), Cond.fieldLink RX1 21 "HarbourBoardModel" "markValue" "[D", Cond.methodLink RX1 50 yX1_latestOut, Cond.instanceMethod yX1_latestOut, Cond.selects RX1 yX1_latestOut yX1_latestOut, Cond.code yX1_latestOut cX1_latestOut 2 (some .boolean), Cond.fieldLink RX1 13 "HarbourBoardModel" "isOut" "[Z", Cond.methodLink RX1 47 yX1_latest, Cond.instanceMethod yX1_latest, Cond.selects RX1 yX1_latest yX1_latest, Cond.code yX1_latest cX1_latest 2 (some .int), Cond.methodLink RX1 54 yX1_latestValue, Cond.instanceMethod yX1_latestValue, Cond.selects RX1 yX1_latestValue yX1_latestValue, Cond.code yX1_latestValue cX1_latestValue 2 (some .double), Cond.fieldLink RX1 7 "HarbourBoardModel" "value" "[D", Cond.methodLink RX1 58 yX1_way, Cond.static yX1_way]
def wsX1_levelStand_r2 : List Cond := [Cond.code yX1_way cX1_way 5 (some .int)]
def wsX1_levelStand : List Cond := .code yX1_levelStand cX1_levelStand 4 (some .int) :: ((wsX1_levelStand_r1 ++ wsX1_levelStand_r2) ++ wsX10)
def wsX1_stand_r1 : List Cond := [Cond.fieldLink RX1 24 "HarbourBoardModel" "isSet" "[Z", Cond.methodLink RX1 62 yX1_outside, Cond.static yX1_outside, Cond.initialized RX1, Cond.code yX1_outside cX1_outside 2 (some .boolean), Cond.methodLink RX1 70 yX1_throwing, Cond.instanceMethod yX1_throwing, Cond.selects RX1 yX1_throwing yX1_throwing, Cond.code yX1_throwing cX1_throwing 4 (some .boolean), Cond.fieldLink RX1 33 "HarbourBoardModel" "thrown" "I", Cond.methodLink RX1 99 yX1_markWay, Cond.instanceMethod yX1_markWay, Cond.selects RX1 yX1_markWay yX1_markWay, Cond.code yX1_markWay cX1_markWay 3 (some .int), Cond.fieldLink RX1 21 "HarbourBoardModel" "markValue" "[D", Cond.methodLink RX1 50 yX1_latestOut, Cond.instanceMethod yX1_latestOut, Cond.selects RX1 yX1_latestOut yX1_latestOut, Cond.code yX1_latestOut cX1_latestOut 2 (some .boolean), Cond.fieldLink RX1 17 "HarbourBoardModel" "sizes" "[I", Cond.fieldLink RX1 13 "HarbourBoardModel" "isOut" "[Z", Cond.methodLink RX1 47 yX1_latest, Cond.instanceMethod yX1_latest, Cond.selects RX1 yX1_latest yX1_latest]
def wsX1_stand_r2 : List Cond := [Cond.code yX1_latest cX1_latest 2 (some .int), Cond.methodLink RX1 54 yX1_latestValue, Cond.instanceMethod yX1_latestValue, Cond.selects RX1 yX1_latestValue yX1_latestValue, Cond.code yX1_latestValue cX1_latestValue 2 (some .double), Cond.fieldLink RX1 7 "HarbourBoardModel" "value" "[D", Cond.methodLink RX1 58 yX1_way, Cond.static yX1_way, Cond.code yX1_way cX1_way 5 (some .int), Cond.methodLink RX1 102 yX1_levelStand, Cond.instanceMethod yX1_levelStand, Cond.selects RX1 yX1_levelStand yX1_levelStand, Cond.code yX1_levelStand cX1_levelStand 4 (some .int)]
def wsX1_stand : List Cond := .code yX1_stand cX1_stand 4 (some .int) :: ((wsX1_stand_r1 ++ wsX1_stand_r2) ++ wsX10)
def wsX1_isAhead : List Cond := .code yX1_isAhead cX1_isAhead 6 (some .boolean) :: ([.methodLink RX1 50 yX1_latestOut, .instanceMethod yX1_latestOut, .selects RX1 yX1_latestOut yX1_latestOut, .initialized RX1, .code yX1_latestOut cX1_latestOut 2 (some .boolean), .fieldLink RX1 17 "HarbourBoardModel" "sizes" "[I", .fieldLink RX1 13 "HarbourBoardModel" "isOut" "[Z", .methodLink RX1 47 yX1_latest, .instanceMethod yX1_latest, .selects RX1 yX1_latest yX1_latest, .code yX1_latest cX1_latest 2 (some .int), .methodLink RX1 96 yX1_latestWay, .instanceMethod yX1_latestWay, .selects RX1 yX1_latestWay yX1_latestWay, .code yX1_latestWay cX1_latestWay 3 (some .int), .methodLink RX1 54 yX1_latestValue, .instanceMethod yX1_latestValue, .selects RX1 yX1_latestValue yX1_latestValue, .code yX1_latestValue cX1_latestValue 2 (some .double), .fieldLink RX1 7 "HarbourBoardModel" "value" "[D", .methodLink RX1 58 yX1_way, .static yX1_way, .code yX1_way cX1_way 5 (some .int)] ++ wsX10)
def wsX1_order_r1 : List Cond := [Cond.methodLink RX1 62 yX1_outside, Cond.static yX1_outside, Cond.initialized RX1, Cond.code yX1_outside cX1_outside 2 (some .boolean), Cond.methodLink RX1 70 yX1_throwing, Cond.instanceMethod yX1_throwing, Cond.selects RX1 yX1_throwing yX1_throwing, Cond.code yX1_throwing cX1_throwing 4 (some .boolean), Cond.fieldLink RX1 33 "HarbourBoardModel" "thrown" "I", Cond.methodLink RX1 105 yX1_isAhead, Cond.instanceMethod yX1_isAhead, Cond.selects RX1 yX1_isAhead yX1_isAhead, Cond.code yX1_isAhead cX1_isAhead 6 (some .boolean), Cond.methodLink RX1 50 yX1_latestOut, Cond.instanceMethod yX1_latestOut, Cond.selects RX1 yX1_latestOut yX1_latestOut, Cond.code yX1_latestOut cX1_latestOut 2 (some .boolean), Cond.fieldLink RX1 17 "HarbourBoardModel" "sizes" "[I", Cond.fieldLink RX1 13 "HarbourBoardModel" "isOut" "[Z", Cond.methodLink RX1 47 yX1_latest, Cond.instanceMethod yX1_latest, Cond.selects RX1 yX1_latest yX1_latest, Cond.code yX1_latest cX1_latest 2 (some .int), Cond.methodLink RX1 96 yX1_latestWay]
def wsX1_order_r2 : List Cond := [Cond.instanceMethod yX1_latestWay, Cond.selects RX1 yX1_latestWay yX1_latestWay, Cond.code yX1_latestWay cX1_latestWay 3 (some .int), Cond.methodLink RX1 54 yX1_latestValue, Cond.instanceMethod yX1_latestValue, Cond.selects RX1 yX1_latestValue yX1_latestValue, Cond.code yX1_latestValue cX1_latestValue 2 (some .double), Cond.fieldLink RX1 7 "HarbourBoardModel" "value" "[D", Cond.methodLink RX1 58 yX1_way, Cond.static yX1_way, Cond.code yX1_way cX1_way 5 (some .int)]
def wsX1_order : List Cond := .code yX1_order cX1_order 6 (some .int) :: ((wsX1_order_r1 ++ wsX1_order_r2) ++ wsX10)
def wsX1_best : List Cond := .code yX1_best cX1_best 6 (some .int) :: ([.fieldLink RX1 17 "HarbourBoardModel" "sizes" "[I", .fieldLink RX1 13 "HarbourBoardModel" "isOut" "[Z", .fieldLink RX1 7 "HarbourBoardModel" "value" "[D", .methodLink RX1 58 yX1_way, .static yX1_way, .initialized RX1, .code yX1_way cX1_way 5 (some .int)] ++ wsX10)
def wsX1_highest : List Cond := .code yX1_highest cX1_highest 4 (some .double) :: ([.fieldLink RX1 7 "HarbourBoardModel" "value" "[D", .methodLink RX1 62 yX1_outside, .static yX1_outside, .initialized RX1, .code yX1_outside cX1_outside 2 (some .boolean), .methodLink RX1 108 yX1_best, .instanceMethod yX1_best, .selects RX1 yX1_best yX1_best, .code yX1_best cX1_best 6 (some .int), .fieldLink RX1 17 "HarbourBoardModel" "sizes" "[I", .fieldLink RX1 13 "HarbourBoardModel" "isOut" "[Z", .methodLink RX1 58 yX1_way, .static yX1_way, .code yX1_way cX1_way 5 (some .int), .methodLink RX1 70 yX1_throwing, .instanceMethod yX1_throwing, .selects RX1 yX1_throwing yX1_throwing, .code yX1_throwing cX1_throwing 4 (some .boolean), .fieldLink RX1 33 "HarbourBoardModel" "thrown" "I"] ++ wsX10)
def wsX1_calmest : List Cond := .code yX1_calmest cX1_calmest 4 (some .float) :: ([.fieldLink RX1 7 "HarbourBoardModel" "value" "[D", .methodLink RX1 62 yX1_outside, .static yX1_outside, .initialized RX1, .code yX1_outside cX1_outside 2 (some .boolean), .methodLink RX1 108 yX1_best, .instanceMethod yX1_best, .selects RX1 yX1_best yX1_best, .code yX1_best cX1_best 6 (some .int), .fieldLink RX1 17 "HarbourBoardModel" "sizes" "[I", .fieldLink RX1 13 "HarbourBoardModel" "isOut" "[Z", .methodLink RX1 58 yX1_way, .static yX1_way, .code yX1_way cX1_way 5 (some .int), .methodLink RX1 70 yX1_throwing, .instanceMethod yX1_throwing, .selects RX1 yX1_throwing yX1_throwing, .code yX1_throwing cX1_throwing 4 (some .boolean), .fieldLink RX1 33 "HarbourBoardModel" "thrown" "I"] ++ wsX10)
def wsX1_same : List Cond := .code yX1_same cX1_same 9 (some .int) :: ([.fieldLink RX1 17 "HarbourBoardModel" "sizes" "[I", .fieldLink RX1 13 "HarbourBoardModel" "isOut" "[Z", .fieldLink RX1 7 "HarbourBoardModel" "value" "[D", .methodLink RX1 62 yX1_outside, .static yX1_outside, .initialized RX1, .code yX1_outside cX1_outside 2 (some .boolean), .methodLink RX1 70 yX1_throwing, .instanceMethod yX1_throwing, .selects RX1 yX1_throwing yX1_throwing, .code yX1_throwing cX1_throwing 4 (some .boolean), .fieldLink RX1 33 "HarbourBoardModel" "thrown" "I", .methodLink RX1 58 yX1_way, .static yX1_way, .code yX1_way cX1_way 5 (some .int)] ++ wsX10)
def wsX1_move_r1 : List Cond := [Cond.fieldLink RX1 111 "HarbourBoardModel" "isOpen" "Z", Cond.fieldLink RX1 24 "HarbourBoardModel" "isSet" "[Z", Cond.fieldLink RX1 21 "HarbourBoardModel" "markValue" "[D", Cond.fieldLink RX1 115 "HarbourBoardModel" "moves" "I", Cond.methodLink RX1 96 yX1_latestWay, Cond.instanceMethod yX1_latestWay, Cond.selects RX1 yX1_latestWay yX1_latestWay, Cond.initialized RX1, Cond.code yX1_latestWay cX1_latestWay 3 (some .int), Cond.methodLink RX1 50 yX1_latestOut, Cond.instanceMethod yX1_latestOut, Cond.selects RX1 yX1_latestOut yX1_latestOut, Cond.code yX1_latestOut cX1_latestOut 2 (some .boolean), Cond.fieldLink RX1 17 "HarbourBoardModel" "sizes" "[I", Cond.fieldLink RX1 13 "HarbourBoardModel" "isOut" "[Z", Cond.methodLink RX1 47 yX1_latest, Cond.instanceMethod yX1_latest, Cond.selects RX1 yX1_latest yX1_latest, Cond.code yX1_latest cX1_latest 2 (some .int), Cond.methodLink RX1 54 yX1_latestValue, Cond.instanceMethod yX1_latestValue, Cond.selects RX1 yX1_latestValue yX1_latestValue, Cond.code yX1_latestValue cX1_latestValue 2 (some .double), Cond.fieldLink RX1 7 "HarbourBoardModel" "value" "[D"]
def wsX1_move_r2 : List Cond := [Cond.methodLink RX1 58 yX1_way, Cond.static yX1_way, Cond.code yX1_way cX1_way 5 (some .int), Cond.methodLink RX1 99 yX1_markWay, Cond.instanceMethod yX1_markWay, Cond.selects RX1 yX1_markWay yX1_markWay, Cond.code yX1_markWay cX1_markWay 3 (some .int), Cond.methodLink RX1 70 yX1_throwing, Cond.instanceMethod yX1_throwing, Cond.selects RX1 yX1_throwing yX1_throwing, Cond.code yX1_throwing cX1_throwing 4 (some .boolean), Cond.fieldLink RX1 33 "HarbourBoardModel" "thrown" "I"]
def wsX1_move : List Cond := .code yX1_move cX1_move 9 (some .int) :: ((wsX1_move_r1 ++ wsX1_move_r2) ++ wsX10)
def wsX1_size : List Cond := .code yX1_size cX1_size 3 (some .int) :: ([.fieldLink RX1 17 "HarbourBoardModel" "sizes" "[I", .methodLink RX1 62 yX1_outside, .static yX1_outside, .initialized RX1, .code yX1_outside cX1_outside 2 (some .boolean), .methodLink RX1 70 yX1_throwing, .instanceMethod yX1_throwing, .selects RX1 yX1_throwing yX1_throwing, .code yX1_throwing cX1_throwing 4 (some .boolean), .fieldLink RX1 33 "HarbourBoardModel" "thrown" "I"] ++ wsX10)
def wsJ9_min_7cf53 : List Cond := .code yJ9_min_7cf53 cJ9_min_7cf53 2 (some .int) :: ([])
def wsL_level_r1 : List Cond := [Cond.classLink RL 13 "java/lang/IllegalArgumentException", Cond.classLink RL 15 "java/lang/IllegalStateException", Cond.methodLink RL 7 yX0_level, Cond.instanceMethod yX0_level, Cond.selects RX0 yX0_level yX0_level, Cond.initialized RX0, Cond.code yX0_level cX0_level 4 (some .int), Cond.methodLink RX0 29 yX0_needGauge, Cond.static yX0_needGauge, Cond.code yX0_needGauge cX0_needGauge 1 none, Cond.classLink RX0 59 "java/lang/IllegalArgumentException", Cond.initialized "java/lang/IllegalArgumentException", Cond.methodLink RX0 33 yX0_needLevel, Cond.static yX0_needLevel, Cond.code yX0_needLevel cX0_needLevel 2 none, Cond.constantDouble RX0 144 (13875379345695965184), Cond.constantDouble RX0 146 (4652007308841189376), Cond.methodLink RX0 37 yX0_stripOf, Cond.static yX0_stripOf, Cond.code yX0_stripOf cX0_stripOf 2 (some .int), Cond.methodLink RX0 41 yX0_appendNumber, Cond.instanceMethod yX0_appendNumber, Cond.selects RX0 yX0_appendNumber yX0_appendNumber, Cond.code yX0_appendNumber cX0_appendNumber 4 (some .int)]
def wsL_level_r2 : List Cond := [Cond.fieldLink RX0 17 "HarbourBoard" "lengths" "[I", Cond.methodLink RX0 169 yX0_needRoom, Cond.instanceMethod yX0_needRoom, Cond.selects RX0 yX0_needRoom yX0_needRoom, Cond.code yX0_needRoom cX0_needRoom 2 none, Cond.classLink RX0 127 "java/lang/IllegalStateException", Cond.initialized "java/lang/IllegalStateException", Cond.methodLink RX0 95 yX0_stripPlace, Cond.static yX0_stripPlace, Cond.code yX0_stripPlace cX0_stripPlace 2 (some .int), Cond.methodLink RX0 69 yX0_putNumber, Cond.instanceMethod yX0_putNumber, Cond.selects RX0 yX0_putNumber yX0_putNumber, Cond.code yX0_putNumber cX0_putNumber 5 (some .boolean), Cond.fieldLink RX0 9 "HarbourBoard" "isNumber" "[Z", Cond.fieldLink RX0 13 "HarbourBoard" "numbers" "[D"]
def wsL_level : List Cond := .codeWith yL_level cL_level 6 (some .int) [(0, 11, 14, 13), (0, 11, 18, 15)] :: ((wsL_level_r1 ++ wsL_level_r2) ++ wsX00 ++ (vx_atS RX0 63 "java/lang/IllegalArgumentException" ["java/lang/RuntimeException", "java/lang/Exception"]).filter goodWord ++ (vx_atS RX0 131 "java/lang/IllegalStateException" ["java/lang/RuntimeException", "java/lang/Exception"]).filter goodWord)
def wsL_wind_r1 : List Cond := [Cond.classLink RL 13 "java/lang/IllegalArgumentException", Cond.classLink RL 15 "java/lang/IllegalStateException", Cond.methodLink RL 17 yX0_wind, Cond.instanceMethod yX0_wind, Cond.selects RX0 yX0_wind yX0_wind, Cond.initialized RX0, Cond.code yX0_wind cX0_wind 3 (some .int), Cond.methodLink RX0 29 yX0_needGauge, Cond.static yX0_needGauge, Cond.code yX0_needGauge cX0_needGauge 1 none, Cond.classLink RX0 59 "java/lang/IllegalArgumentException", Cond.initialized "java/lang/IllegalArgumentException", Cond.methodLink RX0 45 yX0_needWind, Cond.static yX0_needWind, Cond.code yX0_needWind cX0_needWind 1 none, Cond.constantFloat RX0 150 (1128792064), Cond.methodLink RX0 37 yX0_stripOf, Cond.static yX0_stripOf, Cond.code yX0_stripOf cX0_stripOf 2 (some .int), Cond.methodLink RX0 41 yX0_appendNumber, Cond.instanceMethod yX0_appendNumber, Cond.selects RX0 yX0_appendNumber yX0_appendNumber, Cond.code yX0_appendNumber cX0_appendNumber 4 (some .int), Cond.fieldLink RX0 17 "HarbourBoard" "lengths" "[I"]
def wsL_wind_r2 : List Cond := [Cond.methodLink RX0 169 yX0_needRoom, Cond.instanceMethod yX0_needRoom, Cond.selects RX0 yX0_needRoom yX0_needRoom, Cond.code yX0_needRoom cX0_needRoom 2 none, Cond.classLink RX0 127 "java/lang/IllegalStateException", Cond.initialized "java/lang/IllegalStateException", Cond.methodLink RX0 95 yX0_stripPlace, Cond.static yX0_stripPlace, Cond.code yX0_stripPlace cX0_stripPlace 2 (some .int), Cond.methodLink RX0 69 yX0_putNumber, Cond.instanceMethod yX0_putNumber, Cond.selects RX0 yX0_putNumber yX0_putNumber, Cond.code yX0_putNumber cX0_putNumber 5 (some .boolean), Cond.fieldLink RX0 9 "HarbourBoard" "isNumber" "[Z", Cond.fieldLink RX0 13 "HarbourBoard" "numbers" "[D"]
def wsL_wind : List Cond := .codeWith yL_wind cL_wind 5 (some .int) [(0, 10, 13, 13), (0, 10, 17, 15)] :: ((wsL_wind_r1 ++ wsL_wind_r2) ++ wsX00 ++ (vx_atS RX0 63 "java/lang/IllegalArgumentException" ["java/lang/RuntimeException", "java/lang/Exception"]).filter goodWord ++ (vx_atS RX0 131 "java/lang/IllegalStateException" ["java/lang/RuntimeException", "java/lang/Exception"]).filter goodWord)
def wsL_out_r1 : List Cond := [Cond.classLink RL 13 "java/lang/IllegalArgumentException", Cond.classLink RL 15 "java/lang/IllegalStateException", Cond.methodLink RL 21 yX0_out, Cond.instanceMethod yX0_out, Cond.selects RX0 yX0_out yX0_out, Cond.initialized RX0, Cond.code yX0_out cX0_out 3 (some .int), Cond.methodLink RX0 29 yX0_needGauge, Cond.static yX0_needGauge, Cond.code yX0_needGauge cX0_needGauge 1 none, Cond.classLink RX0 59 "java/lang/IllegalArgumentException", Cond.initialized "java/lang/IllegalArgumentException", Cond.methodLink RX0 49 yX0_needWhat, Cond.static yX0_needWhat, Cond.code yX0_needWhat cX0_needWhat 1 none, Cond.methodLink RX0 37 yX0_stripOf, Cond.static yX0_stripOf, Cond.code yX0_stripOf cX0_stripOf 2 (some .int), Cond.methodLink RX0 52 yX0_appendOut, Cond.instanceMethod yX0_appendOut, Cond.selects RX0 yX0_appendOut yX0_appendOut, Cond.code yX0_appendOut cX0_appendOut 2 (some .int), Cond.fieldLink RX0 17 "HarbourBoard" "lengths" "[I", Cond.methodLink RX0 169 yX0_needRoom]
def wsL_out_r2 : List Cond := [Cond.instanceMethod yX0_needRoom, Cond.selects RX0 yX0_needRoom yX0_needRoom, Cond.code yX0_needRoom cX0_needRoom 2 none, Cond.classLink RX0 127 "java/lang/IllegalStateException", Cond.initialized "java/lang/IllegalStateException", Cond.methodLink RX0 95 yX0_stripPlace, Cond.static yX0_stripPlace, Cond.code yX0_stripPlace cX0_stripPlace 2 (some .int), Cond.methodLink RX0 75 yX0_putOut, Cond.instanceMethod yX0_putOut, Cond.selects RX0 yX0_putOut yX0_putOut, Cond.code yX0_putOut cX0_putOut 3 (some .boolean), Cond.fieldLink RX0 9 "HarbourBoard" "isNumber" "[Z"]
def wsL_out : List Cond := .codeWith yL_out cL_out 5 (some .int) [(0, 10, 13, 13), (0, 10, 17, 15)] :: ((wsL_out_r1 ++ wsL_out_r2) ++ wsX00 ++ (vx_atS RX0 63 "java/lang/IllegalArgumentException" ["java/lang/RuntimeException", "java/lang/Exception"]).filter goodWord ++ (vx_atS RX0 131 "java/lang/IllegalStateException" ["java/lang/RuntimeException", "java/lang/Exception"]).filter goodWord)
def wsL_clear : List Cond := .codeWith yL_clear cL_clear 4 (some .int) [(0, 9, 12, 13)] :: ([.classLink RL 13 "java/lang/IllegalArgumentException", .methodLink RL 25 yX0_clear, .instanceMethod yX0_clear, .selects RX0 yX0_clear yX0_clear, .initialized RX0, .code yX0_clear cX0_clear 2 (some .int), .methodLink RX0 29 yX0_needGauge, .static yX0_needGauge, .code yX0_needGauge cX0_needGauge 1 none, .classLink RX0 59 "java/lang/IllegalArgumentException", .initialized "java/lang/IllegalArgumentException", .methodLink RX0 37 yX0_stripOf, .static yX0_stripOf, .code yX0_stripOf cX0_stripOf 2 (some .int), .methodLink RX0 56 yX0_emptyStrip, .instanceMethod yX0_emptyStrip, .selects RX0 yX0_emptyStrip yX0_emptyStrip, .code yX0_emptyStrip cX0_emptyStrip 3 (some .int), .fieldLink RX0 17 "HarbourBoard" "lengths" "[I"] ++ wsX00 ++ (vx_atS RX0 63 "java/lang/IllegalArgumentException" ["java/lang/RuntimeException", "java/lang/Exception"]).filter goodWord)
def wsL_mark_r1 : List Cond := [Cond.classLink RL 13 "java/lang/IllegalArgumentException", Cond.methodLink RL 29 yX0_mark, Cond.instanceMethod yX0_mark, Cond.selects RX0 yX0_mark yX0_mark, Cond.initialized RX0, Cond.code yX0_mark cX0_mark 5 (some .boolean), Cond.classLink RX0 59 "java/lang/IllegalArgumentException", Cond.initialized "java/lang/IllegalArgumentException", Cond.methodLink RX0 29 yX0_needGauge, Cond.static yX0_needGauge, Cond.code yX0_needGauge cX0_needGauge 1 none, Cond.methodLink RX0 33 yX0_needLevel, Cond.static yX0_needLevel, Cond.code yX0_needLevel cX0_needLevel 2 none, Cond.constantDouble RX0 144 (13875379345695965184), Cond.constantDouble RX0 146 (4652007308841189376), Cond.methodLink RX0 66 yX0_markPlace, Cond.static yX0_markPlace, Cond.code yX0_markPlace cX0_markPlace 2 (some .int), Cond.methodLink RX0 69 yX0_putNumber, Cond.instanceMethod yX0_putNumber, Cond.selects RX0 yX0_putNumber yX0_putNumber, Cond.code yX0_putNumber cX0_putNumber 5 (some .boolean), Cond.fieldLink RX0 9 "HarbourBoard" "isNumber" "[Z"]
def wsL_mark_r2 : List Cond := [Cond.fieldLink RX0 13 "HarbourBoard" "numbers" "[D"]
def wsL_mark : List Cond := .codeWith yL_mark cL_mark 7 (some .int) [(0, 19, 22, 13)] :: ((wsL_mark_r1 ++ wsL_mark_r2) ++ wsX00 ++ (vx_atS RX0 63 "java/lang/IllegalArgumentException" ["java/lang/RuntimeException", "java/lang/Exception"]).filter goodWord)
def wsL_gale : List Cond := .codeWith yL_gale cL_gale 5 (some .int) [(0, 17, 20, 13)] :: ([.classLink RL 13 "java/lang/IllegalArgumentException", .methodLink RL 33 yX0_gale, .instanceMethod yX0_gale, .selects RX0 yX0_gale yX0_gale, .initialized RX0, .code yX0_gale cX0_gale 3 (some .boolean), .methodLink RX0 29 yX0_needGauge, .static yX0_needGauge, .code yX0_needGauge cX0_needGauge 1 none, .classLink RX0 59 "java/lang/IllegalArgumentException", .initialized "java/lang/IllegalArgumentException", .methodLink RX0 45 yX0_needWind, .static yX0_needWind, .code yX0_needWind cX0_needWind 1 none, .constantFloat RX0 150 (1128792064), .methodLink RX0 66 yX0_markPlace, .static yX0_markPlace, .code yX0_markPlace cX0_markPlace 2 (some .int), .methodLink RX0 69 yX0_putNumber, .instanceMethod yX0_putNumber, .selects RX0 yX0_putNumber yX0_putNumber, .code yX0_putNumber cX0_putNumber 5 (some .boolean), .fieldLink RX0 9 "HarbourBoard" "isNumber" "[Z", .fieldLink RX0 13 "HarbourBoard" "numbers" "[D"] ++ wsX00 ++ (vx_atS RX0 63 "java/lang/IllegalArgumentException" ["java/lang/RuntimeException", "java/lang/Exception"]).filter goodWord)
def wsL_lift : List Cond := .codeWith yL_lift cL_lift 5 (some .int) [(0, 17, 20, 13)] :: ([.classLink RL 13 "java/lang/IllegalArgumentException", .methodLink RL 37 yX0_lift, .instanceMethod yX0_lift, .selects RX0 yX0_lift yX0_lift, .initialized RX0, .code yX0_lift cX0_lift 3 (some .boolean), .classLink RX0 59 "java/lang/IllegalArgumentException", .initialized "java/lang/IllegalArgumentException", .methodLink RX0 29 yX0_needGauge, .static yX0_needGauge, .code yX0_needGauge cX0_needGauge 1 none, .methodLink RX0 66 yX0_markPlace, .static yX0_markPlace, .code yX0_markPlace cX0_markPlace 2 (some .int), .methodLink RX0 75 yX0_putOut, .instanceMethod yX0_putOut, .selects RX0 yX0_putOut yX0_putOut, .code yX0_putOut cX0_putOut 3 (some .boolean), .fieldLink RX0 9 "HarbourBoard" "isNumber" "[Z"] ++ wsX00 ++ (vx_atS RX0 63 "java/lang/IllegalArgumentException" ["java/lang/RuntimeException", "java/lang/Exception"]).filter goodWord)
def wsL_probe_r1 : List Cond := [Cond.classLink RL 13 "java/lang/IllegalArgumentException", Cond.methodLink RL 41 yX0_probe, Cond.instanceMethod yX0_probe, Cond.selects RX0 yX0_probe yX0_probe, Cond.initialized RX0, Cond.code yX0_probe cX0_probe 3 (some .int), Cond.methodLink RX0 33 yX0_needLevel, Cond.static yX0_needLevel, Cond.code yX0_needLevel cX0_needLevel 2 none, Cond.classLink RX0 59 "java/lang/IllegalArgumentException", Cond.initialized "java/lang/IllegalArgumentException", Cond.constantDouble RX0 144 (13875379345695965184), Cond.constantDouble RX0 146 (4652007308841189376), Cond.methodLink RX0 79 yX0_probePlace, Cond.static yX0_probePlace, Cond.code yX0_probePlace cX0_probePlace 1 (some .int), Cond.methodLink RX0 69 yX0_putNumber, Cond.instanceMethod yX0_putNumber, Cond.selects RX0 yX0_putNumber yX0_putNumber, Cond.code yX0_putNumber cX0_putNumber 5 (some .boolean), Cond.fieldLink RX0 9 "HarbourBoard" "isNumber" "[Z", Cond.fieldLink RX0 13 "HarbourBoard" "numbers" "[D", Cond.methodLink RX0 82 yX0_gaugesRelatedToProbe, Cond.instanceMethod yX0_gaugesRelatedToProbe]
def wsL_probe_r2 : List Cond := [Cond.selects RX0 yX0_gaugesRelatedToProbe yX0_gaugesRelatedToProbe, Cond.code yX0_gaugesRelatedToProbe cX0_gaugesRelatedToProbe 5 (some .int), Cond.methodLink RX0 102 yX0_latestPlace, Cond.instanceMethod yX0_latestPlace, Cond.selects RX0 yX0_latestPlace yX0_latestPlace, Cond.code yX0_latestPlace cX0_latestPlace 4 (some .int), Cond.fieldLink RX0 17 "HarbourBoard" "lengths" "[I", Cond.methodLink RX0 37 yX0_stripOf, Cond.static yX0_stripOf, Cond.code yX0_stripOf cX0_stripOf 2 (some .int), Cond.methodLink RX0 95 yX0_stripPlace, Cond.static yX0_stripPlace, Cond.code yX0_stripPlace cX0_stripPlace 2 (some .int), Cond.methodLink RX0 98 yX0_isRelated, Cond.instanceMethod yX0_isRelated, Cond.selects RX0 yX0_isRelated yX0_isRelated, Cond.code yX0_isRelated cX0_isRelated 8 (some .boolean)]
def wsL_probe : List Cond := .codeWith yL_probe cL_probe 5 (some .int) [(0, 9, 12, 13)] :: ((wsL_probe_r1 ++ wsL_probe_r2) ++ wsX00 ++ (vx_atS RX0 63 "java/lang/IllegalArgumentException" ["java/lang/RuntimeException", "java/lang/Exception"]).filter goodWord)
def wsL_probeWind_r1 : List Cond := [Cond.classLink RL 13 "java/lang/IllegalArgumentException", Cond.methodLink RL 45 yX0_probeWind, Cond.instanceMethod yX0_probeWind, Cond.selects RX0 yX0_probeWind yX0_probeWind, Cond.initialized RX0, Cond.code yX0_probeWind cX0_probeWind 2 (some .int), Cond.methodLink RX0 45 yX0_needWind, Cond.static yX0_needWind, Cond.code yX0_needWind cX0_needWind 1 none, Cond.classLink RX0 59 "java/lang/IllegalArgumentException", Cond.initialized "java/lang/IllegalArgumentException", Cond.constantFloat RX0 150 (1128792064), Cond.methodLink RX0 79 yX0_probePlace, Cond.static yX0_probePlace, Cond.code yX0_probePlace cX0_probePlace 1 (some .int), Cond.methodLink RX0 69 yX0_putNumber, Cond.instanceMethod yX0_putNumber, Cond.selects RX0 yX0_putNumber yX0_putNumber, Cond.code yX0_putNumber cX0_putNumber 5 (some .boolean), Cond.fieldLink RX0 9 "HarbourBoard" "isNumber" "[Z", Cond.fieldLink RX0 13 "HarbourBoard" "numbers" "[D", Cond.methodLink RX0 82 yX0_gaugesRelatedToProbe, Cond.instanceMethod yX0_gaugesRelatedToProbe, Cond.selects RX0 yX0_gaugesRelatedToProbe yX0_gaugesRelatedToProbe]
def wsL_probeWind_r2 : List Cond := [Cond.code yX0_gaugesRelatedToProbe cX0_gaugesRelatedToProbe 5 (some .int), Cond.methodLink RX0 102 yX0_latestPlace, Cond.instanceMethod yX0_latestPlace, Cond.selects RX0 yX0_latestPlace yX0_latestPlace, Cond.code yX0_latestPlace cX0_latestPlace 4 (some .int), Cond.fieldLink RX0 17 "HarbourBoard" "lengths" "[I", Cond.methodLink RX0 37 yX0_stripOf, Cond.static yX0_stripOf, Cond.code yX0_stripOf cX0_stripOf 2 (some .int), Cond.methodLink RX0 95 yX0_stripPlace, Cond.static yX0_stripPlace, Cond.code yX0_stripPlace cX0_stripPlace 2 (some .int), Cond.methodLink RX0 98 yX0_isRelated, Cond.instanceMethod yX0_isRelated, Cond.selects RX0 yX0_isRelated yX0_isRelated, Cond.code yX0_isRelated cX0_isRelated 8 (some .boolean)]
def wsL_probeWind : List Cond := .codeWith yL_probeWind cL_probeWind 4 (some .int) [(0, 9, 12, 13)] :: ((wsL_probeWind_r1 ++ wsL_probeWind_r2) ++ wsX00 ++ (vx_atS RX0 63 "java/lang/IllegalArgumentException" ["java/lang/RuntimeException", "java/lang/Exception"]).filter goodWord)
def wsL_probeOut_r1 : List Cond := [Cond.classLink RL 13 "java/lang/IllegalArgumentException", Cond.methodLink RL 49 yX0_probeOut, Cond.instanceMethod yX0_probeOut, Cond.selects RX0 yX0_probeOut yX0_probeOut, Cond.initialized RX0, Cond.code yX0_probeOut cX0_probeOut 2 (some .int), Cond.methodLink RX0 49 yX0_needWhat, Cond.static yX0_needWhat, Cond.code yX0_needWhat cX0_needWhat 1 none, Cond.classLink RX0 59 "java/lang/IllegalArgumentException", Cond.initialized "java/lang/IllegalArgumentException", Cond.methodLink RX0 79 yX0_probePlace, Cond.static yX0_probePlace, Cond.code yX0_probePlace cX0_probePlace 1 (some .int), Cond.methodLink RX0 75 yX0_putOut, Cond.instanceMethod yX0_putOut, Cond.selects RX0 yX0_putOut yX0_putOut, Cond.code yX0_putOut cX0_putOut 3 (some .boolean), Cond.fieldLink RX0 9 "HarbourBoard" "isNumber" "[Z", Cond.methodLink RX0 82 yX0_gaugesRelatedToProbe, Cond.instanceMethod yX0_gaugesRelatedToProbe, Cond.selects RX0 yX0_gaugesRelatedToProbe yX0_gaugesRelatedToProbe, Cond.code yX0_gaugesRelatedToProbe cX0_gaugesRelatedToProbe 5 (some .int), Cond.methodLink RX0 102 yX0_latestPlace]
def wsL_probeOut_r2 : List Cond := [Cond.instanceMethod yX0_latestPlace, Cond.selects RX0 yX0_latestPlace yX0_latestPlace, Cond.code yX0_latestPlace cX0_latestPlace 4 (some .int), Cond.fieldLink RX0 17 "HarbourBoard" "lengths" "[I", Cond.methodLink RX0 37 yX0_stripOf, Cond.static yX0_stripOf, Cond.code yX0_stripOf cX0_stripOf 2 (some .int), Cond.methodLink RX0 95 yX0_stripPlace, Cond.static yX0_stripPlace, Cond.code yX0_stripPlace cX0_stripPlace 2 (some .int), Cond.methodLink RX0 98 yX0_isRelated, Cond.instanceMethod yX0_isRelated, Cond.selects RX0 yX0_isRelated yX0_isRelated, Cond.code yX0_isRelated cX0_isRelated 8 (some .boolean), Cond.fieldLink RX0 13 "HarbourBoard" "numbers" "[D"]
def wsL_probeOut : List Cond := .codeWith yL_probeOut cL_probeOut 4 (some .int) [(0, 9, 12, 13)] :: ((wsL_probeOut_r1 ++ wsL_probeOut_r2) ++ wsX00 ++ (vx_atS RX0 63 "java/lang/IllegalArgumentException" ["java/lang/RuntimeException", "java/lang/Exception"]).filter goodWord)
def wsL_run_r1 : List Cond := [Cond.classLink RL 13 "java/lang/IllegalArgumentException", Cond.methodLink RL 52 yX0_run, Cond.instanceMethod yX0_run, Cond.selects RX0 yX0_run yX0_run, Cond.initialized RX0, Cond.code yX0_run cX0_run 7 (some .int), Cond.methodLink RX0 29 yX0_needGauge, Cond.static yX0_needGauge, Cond.code yX0_needGauge cX0_needGauge 1 none, Cond.classLink RX0 59 "java/lang/IllegalArgumentException", Cond.initialized "java/lang/IllegalArgumentException", Cond.methodLink RX0 49 yX0_needWhat, Cond.static yX0_needWhat, Cond.code yX0_needWhat cX0_needWhat 1 none, Cond.methodLink RX0 85 yX0_needRelation, Cond.static yX0_needRelation, Cond.code yX0_needRelation cX0_needRelation 1 none, Cond.methodLink RX0 37 yX0_stripOf, Cond.static yX0_stripOf, Cond.code yX0_stripOf cX0_stripOf 2 (some .int), Cond.methodLink RX0 79 yX0_probePlace, Cond.static yX0_probePlace, Cond.code yX0_probePlace cX0_probePlace 1 (some .int), Cond.methodLink RX0 88 yX0_runBack]
def wsL_run_r2 : List Cond := [Cond.instanceMethod yX0_runBack, Cond.selects RX0 yX0_runBack yX0_runBack, Cond.code yX0_runBack cX0_runBack 6 (some .int), Cond.fieldLink RX0 17 "HarbourBoard" "lengths" "[I", Cond.methodLink RX0 95 yX0_stripPlace, Cond.static yX0_stripPlace, Cond.code yX0_stripPlace cX0_stripPlace 2 (some .int), Cond.methodLink RX0 98 yX0_isRelated, Cond.instanceMethod yX0_isRelated, Cond.selects RX0 yX0_isRelated yX0_isRelated, Cond.code yX0_isRelated cX0_isRelated 8 (some .boolean), Cond.fieldLink RX0 9 "HarbourBoard" "isNumber" "[Z", Cond.fieldLink RX0 13 "HarbourBoard" "numbers" "[D", Cond.methodLink RX0 92 yX0_runAhead, Cond.instanceMethod yX0_runAhead, Cond.selects RX0 yX0_runAhead yX0_runAhead, Cond.code yX0_runAhead cX0_runAhead 5 (some .int)]
def wsL_run : List Cond := .codeWith yL_run cL_run 7 (some .int) [(0, 14, 17, 13)] :: ((wsL_run_r1 ++ wsL_run_r2) ++ wsX00 ++ (vx_atS RX0 63 "java/lang/IllegalArgumentException" ["java/lang/RuntimeException", "java/lang/Exception"]).filter goodWord)
def wsL_count_r1 : List Cond := [Cond.classLink RL 13 "java/lang/IllegalArgumentException", Cond.methodLink RL 56 yX0_count, Cond.instanceMethod yX0_count, Cond.selects RX0 yX0_count yX0_count, Cond.initialized RX0, Cond.code yX0_count cX0_count 8 (some .int), Cond.fieldLink RX0 17 "HarbourBoard" "lengths" "[I", Cond.methodLink RX0 29 yX0_needGauge, Cond.static yX0_needGauge, Cond.code yX0_needGauge cX0_needGauge 1 none, Cond.classLink RX0 59 "java/lang/IllegalArgumentException", Cond.initialized "java/lang/IllegalArgumentException", Cond.methodLink RX0 49 yX0_needWhat, Cond.static yX0_needWhat, Cond.code yX0_needWhat cX0_needWhat 1 none, Cond.methodLink RX0 85 yX0_needRelation, Cond.static yX0_needRelation, Cond.code yX0_needRelation cX0_needRelation 1 none, Cond.methodLink RX0 37 yX0_stripOf, Cond.static yX0_stripOf, Cond.code yX0_stripOf cX0_stripOf 2 (some .int), Cond.methodLink RX0 95 yX0_stripPlace, Cond.static yX0_stripPlace, Cond.code yX0_stripPlace cX0_stripPlace 2 (some .int)]
def wsL_count_r2 : List Cond := [Cond.methodLink RX0 79 yX0_probePlace, Cond.static yX0_probePlace, Cond.code yX0_probePlace cX0_probePlace 1 (some .int), Cond.methodLink RX0 98 yX0_isRelated, Cond.instanceMethod yX0_isRelated, Cond.selects RX0 yX0_isRelated yX0_isRelated, Cond.code yX0_isRelated cX0_isRelated 8 (some .boolean), Cond.fieldLink RX0 9 "HarbourBoard" "isNumber" "[Z", Cond.fieldLink RX0 13 "HarbourBoard" "numbers" "[D"]
def wsL_count : List Cond := .codeWith yL_count cL_count 7 (some .int) [(0, 14, 17, 13)] :: ((wsL_count_r1 ++ wsL_count_r2) ++ wsX00 ++ (vx_atS RX0 63 "java/lang/IllegalArgumentException" ["java/lang/RuntimeException", "java/lang/Exception"]).filter goodWord)
def wsL_holds_r1 : List Cond := [Cond.classLink RL 13 "java/lang/IllegalArgumentException", Cond.methodLink RL 59 yX0_holds, Cond.instanceMethod yX0_holds, Cond.selects RX0 yX0_holds yX0_holds, Cond.initialized RX0, Cond.code yX0_holds cX0_holds 5 (some .boolean), Cond.methodLink RX0 29 yX0_needGauge, Cond.static yX0_needGauge, Cond.code yX0_needGauge cX0_needGauge 1 none, Cond.classLink RX0 59 "java/lang/IllegalArgumentException", Cond.initialized "java/lang/IllegalArgumentException", Cond.methodLink RX0 49 yX0_needWhat, Cond.static yX0_needWhat, Cond.code yX0_needWhat cX0_needWhat 1 none, Cond.methodLink RX0 85 yX0_needRelation, Cond.static yX0_needRelation, Cond.code yX0_needRelation cX0_needRelation 1 none, Cond.methodLink RX0 102 yX0_latestPlace, Cond.instanceMethod yX0_latestPlace, Cond.selects RX0 yX0_latestPlace yX0_latestPlace, Cond.code yX0_latestPlace cX0_latestPlace 4 (some .int), Cond.fieldLink RX0 17 "HarbourBoard" "lengths" "[I", Cond.methodLink RX0 37 yX0_stripOf, Cond.static yX0_stripOf]
def wsL_holds_r2 : List Cond := [Cond.code yX0_stripOf cX0_stripOf 2 (some .int), Cond.methodLink RX0 95 yX0_stripPlace, Cond.static yX0_stripPlace, Cond.code yX0_stripPlace cX0_stripPlace 2 (some .int), Cond.methodLink RX0 98 yX0_isRelated, Cond.instanceMethod yX0_isRelated, Cond.selects RX0 yX0_isRelated yX0_isRelated, Cond.code yX0_isRelated cX0_isRelated 8 (some .boolean), Cond.fieldLink RX0 9 "HarbourBoard" "isNumber" "[Z", Cond.fieldLink RX0 13 "HarbourBoard" "numbers" "[D"]
def wsL_holds : List Cond := .codeWith yL_holds cL_holds 7 (some .int) [(0, 21, 24, 13)] :: ((wsL_holds_r1 ++ wsL_holds_r2) ++ wsX00 ++ (vx_atS RX0 63 "java/lang/IllegalArgumentException" ["java/lang/RuntimeException", "java/lang/Exception"]).filter goodWord)
def wsL_pick_r1 : List Cond := [Cond.classLink RL 13 "java/lang/IllegalArgumentException", Cond.methodLink RL 63 yX0_pick, Cond.instanceMethod yX0_pick, Cond.selects RX0 yX0_pick yX0_pick, Cond.initialized RX0, Cond.code yX0_pick cX0_pick 7 (some .int), Cond.methodLink RX0 29 yX0_needGauge, Cond.static yX0_needGauge, Cond.code yX0_needGauge cX0_needGauge 1 none, Cond.classLink RX0 59 "java/lang/IllegalArgumentException", Cond.initialized "java/lang/IllegalArgumentException", Cond.methodLink RX0 49 yX0_needWhat, Cond.static yX0_needWhat, Cond.code yX0_needWhat cX0_needWhat 1 none, Cond.methodLink RX0 85 yX0_needRelation, Cond.static yX0_needRelation, Cond.code yX0_needRelation cX0_needRelation 1 none, Cond.methodLink RX0 102 yX0_latestPlace, Cond.instanceMethod yX0_latestPlace, Cond.selects RX0 yX0_latestPlace yX0_latestPlace, Cond.code yX0_latestPlace cX0_latestPlace 4 (some .int), Cond.fieldLink RX0 17 "HarbourBoard" "lengths" "[I", Cond.methodLink RX0 37 yX0_stripOf, Cond.static yX0_stripOf]
def wsL_pick_r2 : List Cond := [Cond.code yX0_stripOf cX0_stripOf 2 (some .int), Cond.methodLink RX0 95 yX0_stripPlace, Cond.static yX0_stripPlace, Cond.code yX0_stripPlace cX0_stripPlace 2 (some .int), Cond.methodLink RX0 98 yX0_isRelated, Cond.instanceMethod yX0_isRelated, Cond.selects RX0 yX0_isRelated yX0_isRelated, Cond.code yX0_isRelated cX0_isRelated 8 (some .boolean), Cond.fieldLink RX0 9 "HarbourBoard" "isNumber" "[Z", Cond.fieldLink RX0 13 "HarbourBoard" "numbers" "[D"]
def wsL_pick : List Cond := .codeWith yL_pick cL_pick 7 (some .int) [(0, 14, 17, 13)] :: ((wsL_pick_r1 ++ wsL_pick_r2) ++ wsX00 ++ (vx_atS RX0 63 "java/lang/IllegalArgumentException" ["java/lang/RuntimeException", "java/lang/Exception"]).filter goodWord)
def wsL_stand_r1 : List Cond := [Cond.classLink RL 13 "java/lang/IllegalArgumentException", Cond.methodLink RL 67 yX0_stand, Cond.instanceMethod yX0_stand, Cond.selects RX0 yX0_stand yX0_stand, Cond.initialized RX0, Cond.code yX0_stand cX0_stand 2 (some .int), Cond.methodLink RX0 29 yX0_needGauge, Cond.static yX0_needGauge, Cond.code yX0_needGauge cX0_needGauge 1 none, Cond.classLink RX0 59 "java/lang/IllegalArgumentException", Cond.initialized "java/lang/IllegalArgumentException", Cond.methodLink RX0 105 yX0_standOfLevel, Cond.instanceMethod yX0_standOfLevel, Cond.selects RX0 yX0_standOfLevel yX0_standOfLevel, Cond.code yX0_standOfLevel cX0_standOfLevel 5 (some .int), Cond.fieldLink RX0 17 "HarbourBoard" "lengths" "[I", Cond.fieldLink RX0 9 "HarbourBoard" "isNumber" "[Z", Cond.methodLink RX0 37 yX0_stripOf, Cond.static yX0_stripOf, Cond.code yX0_stripOf cX0_stripOf 2 (some .int), Cond.methodLink RX0 102 yX0_latestPlace, Cond.instanceMethod yX0_latestPlace, Cond.selects RX0 yX0_latestPlace yX0_latestPlace, Cond.code yX0_latestPlace cX0_latestPlace 4 (some .int)]
def wsL_stand_r2 : List Cond := [Cond.methodLink RX0 95 yX0_stripPlace, Cond.static yX0_stripPlace, Cond.code yX0_stripPlace cX0_stripPlace 2 (some .int), Cond.methodLink RX0 66 yX0_markPlace, Cond.static yX0_markPlace, Cond.code yX0_markPlace cX0_markPlace 2 (some .int), Cond.methodLink RX0 98 yX0_isRelated, Cond.instanceMethod yX0_isRelated, Cond.selects RX0 yX0_isRelated yX0_isRelated, Cond.code yX0_isRelated cX0_isRelated 8 (some .boolean), Cond.fieldLink RX0 13 "HarbourBoard" "numbers" "[D", Cond.methodLink RX0 108 yX0_standOfWind, Cond.instanceMethod yX0_standOfWind, Cond.selects RX0 yX0_standOfWind yX0_standOfWind, Cond.code yX0_standOfWind cX0_standOfWind 4 (some .int)]
def wsL_stand : List Cond := .codeWith yL_stand cL_stand 4 (some .int) [(0, 9, 12, 13)] :: ((wsL_stand_r1 ++ wsL_stand_r2) ++ wsX00 ++ (vx_atS RX0 63 "java/lang/IllegalArgumentException" ["java/lang/RuntimeException", "java/lang/Exception"]).filter goodWord)
def wsL_order_r1 : List Cond := [Cond.classLink RL 13 "java/lang/IllegalArgumentException", Cond.methodLink RL 70 yX0_order, Cond.instanceMethod yX0_order, Cond.selects RX0 yX0_order yX0_order, Cond.initialized RX0, Cond.code yX0_order cX0_order 4 (some .int), Cond.classLink RX0 59 "java/lang/IllegalArgumentException", Cond.initialized "java/lang/IllegalArgumentException", Cond.methodLink RX0 113 yX0_gaugesAheadOf, Cond.instanceMethod yX0_gaugesAheadOf, Cond.selects RX0 yX0_gaugesAheadOf yX0_gaugesAheadOf, Cond.code yX0_gaugesAheadOf cX0_gaugesAheadOf 4 (some .int), Cond.methodLink RX0 172 yX0_isAhead, Cond.instanceMethod yX0_isAhead, Cond.selects RX0 yX0_isAhead yX0_isAhead, Cond.code yX0_isAhead cX0_isAhead 5 (some .boolean), Cond.fieldLink RX0 9 "HarbourBoard" "isNumber" "[Z", Cond.methodLink RX0 102 yX0_latestPlace, Cond.instanceMethod yX0_latestPlace, Cond.selects RX0 yX0_latestPlace yX0_latestPlace, Cond.code yX0_latestPlace cX0_latestPlace 4 (some .int), Cond.fieldLink RX0 17 "HarbourBoard" "lengths" "[I", Cond.methodLink RX0 37 yX0_stripOf, Cond.static yX0_stripOf]
def wsL_order_r2 : List Cond := [Cond.code yX0_stripOf cX0_stripOf 2 (some .int), Cond.methodLink RX0 95 yX0_stripPlace, Cond.static yX0_stripPlace, Cond.code yX0_stripPlace cX0_stripPlace 2 (some .int), Cond.methodLink RX0 119 yX0_likenessOf, Cond.instanceMethod yX0_likenessOf, Cond.selects RX0 yX0_likenessOf yX0_likenessOf, Cond.code yX0_likenessOf cX0_likenessOf 3 (some .int), Cond.methodLink RX0 98 yX0_isRelated, Cond.instanceMethod yX0_isRelated, Cond.selects RX0 yX0_isRelated yX0_isRelated, Cond.code yX0_isRelated cX0_isRelated 8 (some .boolean), Cond.fieldLink RX0 13 "HarbourBoard" "numbers" "[D"]
def wsL_order : List Cond := .codeWith yL_order cL_order 4 (some .int) [(0, 9, 12, 13)] :: ((wsL_order_r1 ++ wsL_order_r2) ++ wsX00 ++ (vx_atS RX0 63 "java/lang/IllegalArgumentException" ["java/lang/RuntimeException", "java/lang/Exception"]).filter goodWord)
def wsL_highest_r1 : List Cond := [Cond.classLink RL 13 "java/lang/IllegalArgumentException", Cond.classLink RL 77 "java/util/NoSuchElementException", Cond.methodLink RL 73 yX0_highest, Cond.instanceMethod yX0_highest, Cond.selects RX0 yX0_highest yX0_highest, Cond.initialized RX0, Cond.code yX0_highest cX0_highest 2 (some .double), Cond.fieldLink RX0 13 "HarbourBoard" "numbers" "[D", Cond.methodLink RX0 29 yX0_needGauge, Cond.static yX0_needGauge, Cond.code yX0_needGauge cX0_needGauge 1 none, Cond.classLink RX0 59 "java/lang/IllegalArgumentException", Cond.initialized "java/lang/IllegalArgumentException", Cond.methodLink RX0 37 yX0_stripOf, Cond.static yX0_stripOf, Cond.code yX0_stripOf cX0_stripOf 2 (some .int), Cond.methodLink RX0 116 yX0_extremePlace, Cond.instanceMethod yX0_extremePlace, Cond.selects RX0 yX0_extremePlace yX0_extremePlace, Cond.code yX0_extremePlace cX0_extremePlace 7 (some .int), Cond.classLink RX0 176 "java/util/NoSuchElementException", Cond.initialized "java/util/NoSuchElementException", Cond.fieldLink RX0 17 "HarbourBoard" "lengths" "[I", Cond.fieldLink RX0 9 "HarbourBoard" "isNumber" "[Z"]
def wsL_highest_r2 : List Cond := [Cond.methodLink RX0 95 yX0_stripPlace, Cond.static yX0_stripPlace, Cond.code yX0_stripPlace cX0_stripPlace 2 (some .int), Cond.methodLink RX0 98 yX0_isRelated, Cond.instanceMethod yX0_isRelated, Cond.selects RX0 yX0_isRelated yX0_isRelated, Cond.code yX0_isRelated cX0_isRelated 8 (some .boolean)]
def wsL_highest : List Cond := .codeWith yL_highest cL_highest 4 (some .int) [(0, 8, 11, 13), (0, 8, 14, 77)] :: ((wsL_highest_r1 ++ wsL_highest_r2) ++ wsX00 ++ (vx_atS RX0 63 "java/lang/IllegalArgumentException" ["java/lang/RuntimeException", "java/lang/Exception"]).filter goodWord ++ cy_at.filter goodWord)
def wsL_calmest_r1 : List Cond := [Cond.classLink RL 13 "java/lang/IllegalArgumentException", Cond.classLink RL 77 "java/util/NoSuchElementException", Cond.methodLink RL 79 yX0_calmest, Cond.instanceMethod yX0_calmest, Cond.selects RX0 yX0_calmest yX0_calmest, Cond.initialized RX0, Cond.code yX0_calmest cX0_calmest 2 (some .float), Cond.fieldLink RX0 13 "HarbourBoard" "numbers" "[D", Cond.methodLink RX0 29 yX0_needGauge, Cond.static yX0_needGauge, Cond.code yX0_needGauge cX0_needGauge 1 none, Cond.classLink RX0 59 "java/lang/IllegalArgumentException", Cond.initialized "java/lang/IllegalArgumentException", Cond.methodLink RX0 37 yX0_stripOf, Cond.static yX0_stripOf, Cond.code yX0_stripOf cX0_stripOf 2 (some .int), Cond.methodLink RX0 116 yX0_extremePlace, Cond.instanceMethod yX0_extremePlace, Cond.selects RX0 yX0_extremePlace yX0_extremePlace, Cond.code yX0_extremePlace cX0_extremePlace 7 (some .int), Cond.classLink RX0 176 "java/util/NoSuchElementException", Cond.initialized "java/util/NoSuchElementException", Cond.fieldLink RX0 17 "HarbourBoard" "lengths" "[I", Cond.fieldLink RX0 9 "HarbourBoard" "isNumber" "[Z"]
def wsL_calmest_r2 : List Cond := [Cond.methodLink RX0 95 yX0_stripPlace, Cond.static yX0_stripPlace, Cond.code yX0_stripPlace cX0_stripPlace 2 (some .int), Cond.methodLink RX0 98 yX0_isRelated, Cond.instanceMethod yX0_isRelated, Cond.selects RX0 yX0_isRelated yX0_isRelated, Cond.code yX0_isRelated cX0_isRelated 8 (some .boolean)]
def wsL_calmest : List Cond := .codeWith yL_calmest cL_calmest 4 (some .int) [(0, 9, 12, 13), (0, 9, 15, 77)] :: ((wsL_calmest_r1 ++ wsL_calmest_r2) ++ wsX00 ++ (vx_atS RX0 63 "java/lang/IllegalArgumentException" ["java/lang/RuntimeException", "java/lang/Exception"]).filter goodWord ++ cy_at.filter goodWord)
def wsL_same_r1 : List Cond := [Cond.classLink RL 13 "java/lang/IllegalArgumentException", Cond.methodLink RL 83 yX0_same, Cond.instanceMethod yX0_same, Cond.selects RX0 yX0_same yX0_same, Cond.initialized RX0, Cond.code yX0_same cX0_same 7 (some .int), Cond.fieldLink RX0 17 "HarbourBoard" "lengths" "[I", Cond.methodLink RX0 122 Lib.Math.min.name, Cond.static Lib.Math.min.name, Cond.initialized "java/lang/Math", Cond.code Lib.Math.min.name Lib.Math.min.code 2 (some .int), Cond.methodLink RX0 29 yX0_needGauge, Cond.static yX0_needGauge, Cond.code yX0_needGauge cX0_needGauge 1 none, Cond.classLink RX0 59 "java/lang/IllegalArgumentException", Cond.initialized "java/lang/IllegalArgumentException", Cond.methodLink RX0 37 yX0_stripOf, Cond.static yX0_stripOf, Cond.code yX0_stripOf cX0_stripOf 2 (some .int), Cond.methodLink RX0 95 yX0_stripPlace, Cond.static yX0_stripPlace, Cond.code yX0_stripPlace cX0_stripPlace 2 (some .int), Cond.methodLink RX0 119 yX0_likenessOf, Cond.instanceMethod yX0_likenessOf]
def wsL_same_r2 : List Cond := [Cond.selects RX0 yX0_likenessOf yX0_likenessOf, Cond.code yX0_likenessOf cX0_likenessOf 3 (some .int), Cond.fieldLink RX0 9 "HarbourBoard" "isNumber" "[Z", Cond.methodLink RX0 98 yX0_isRelated, Cond.instanceMethod yX0_isRelated, Cond.selects RX0 yX0_isRelated yX0_isRelated, Cond.code yX0_isRelated cX0_isRelated 8 (some .boolean), Cond.fieldLink RX0 13 "HarbourBoard" "numbers" "[D"]
def wsL_same : List Cond := .codeWith yL_same cL_same 5 (some .int) [(0, 10, 13, 13)] :: ((wsL_same_r1 ++ wsL_same_r2) ++ wsX00 ++ (vx_atS RX0 63 "java/lang/IllegalArgumentException" ["java/lang/RuntimeException", "java/lang/Exception"]).filter goodWord)
def wsL_move_r1 : List Cond := [Cond.classLink RL 15 "java/lang/IllegalStateException", Cond.classLink RL 90 "java/lang/UnsupportedOperationException", Cond.classLink RL 92 "java/lang/ArithmeticException", Cond.methodLink RL 86 yX0_move, Cond.instanceMethod yX0_move, Cond.selects RX0 yX0_move yX0_move, Cond.initialized RX0, Cond.code yX0_move cX0_move 2 (some .int), Cond.classLink RX0 127 "java/lang/IllegalStateException", Cond.initialized "java/lang/IllegalStateException", Cond.fieldLink RX0 21 "HarbourBoard" "gateOpen" "Z", Cond.fieldLink RX0 25 "HarbourBoard" "moves" "I", Cond.methodLink RX0 132 yX0_needMayOpen, Cond.instanceMethod yX0_needMayOpen, Cond.selects RX0 yX0_needMayOpen yX0_needMayOpen, Cond.code yX0_needMayOpen cX0_needMayOpen 2 none, Cond.classLink RX0 155 "java/lang/UnsupportedOperationException", Cond.initialized "java/lang/UnsupportedOperationException", Cond.classLink RX0 160 "java/lang/ArithmeticException", Cond.initialized "java/lang/ArithmeticException", Cond.fieldLink RX0 9 "HarbourBoard" "isNumber" "[Z", Cond.methodLink RX0 102 yX0_latestPlace, Cond.instanceMethod yX0_latestPlace, Cond.selects RX0 yX0_latestPlace yX0_latestPlace]
def wsL_move_r2 : List Cond := [Cond.code yX0_latestPlace cX0_latestPlace 4 (some .int), Cond.fieldLink RX0 17 "HarbourBoard" "lengths" "[I", Cond.methodLink RX0 37 yX0_stripOf, Cond.static yX0_stripOf, Cond.code yX0_stripOf cX0_stripOf 2 (some .int), Cond.methodLink RX0 95 yX0_stripPlace, Cond.static yX0_stripPlace, Cond.code yX0_stripPlace cX0_stripPlace 2 (some .int), Cond.methodLink RX0 98 yX0_isRelated, Cond.instanceMethod yX0_isRelated, Cond.selects RX0 yX0_isRelated yX0_isRelated, Cond.code yX0_isRelated cX0_isRelated 8 (some .boolean), Cond.fieldLink RX0 13 "HarbourBoard" "numbers" "[D", Cond.methodLink RX0 66 yX0_markPlace, Cond.static yX0_markPlace, Cond.code yX0_markPlace cX0_markPlace 2 (some .int), Cond.methodLink RX0 135 yX0_needMayShut, Cond.instanceMethod yX0_needMayShut, Cond.selects RX0 yX0_needMayShut yX0_needMayShut, Cond.code yX0_needMayShut cX0_needMayShut 1 none]
def wsL_move : List Cond := .codeWith yL_move cL_move 4 (some .int) [(0, 9, 12, 15), (0, 9, 15, 90), (0, 9, 18, 92)] :: ((wsL_move_r1 ++ wsL_move_r2) ++ wsX00 ++ (vx_atS RX0 131 "java/lang/IllegalStateException" ["java/lang/RuntimeException", "java/lang/Exception"]).filter goodWord ++ (vx_atS RX0 159 "java/lang/UnsupportedOperationException" ["java/lang/RuntimeException", "java/lang/Exception"]).filter goodWord ++ (vx_atS RX0 164 "java/lang/ArithmeticException" ["java/lang/RuntimeException", "java/lang/Exception"]).filter goodWord)
def wsL_size : List Cond := .codeWith yL_size cL_size 5 (some .int) [(0, 10, 13, 13)] :: ([.classLink RL 13 "java/lang/IllegalArgumentException", .methodLink RL 94 yX0_size, .instanceMethod yX0_size, .selects RX0 yX0_size yX0_size, .initialized RX0, .code yX0_size cX0_size 3 (some .int), .fieldLink RX0 17 "HarbourBoard" "lengths" "[I", .methodLink RX0 29 yX0_needGauge, .static yX0_needGauge, .code yX0_needGauge cX0_needGauge 1 none, .classLink RX0 59 "java/lang/IllegalArgumentException", .initialized "java/lang/IllegalArgumentException", .methodLink RX0 49 yX0_needWhat, .static yX0_needWhat, .code yX0_needWhat cX0_needWhat 1 none, .methodLink RX0 37 yX0_stripOf, .static yX0_stripOf, .code yX0_stripOf cX0_stripOf 2 (some .int)] ++ wsX00 ++ (vx_atS RX0 63 "java/lang/IllegalArgumentException" ["java/lang/RuntimeException", "java/lang/Exception"]).filter goodWord)
def wsL_law0_r1 : List Cond := [Cond.classLink RL 8 RX0, Cond.instantiable RX0 5, Cond.initialized RX0, Cond.classLink RL 98 RX1, Cond.instantiable RX1 10, Cond.initialized RX1, Cond.arrayClass .long, Cond.arrayClass .double, Cond.constantDouble RL 101 (4593671619917905920), Cond.constantFloat RL 113 (1040187392), Cond.methodLink RL 97 yX0_init, Cond.instanceMethod yX0_init, Cond.code yX0_init cX0_init 1 none, Cond.methodLink RX0 3 objectInit, Cond.instanceMethod objectInit, Cond.code objectInit ⟨#[0xb1]⟩ 1 none, Cond.arrayClass .boolean, Cond.fieldLink RX0 9 "HarbourBoard" "isNumber" "[Z", Cond.fieldLink RX0 13 "HarbourBoard" "numbers" "[D", Cond.arrayClass .int, Cond.fieldLink RX0 17 "HarbourBoard" "lengths" "[I", Cond.fieldLink RX0 21 "HarbourBoard" "gateOpen" "Z", Cond.fieldLink RX0 25 "HarbourBoard" "moves" "I", Cond.methodLink RL 100 yX1_init]
def wsL_law0_r2 : List Cond := [Cond.instanceMethod yX1_init, Cond.code yX1_init cX1_init 1 none, Cond.methodLink RX1 1 objectInit, Cond.fieldLink RX1 7 "HarbourBoardModel" "value" "[D", Cond.fieldLink RX1 13 "HarbourBoardModel" "isOut" "[Z", Cond.fieldLink RX1 17 "HarbourBoardModel" "sizes" "[I", Cond.fieldLink RX1 21 "HarbourBoardModel" "markValue" "[D", Cond.fieldLink RX1 24 "HarbourBoardModel" "isSet" "[Z", Cond.fieldLink RX1 27 "HarbourBoardModel" "probeValue" "[D", Cond.fieldLink RX1 30 "HarbourBoardModel" "isProbed" "[Z", Cond.methodLink RL 103 yL_level, Cond.static yL_level, Cond.initialized RL, Cond.codeWith yL_level cL_level 6 (some .int) [(0, 11, 14, 13), (0, 11, 18, 15)], Cond.classLink RL 13 "java/lang/IllegalArgumentException", Cond.classLink RL 15 "java/lang/IllegalStateException", Cond.methodLink RL 7 yX0_level, Cond.instanceMethod yX0_level, Cond.selects RX0 yX0_level yX0_level, Cond.code yX0_level cX0_level 4 (some .int), Cond.methodLink RX0 29 yX0_needGauge, Cond.static yX0_needGauge, Cond.code yX0_needGauge cX0_needGauge 1 none, Cond.classLink RX0 59 "java/lang/IllegalArgumentException"]
def wsL_law0_r3 : List Cond := [Cond.initialized "java/lang/IllegalArgumentException", Cond.methodLink RX0 33 yX0_needLevel, Cond.static yX0_needLevel, Cond.code yX0_needLevel cX0_needLevel 2 none, Cond.constantDouble RX0 144 (13875379345695965184), Cond.constantDouble RX0 146 (4652007308841189376), Cond.methodLink RX0 37 yX0_stripOf, Cond.static yX0_stripOf, Cond.code yX0_stripOf cX0_stripOf 2 (some .int), Cond.methodLink RX0 41 yX0_appendNumber, Cond.instanceMethod yX0_appendNumber, Cond.selects RX0 yX0_appendNumber yX0_appendNumber, Cond.code yX0_appendNumber cX0_appendNumber 4 (some .int), Cond.methodLink RX0 169 yX0_needRoom, Cond.instanceMethod yX0_needRoom, Cond.selects RX0 yX0_needRoom yX0_needRoom, Cond.code yX0_needRoom cX0_needRoom 2 none, Cond.classLink RX0 127 "java/lang/IllegalStateException", Cond.initialized "java/lang/IllegalStateException", Cond.methodLink RX0 95 yX0_stripPlace, Cond.static yX0_stripPlace, Cond.code yX0_stripPlace cX0_stripPlace 2 (some .int), Cond.methodLink RX0 69 yX0_putNumber, Cond.instanceMethod yX0_putNumber]
def wsL_law0_r4 : List Cond := [Cond.selects RX0 yX0_putNumber yX0_putNumber, Cond.code yX0_putNumber cX0_putNumber 5 (some .boolean), Cond.methodLink RL 108 yX1_level, Cond.instanceMethod yX1_level, Cond.selects RX1 yX1_level yX1_level, Cond.code yX1_level cX1_level 5 (some .int), Cond.methodLink RX1 62 yX1_outside, Cond.static yX1_outside, Cond.code yX1_outside cX1_outside 2 (some .boolean), Cond.methodLink RX1 66 yX1_isLevel, Cond.static yX1_isLevel, Cond.code yX1_isLevel cX1_isLevel 2 (some .boolean), Cond.constantDouble RX1 37 (13875379345695965184), Cond.constantDouble RX1 39 (4652007308841189376), Cond.methodLink RX1 70 yX1_throwing, Cond.instanceMethod yX1_throwing, Cond.selects RX1 yX1_throwing yX1_throwing, Cond.code yX1_throwing cX1_throwing 4 (some .boolean), Cond.fieldLink RX1 33 "HarbourBoardModel" "thrown" "I", Cond.methodLink RX1 74 yX1_comes, Cond.instanceMethod yX1_comes, Cond.selects RX1 yX1_comes yX1_comes, Cond.code yX1_comes cX1_comes 6 (some .int), Cond.methodLink RL 109 yX1_thrown]
def wsL_law0_r5 : List Cond := [Cond.instanceMethod yX1_thrown, Cond.selects RX1 yX1_thrown yX1_thrown, Cond.code yX1_thrown cX1_thrown 1 (some .int), Cond.methodLink RL 114 yL_wind, Cond.static yL_wind, Cond.codeWith yL_wind cL_wind 5 (some .int) [(0, 10, 13, 13), (0, 10, 17, 15)], Cond.methodLink RL 17 yX0_wind, Cond.instanceMethod yX0_wind, Cond.selects RX0 yX0_wind yX0_wind, Cond.code yX0_wind cX0_wind 3 (some .int), Cond.methodLink RX0 45 yX0_needWind, Cond.static yX0_needWind, Cond.code yX0_needWind cX0_needWind 1 none, Cond.constantFloat RX0 150 (1128792064), Cond.methodLink RL 117 yX1_wind, Cond.instanceMethod yX1_wind, Cond.selects RX1 yX1_wind yX1_wind, Cond.code yX1_wind cX1_wind 4 (some .int), Cond.methodLink RX1 78 yX1_isWind, Cond.static yX1_isWind, Cond.code yX1_isWind cX1_isWind 2 (some .boolean), Cond.constantDouble RX1 41 (4641240890982006784), Cond.methodLink RL 118 yL_out, Cond.static yL_out]
def wsL_law0_r6 : List Cond := [Cond.codeWith yL_out cL_out 5 (some .int) [(0, 10, 13, 13), (0, 10, 17, 15)], Cond.methodLink RL 21 yX0_out, Cond.instanceMethod yX0_out, Cond.selects RX0 yX0_out yX0_out, Cond.code yX0_out cX0_out 3 (some .int), Cond.methodLink RX0 49 yX0_needWhat, Cond.static yX0_needWhat, Cond.code yX0_needWhat cX0_needWhat 1 none, Cond.methodLink RX0 52 yX0_appendOut, Cond.instanceMethod yX0_appendOut, Cond.selects RX0 yX0_appendOut yX0_appendOut, Cond.code yX0_appendOut cX0_appendOut 2 (some .int), Cond.methodLink RX0 75 yX0_putOut, Cond.instanceMethod yX0_putOut, Cond.selects RX0 yX0_putOut yX0_putOut, Cond.code yX0_putOut cX0_putOut 3 (some .boolean), Cond.methodLink RL 121 yX1_out, Cond.instanceMethod yX1_out, Cond.selects RX1 yX1_out yX1_out, Cond.code yX1_out cX1_out 4 (some .int), Cond.methodLink RL 122 yL_clear, Cond.static yL_clear, Cond.codeWith yL_clear cL_clear 4 (some .int) [(0, 9, 12, 13)], Cond.methodLink RL 25 yX0_clear]
def wsL_law0_r7 : List Cond := [Cond.instanceMethod yX0_clear, Cond.selects RX0 yX0_clear yX0_clear, Cond.code yX0_clear cX0_clear 2 (some .int), Cond.methodLink RX0 56 yX0_emptyStrip, Cond.instanceMethod yX0_emptyStrip, Cond.selects RX0 yX0_emptyStrip yX0_emptyStrip, Cond.code yX0_emptyStrip cX0_emptyStrip 3 (some .int), Cond.methodLink RL 125 yX1_clear, Cond.instanceMethod yX1_clear, Cond.selects RX1 yX1_clear yX1_clear, Cond.code yX1_clear cX1_clear 3 (some .int), Cond.methodLink RL 126 yL_mark, Cond.static yL_mark, Cond.codeWith yL_mark cL_mark 7 (some .int) [(0, 19, 22, 13)], Cond.methodLink RL 29 yX0_mark, Cond.instanceMethod yX0_mark, Cond.selects RX0 yX0_mark yX0_mark, Cond.code yX0_mark cX0_mark 5 (some .boolean), Cond.methodLink RX0 66 yX0_markPlace, Cond.static yX0_markPlace, Cond.code yX0_markPlace cX0_markPlace 2 (some .int), Cond.methodLink RL 129 yX1_mark, Cond.instanceMethod yX1_mark, Cond.selects RX1 yX1_mark yX1_mark]
def wsL_law0_r8 : List Cond := [Cond.code yX1_mark cX1_mark 5 (some .boolean), Cond.methodLink RX1 81 yX1_marks, Cond.instanceMethod yX1_marks, Cond.selects RX1 yX1_marks yX1_marks, Cond.code yX1_marks cX1_marks 6 (some .boolean), Cond.methodLink RL 130 yL_gale, Cond.static yL_gale, Cond.codeWith yL_gale cL_gale 5 (some .int) [(0, 17, 20, 13)], Cond.methodLink RL 33 yX0_gale, Cond.instanceMethod yX0_gale, Cond.selects RX0 yX0_gale yX0_gale, Cond.code yX0_gale cX0_gale 3 (some .boolean), Cond.methodLink RL 132 yX1_gale, Cond.instanceMethod yX1_gale, Cond.selects RX1 yX1_gale yX1_gale, Cond.code yX1_gale cX1_gale 3 (some .boolean), Cond.methodLink RL 133 yL_lift, Cond.static yL_lift, Cond.codeWith yL_lift cL_lift 5 (some .int) [(0, 17, 20, 13)], Cond.methodLink RL 37 yX0_lift, Cond.instanceMethod yX0_lift, Cond.selects RX0 yX0_lift yX0_lift, Cond.code yX0_lift cX0_lift 3 (some .boolean), Cond.methodLink RL 135 yX1_lift]
def wsL_law0_r9 : List Cond := [Cond.instanceMethod yX1_lift, Cond.selects RX1 yX1_lift yX1_lift, Cond.code yX1_lift cX1_lift 3 (some .boolean), Cond.methodLink RL 136 yL_probe, Cond.static yL_probe, Cond.codeWith yL_probe cL_probe 5 (some .int) [(0, 9, 12, 13)], Cond.methodLink RL 41 yX0_probe, Cond.instanceMethod yX0_probe, Cond.selects RX0 yX0_probe yX0_probe, Cond.code yX0_probe cX0_probe 3 (some .int), Cond.methodLink RX0 79 yX0_probePlace, Cond.static yX0_probePlace, Cond.code yX0_probePlace cX0_probePlace 1 (some .int), Cond.methodLink RX0 82 yX0_gaugesRelatedToProbe, Cond.instanceMethod yX0_gaugesRelatedToProbe, Cond.selects RX0 yX0_gaugesRelatedToProbe yX0_gaugesRelatedToProbe, Cond.code yX0_gaugesRelatedToProbe cX0_gaugesRelatedToProbe 5 (some .int), Cond.methodLink RX0 102 yX0_latestPlace, Cond.instanceMethod yX0_latestPlace, Cond.selects RX0 yX0_latestPlace yX0_latestPlace, Cond.code yX0_latestPlace cX0_latestPlace 4 (some .int), Cond.methodLink RX0 98 yX0_isRelated, Cond.instanceMethod yX0_isRelated, Cond.selects RX0 yX0_isRelated yX0_isRelated]
def wsL_law0_r10 : List Cond := [Cond.code yX0_isRelated cX0_isRelated 8 (some .boolean), Cond.methodLink RL 139 yX1_probe, Cond.instanceMethod yX1_probe, Cond.selects RX1 yX1_probe yX1_probe, Cond.code yX1_probe cX1_probe 3 (some .int), Cond.methodLink RX1 88 yX1_probes, Cond.instanceMethod yX1_probes, Cond.selects RX1 yX1_probes yX1_probes, Cond.code yX1_probes cX1_probes 9 (some .int), Cond.methodLink RX1 50 yX1_latestOut, Cond.instanceMethod yX1_latestOut, Cond.selects RX1 yX1_latestOut yX1_latestOut, Cond.code yX1_latestOut cX1_latestOut 2 (some .boolean), Cond.methodLink RX1 47 yX1_latest, Cond.instanceMethod yX1_latest, Cond.selects RX1 yX1_latest yX1_latest, Cond.code yX1_latest cX1_latest 2 (some .int), Cond.methodLink RX1 54 yX1_latestValue, Cond.instanceMethod yX1_latestValue, Cond.selects RX1 yX1_latestValue yX1_latestValue, Cond.code yX1_latestValue cX1_latestValue 2 (some .double), Cond.methodLink RX1 58 yX1_way, Cond.static yX1_way, Cond.code yX1_way cX1_way 5 (some .int)]
def wsL_law0_r11 : List Cond := [Cond.methodLink RX1 85 yX1_is, Cond.static yX1_is, Cond.code yX1_is cX1_is 2 (some .boolean), Cond.methodLink RX1 43 yX1_ways, Cond.static yX1_ways, Cond.code yX1_ways cX1_ways 1 (some .int), Cond.methodLink RL 140 yL_probeWind, Cond.static yL_probeWind, Cond.codeWith yL_probeWind cL_probeWind 4 (some .int) [(0, 9, 12, 13)], Cond.methodLink RL 45 yX0_probeWind, Cond.instanceMethod yX0_probeWind, Cond.selects RX0 yX0_probeWind yX0_probeWind, Cond.code yX0_probeWind cX0_probeWind 2 (some .int), Cond.methodLink RL 143 yX1_probeWind, Cond.instanceMethod yX1_probeWind, Cond.selects RX1 yX1_probeWind yX1_probeWind, Cond.code yX1_probeWind cX1_probeWind 2 (some .int), Cond.methodLink RL 144 yL_probeOut, Cond.static yL_probeOut, Cond.codeWith yL_probeOut cL_probeOut 4 (some .int) [(0, 9, 12, 13)], Cond.methodLink RL 49 yX0_probeOut, Cond.instanceMethod yX0_probeOut, Cond.selects RX0 yX0_probeOut yX0_probeOut, Cond.code yX0_probeOut cX0_probeOut 2 (some .int)]
def wsL_law0_r12 : List Cond := [Cond.methodLink RL 146 yX1_probeOut, Cond.instanceMethod yX1_probeOut, Cond.selects RX1 yX1_probeOut yX1_probeOut, Cond.code yX1_probeOut cX1_probeOut 2 (some .int), Cond.methodLink RL 147 yL_run, Cond.static yL_run, Cond.codeWith yL_run cL_run 7 (some .int) [(0, 14, 17, 13)], Cond.methodLink RL 52 yX0_run, Cond.instanceMethod yX0_run, Cond.selects RX0 yX0_run yX0_run, Cond.code yX0_run cX0_run 7 (some .int), Cond.methodLink RX0 85 yX0_needRelation, Cond.static yX0_needRelation, Cond.code yX0_needRelation cX0_needRelation 1 none, Cond.methodLink RX0 88 yX0_runBack, Cond.instanceMethod yX0_runBack, Cond.selects RX0 yX0_runBack yX0_runBack, Cond.code yX0_runBack cX0_runBack 6 (some .int), Cond.methodLink RX0 92 yX0_runAhead, Cond.instanceMethod yX0_runAhead, Cond.selects RX0 yX0_runAhead yX0_runAhead, Cond.code yX0_runAhead cX0_runAhead 5 (some .int), Cond.methodLink RL 150 yX1_run, Cond.instanceMethod yX1_run]
def wsL_law0_r13 : List Cond := [Cond.selects RX1 yX1_run yX1_run, Cond.code yX1_run cX1_run 10 (some .int), Cond.methodLink RX1 92 yX1_probeWay, Cond.instanceMethod yX1_probeWay, Cond.selects RX1 yX1_probeWay yX1_probeWay, Cond.code yX1_probeWay cX1_probeWay 3 (some .int), Cond.methodLink RL 151 yL_count, Cond.static yL_count, Cond.codeWith yL_count cL_count 7 (some .int) [(0, 14, 17, 13)], Cond.methodLink RL 56 yX0_count, Cond.instanceMethod yX0_count, Cond.selects RX0 yX0_count yX0_count, Cond.code yX0_count cX0_count 8 (some .int), Cond.methodLink RL 153 yX1_count, Cond.instanceMethod yX1_count, Cond.selects RX1 yX1_count yX1_count, Cond.code yX1_count cX1_count 8 (some .int), Cond.methodLink RL 154 yL_holds, Cond.static yL_holds, Cond.codeWith yL_holds cL_holds 7 (some .int) [(0, 21, 24, 13)], Cond.methodLink RL 59 yX0_holds, Cond.instanceMethod yX0_holds, Cond.selects RX0 yX0_holds yX0_holds, Cond.code yX0_holds cX0_holds 5 (some .boolean)]
def wsL_law0_r14 : List Cond := [Cond.methodLink RL 157 yX1_holds, Cond.instanceMethod yX1_holds, Cond.selects RX1 yX1_holds yX1_holds, Cond.code yX1_holds cX1_holds 5 (some .boolean), Cond.methodLink RX1 96 yX1_latestWay, Cond.instanceMethod yX1_latestWay, Cond.selects RX1 yX1_latestWay yX1_latestWay, Cond.code yX1_latestWay cX1_latestWay 3 (some .int), Cond.methodLink RL 158 yL_pick, Cond.static yL_pick, Cond.codeWith yL_pick cL_pick 7 (some .int) [(0, 14, 17, 13)], Cond.methodLink RL 63 yX0_pick, Cond.instanceMethod yX0_pick, Cond.selects RX0 yX0_pick yX0_pick, Cond.code yX0_pick cX0_pick 7 (some .int), Cond.methodLink RL 160 yX1_pick, Cond.instanceMethod yX1_pick, Cond.selects RX1 yX1_pick yX1_pick, Cond.code yX1_pick cX1_pick 7 (some .int), Cond.methodLink RL 161 yL_stand, Cond.static yL_stand, Cond.codeWith yL_stand cL_stand 4 (some .int) [(0, 9, 12, 13)], Cond.methodLink RL 67 yX0_stand, Cond.instanceMethod yX0_stand]
def wsL_law0_r15 : List Cond := [Cond.selects RX0 yX0_stand yX0_stand, Cond.code yX0_stand cX0_stand 2 (some .int), Cond.methodLink RX0 105 yX0_standOfLevel, Cond.instanceMethod yX0_standOfLevel, Cond.selects RX0 yX0_standOfLevel yX0_standOfLevel, Cond.code yX0_standOfLevel cX0_standOfLevel 5 (some .int), Cond.methodLink RX0 108 yX0_standOfWind, Cond.instanceMethod yX0_standOfWind, Cond.selects RX0 yX0_standOfWind yX0_standOfWind, Cond.code yX0_standOfWind cX0_standOfWind 4 (some .int), Cond.methodLink RL 163 yX1_stand, Cond.instanceMethod yX1_stand, Cond.selects RX1 yX1_stand yX1_stand, Cond.code yX1_stand cX1_stand 4 (some .int), Cond.methodLink RX1 99 yX1_markWay, Cond.instanceMethod yX1_markWay, Cond.selects RX1 yX1_markWay yX1_markWay, Cond.code yX1_markWay cX1_markWay 3 (some .int), Cond.methodLink RX1 102 yX1_levelStand, Cond.instanceMethod yX1_levelStand, Cond.selects RX1 yX1_levelStand yX1_levelStand, Cond.code yX1_levelStand cX1_levelStand 4 (some .int), Cond.methodLink RL 164 yL_order, Cond.static yL_order]
def wsL_law0_r16 : List Cond := [Cond.codeWith yL_order cL_order 4 (some .int) [(0, 9, 12, 13)], Cond.methodLink RL 70 yX0_order, Cond.instanceMethod yX0_order, Cond.selects RX0 yX0_order yX0_order, Cond.code yX0_order cX0_order 4 (some .int), Cond.methodLink RX0 113 yX0_gaugesAheadOf, Cond.instanceMethod yX0_gaugesAheadOf, Cond.selects RX0 yX0_gaugesAheadOf yX0_gaugesAheadOf, Cond.code yX0_gaugesAheadOf cX0_gaugesAheadOf 4 (some .int), Cond.methodLink RX0 172 yX0_isAhead, Cond.instanceMethod yX0_isAhead, Cond.selects RX0 yX0_isAhead yX0_isAhead, Cond.code yX0_isAhead cX0_isAhead 5 (some .boolean), Cond.methodLink RX0 119 yX0_likenessOf, Cond.instanceMethod yX0_likenessOf, Cond.selects RX0 yX0_likenessOf yX0_likenessOf, Cond.code yX0_likenessOf cX0_likenessOf 3 (some .int), Cond.methodLink RL 166 yX1_order, Cond.instanceMethod yX1_order, Cond.selects RX1 yX1_order yX1_order, Cond.code yX1_order cX1_order 6 (some .int), Cond.methodLink RX1 105 yX1_isAhead, Cond.instanceMethod yX1_isAhead, Cond.selects RX1 yX1_isAhead yX1_isAhead]
def wsL_law0_r17 : List Cond := [Cond.code yX1_isAhead cX1_isAhead 6 (some .boolean), Cond.methodLink RL 167 yL_highest, Cond.static yL_highest, Cond.codeWith yL_highest cL_highest 4 (some .int) [(0, 8, 11, 13), (0, 8, 14, 77)], Cond.classLink RL 77 "java/util/NoSuchElementException", Cond.methodLink RL 73 yX0_highest, Cond.instanceMethod yX0_highest, Cond.selects RX0 yX0_highest yX0_highest, Cond.code yX0_highest cX0_highest 2 (some .double), Cond.methodLink RX0 116 yX0_extremePlace, Cond.instanceMethod yX0_extremePlace, Cond.selects RX0 yX0_extremePlace yX0_extremePlace, Cond.code yX0_extremePlace cX0_extremePlace 7 (some .int), Cond.classLink RX0 176 "java/util/NoSuchElementException", Cond.initialized "java/util/NoSuchElementException", Cond.methodLink RL 170 yX1_highest, Cond.instanceMethod yX1_highest, Cond.selects RX1 yX1_highest yX1_highest, Cond.code yX1_highest cX1_highest 4 (some .double), Cond.methodLink RX1 108 yX1_best, Cond.instanceMethod yX1_best, Cond.selects RX1 yX1_best yX1_best, Cond.code yX1_best cX1_best 6 (some .int), Cond.methodLink RL 171 yL_calmest]
def wsL_law0_r18 : List Cond := [Cond.static yL_calmest, Cond.codeWith yL_calmest cL_calmest 4 (some .int) [(0, 9, 12, 13), (0, 9, 15, 77)], Cond.methodLink RL 79 yX0_calmest, Cond.instanceMethod yX0_calmest, Cond.selects RX0 yX0_calmest yX0_calmest, Cond.code yX0_calmest cX0_calmest 2 (some .float), Cond.methodLink RL 173 yX1_calmest, Cond.instanceMethod yX1_calmest, Cond.selects RX1 yX1_calmest yX1_calmest, Cond.code yX1_calmest cX1_calmest 4 (some .float), Cond.methodLink RL 174 yL_same, Cond.static yL_same, Cond.codeWith yL_same cL_same 5 (some .int) [(0, 10, 13, 13)], Cond.methodLink RL 83 yX0_same, Cond.instanceMethod yX0_same, Cond.selects RX0 yX0_same yX0_same, Cond.code yX0_same cX0_same 7 (some .int), Cond.methodLink RX0 122 Lib.Math.min.name, Cond.static Lib.Math.min.name, Cond.initialized "java/lang/Math", Cond.code Lib.Math.min.name Lib.Math.min.code 2 (some .int), Cond.methodLink RL 176 yX1_same, Cond.instanceMethod yX1_same, Cond.selects RX1 yX1_same yX1_same]
def wsL_law0_r19 : List Cond := [Cond.code yX1_same cX1_same 9 (some .int), Cond.methodLink RL 177 yL_move, Cond.static yL_move, Cond.codeWith yL_move cL_move 4 (some .int) [(0, 9, 12, 15), (0, 9, 15, 90), (0, 9, 18, 92)], Cond.classLink RL 90 "java/lang/UnsupportedOperationException", Cond.classLink RL 92 "java/lang/ArithmeticException", Cond.methodLink RL 86 yX0_move, Cond.instanceMethod yX0_move, Cond.selects RX0 yX0_move yX0_move, Cond.code yX0_move cX0_move 2 (some .int), Cond.methodLink RX0 132 yX0_needMayOpen, Cond.instanceMethod yX0_needMayOpen, Cond.selects RX0 yX0_needMayOpen yX0_needMayOpen, Cond.code yX0_needMayOpen cX0_needMayOpen 2 none, Cond.classLink RX0 155 "java/lang/UnsupportedOperationException", Cond.initialized "java/lang/UnsupportedOperationException", Cond.classLink RX0 160 "java/lang/ArithmeticException", Cond.initialized "java/lang/ArithmeticException", Cond.methodLink RX0 135 yX0_needMayShut, Cond.instanceMethod yX0_needMayShut, Cond.selects RX0 yX0_needMayShut yX0_needMayShut, Cond.code yX0_needMayShut cX0_needMayShut 1 none, Cond.methodLink RL 180 yX1_move, Cond.instanceMethod yX1_move]
def wsL_law0_r20 : List Cond := [Cond.selects RX1 yX1_move yX1_move, Cond.code yX1_move cX1_move 9 (some .int), Cond.fieldLink RX1 111 "HarbourBoardModel" "isOpen" "Z", Cond.fieldLink RX1 115 "HarbourBoardModel" "moves" "I", Cond.methodLink RL 181 yL_size, Cond.static yL_size, Cond.codeWith yL_size cL_size 5 (some .int) [(0, 10, 13, 13)], Cond.methodLink RL 94 yX0_size, Cond.instanceMethod yX0_size, Cond.selects RX0 yX0_size yX0_size, Cond.code yX0_size cX0_size 3 (some .int), Cond.methodLink RL 183 yX1_size, Cond.instanceMethod yX1_size, Cond.selects RX1 yX1_size yX1_size, Cond.code yX1_size cX1_size 3 (some .int)]
def wsL_law0 : List Cond := (wsL_law0_r1 ++ (wsL_law0_r2 ++ (wsL_law0_r3 ++ (wsL_law0_r4 ++ (wsL_law0_r5 ++ (wsL_law0_r6 ++ (wsL_law0_r7 ++ (wsL_law0_r8 ++ (wsL_law0_r9 ++ (wsL_law0_r10 ++ (wsL_law0_r11 ++ (wsL_law0_r12 ++ (wsL_law0_r13 ++ (wsL_law0_r14 ++ (wsL_law0_r15 ++ (wsL_law0_r16 ++ (wsL_law0_r17 ++ (wsL_law0_r18 ++ (wsL_law0_r19 ++ wsL_law0_r20))))))))))))))))))) ++ wsX00 ++ wsX10 ++ ([] : List Cond)
def wsL_law : List Cond := wsL_law0 ++ (vx_atS RX0 63 "java/lang/IllegalArgumentException" ["java/lang/RuntimeException", "java/lang/Exception"]).filter goodWord ++ (vx_atS RX0 131 "java/lang/IllegalStateException" ["java/lang/RuntimeException", "java/lang/Exception"]).filter goodWord ++ cy_at.filter goodWord ++ (vx_atS RX0 159 "java/lang/UnsupportedOperationException" ["java/lang/RuntimeException", "java/lang/Exception"]).filter goodWord ++ (vx_atS RX0 164 "java/lang/ArithmeticException" ["java/lang/RuntimeException", "java/lang/Exception"]).filter goodWord
end
section
theorem in_at {ws big : List Cond} (ps : List Nat) (h : ws = ps.filterMap (fun i => big[i]?)) : ∀ w ∈ ws, w ∈ big := by
  intro w hw
  rw [h] at hw
  obtain ⟨i, -, hi⟩ := List.mem_filterMap.mp hw
  exact List.mem_of_getElem? hi
set_option maxRecDepth 20000 in
theorem in_wsL_law0_r1 : ∀ w ∈ wsL_law0_r1, w ∈ lw_tbl := in_at [46, 47, 34, 483, 484, 35, 683, 71, 681, 682, 48, 49, 50, 51, 52, 53, 70, 54, 55, 72, 56, 57, 58, 485] (by decide +kernel)
set_option maxRecDepth 20000 in
theorem in_wsL_law0_r2 : ∀ w ∈ wsL_law0_r2, w ∈ lw_tbl := in_at [486, 487, 488, 490, 491, 492, 493, 494, 495, 496, 73, 74, 33, 75, 76, 77, 78, 79, 80, 81, 82, 83, 84, 85] (by decide +kernel)
set_option maxRecDepth 20000 in
theorem in_wsL_law0_r3 : ∀ w ∈ wsL_law0_r3, w ∈ lw_tbl := in_at [39, 155, 156, 157, 158, 159, 161, 162, 163, 164, 166, 1, 167, 168, 170, 2, 171, 172, 40, 188, 189, 190, 191, 193] (by decide +kernel)
set_option maxRecDepth 20000 in
theorem in_wsL_law0_r4 : ∀ w ∈ wsL_law0_r4, w ∈ lw_tbl := in_at [3, 194, 524, 525, 526, 527, 528, 529, 530, 531, 532, 533, 534, 535, 536, 538, 20, 539, 489, 540, 542, 21, 543, 520] (by decide +kernel)
set_option maxRecDepth 20000 in
theorem in_wsL_law0_r5 : ∀ w ∈ wsL_law0_r5, w ∈ lw_tbl := in_at [521, 522, 523, 195, 196, 197, 198, 199, 200, 201, 202, 203, 204, 205, 544, 545, 546, 547, 548, 549, 550, 551, 207, 208] (by decide +kernel)
set_option maxRecDepth 20000 in
theorem in_wsL_law0_r6 : ∀ w ∈ wsL_law0_r6, w ∈ lw_tbl := in_at [209, 210, 211, 212, 213, 214, 215, 216, 218, 220, 4, 221, 222, 224, 5, 225, 552, 553, 554, 555, 226, 227, 228, 229] (by decide +kernel)
set_option maxRecDepth 20000 in
theorem in_wsL_law0_r7 : ∀ w ∈ wsL_law0_r7, w ∈ lw_tbl := in_at [230, 231, 232, 233, 235, 6, 236, 556, 557, 558, 559, 237, 238, 239, 240, 241, 242, 243, 245, 246, 247, 560, 561, 562] (by decide +kernel)
set_option maxRecDepth 20000 in
theorem in_wsL_law0_r8 : ∀ w ∈ wsL_law0_r8, w ∈ lw_tbl := in_at [563, 564, 566, 22, 567, 248, 249, 250, 251, 252, 253, 254, 568, 569, 570, 571, 255, 256, 257, 258, 259, 260, 261, 572] (by decide +kernel)
set_option maxRecDepth 20000 in
theorem in_wsL_law0_r9 : ∀ w ∈ wsL_law0_r9, w ∈ lw_tbl := in_at [573, 574, 575, 263, 264, 265, 266, 267, 268, 269, 270, 271, 272, 273, 275, 7, 276, 277, 279, 8, 280, 281, 283, 9] (by decide +kernel)
set_option maxRecDepth 20000 in
theorem in_wsL_law0_r10 : ∀ w ∈ wsL_law0_r10, w ∈ lw_tbl := in_at [284, 576, 577, 578, 579, 580, 582, 23, 583, 584, 586, 24, 587, 588, 590, 25, 591, 592, 594, 26, 595, 596, 597, 598] (by decide +kernel)
set_option maxRecDepth 20000 in
theorem in_wsL_law0_r11 : ∀ w ∈ wsL_law0_r11, w ∈ lw_tbl := in_at [599, 600, 601, 602, 603, 604, 285, 286, 287, 288, 289, 290, 291, 605, 606, 607, 608, 292, 293, 294, 295, 296, 297, 298] (by decide +kernel)
set_option maxRecDepth 20000 in
theorem in_wsL_law0_r12 : ∀ w ∈ wsL_law0_r12, w ∈ lw_tbl := in_at [609, 610, 611, 612, 299, 300, 301, 302, 303, 304, 305, 306, 307, 308, 310, 312, 10, 313, 314, 316, 11, 317, 613, 614] (by decide +kernel)
set_option maxRecDepth 20000 in
theorem in_wsL_law0_r13 : ∀ w ∈ wsL_law0_r13, w ∈ lw_tbl := in_at [615, 616, 617, 619, 27, 620, 318, 319, 320, 321, 322, 323, 324, 621, 622, 623, 624, 325, 326, 327, 328, 329, 330, 331] (by decide +kernel)
set_option maxRecDepth 20000 in
theorem in_wsL_law0_r14 : ∀ w ∈ wsL_law0_r14, w ∈ lw_tbl := in_at [625, 626, 627, 628, 629, 631, 28, 632, 332, 333, 334, 335, 336, 337, 338, 633, 634, 635, 636, 339, 340, 341, 342, 343] (by decide +kernel)
set_option maxRecDepth 20000 in
theorem in_wsL_law0_r15 : ∀ w ∈ wsL_law0_r15, w ∈ lw_tbl := in_at [344, 345, 346, 348, 12, 349, 350, 352, 13, 353, 637, 638, 639, 640, 641, 643, 29, 644, 645, 647, 30, 648, 354, 355] (by decide +kernel)
set_option maxRecDepth 20000 in
theorem in_wsL_law0_r16 : ∀ w ∈ wsL_law0_r16, w ∈ lw_tbl := in_at [356, 357, 358, 359, 360, 362, 364, 14, 365, 366, 368, 15, 369, 370, 372, 16, 373, 649, 650, 651, 652, 653, 655, 31] (by decide +kernel)
set_option maxRecDepth 20000 in
theorem in_wsL_law0_r17 : ∀ w ∈ wsL_law0_r17, w ∈ lw_tbl := in_at [656, 374, 375, 376, 377, 378, 379, 380, 381, 382, 384, 17, 385, 386, 41, 657, 658, 659, 660, 661, 663, 32, 664, 402] (by decide +kernel)
set_option maxRecDepth 20000 in
theorem in_wsL_law0_r18 : ∀ w ∈ wsL_law0_r18, w ∈ lw_tbl := in_at [403, 404, 405, 406, 407, 408, 665, 666, 667, 668, 409, 410, 411, 412, 413, 414, 415, 416, 417, 42, 418, 669, 670, 671] (by decide +kernel)
set_option maxRecDepth 20000 in
theorem in_wsL_law0_r19 : ∀ w ∈ wsL_law0_r19, w ∈ lw_tbl := in_at [672, 419, 420, 421, 422, 423, 442, 443, 444, 445, 447, 449, 18, 450, 451, 45, 467, 43, 470, 472, 19, 473, 673, 674] (by decide +kernel)
set_option maxRecDepth 20000 in
theorem in_wsL_law0_r20 : ∀ w ∈ wsL_law0_r20, w ∈ lw_tbl := in_at [675, 676, 497, 498, 476, 477, 478, 479, 480, 481, 482, 677, 678, 679, 680] (by decide +kernel)
theorem in_X0 : ∀ w ∈ wsX00, w ∈ lw_tbl := by decide +kernel
theorem in_X1 : ∀ w ∈ wsX10, w ∈ lw_tbl := by decide +kernel
theorem wsL_law_in0 : ∀ w ∈ wsL_law0, w ∈ lw_tbl := fun w h => (List.mem_append.mp h).elim (fun h => (List.mem_append.mp h).elim (fun h => (List.mem_append.mp h).elim (fun h => (List.mem_append.mp h).elim (fun h => in_wsL_law0_r1 w h) (fun h => (List.mem_append.mp h).elim (fun h => in_wsL_law0_r2 w h) (fun h => (List.mem_append.mp h).elim (fun h => in_wsL_law0_r3 w h) (fun h => (List.mem_append.mp h).elim (fun h => in_wsL_law0_r4 w h) (fun h => (List.mem_append.mp h).elim (fun h => in_wsL_law0_r5 w h) (fun h => (List.mem_append.mp h).elim (fun h => in_wsL_law0_r6 w h) (fun h => (List.mem_append.mp h).elim (fun h => in_wsL_law0_r7 w h) (fun h => (List.mem_append.mp h).elim (fun h => in_wsL_law0_r8 w h) (fun h => (List.mem_append.mp h).elim (fun h => in_wsL_law0_r9 w h) (fun h => (List.mem_append.mp h).elim (fun h => in_wsL_law0_r10 w h) (fun h => (List.mem_append.mp h).elim (fun h => in_wsL_law0_r11 w h) (fun h => (List.mem_append.mp h).elim (fun h => in_wsL_law0_r12 w h) (fun h => (List.mem_append.mp h).elim (fun h => in_wsL_law0_r13 w h) (fun h => (List.mem_append.mp h).elim (fun h => in_wsL_law0_r14 w h) (fun h => (List.mem_append.mp h).elim (fun h => in_wsL_law0_r15 w h) (fun h => (List.mem_append.mp h).elim (fun h => in_wsL_law0_r16 w h) (fun h => (List.mem_append.mp h).elim (fun h => in_wsL_law0_r17 w h) (fun h => (List.mem_append.mp h).elim (fun h => in_wsL_law0_r18 w h) (fun h => (List.mem_append.mp h).elim (fun h => in_wsL_law0_r19 w h) (fun h => in_wsL_law0_r20 w h)))))))))))))))))))) (fun h => in_X0 w h)) (fun h => in_X1 w h)) (fun h => absurd h List.not_mem_nil)
theorem wsL_law_x0 : ∀ w ∈ (vx_atS RX0 63 "java/lang/IllegalArgumentException" ["java/lang/RuntimeException", "java/lang/Exception"]).filter goodWord, w ∈ lw_tbl := by decide +kernel
theorem wsL_law_x1 : ∀ w ∈ (vx_atS RX0 131 "java/lang/IllegalStateException" ["java/lang/RuntimeException", "java/lang/Exception"]).filter goodWord, w ∈ lw_tbl := by decide +kernel
theorem wsL_law_x2 : ∀ w ∈ cy_at.filter goodWord, w ∈ lw_tbl := by decide +kernel
theorem wsL_law_x3 : ∀ w ∈ (vx_atS RX0 159 "java/lang/UnsupportedOperationException" ["java/lang/RuntimeException", "java/lang/Exception"]).filter goodWord, w ∈ lw_tbl := by decide +kernel
theorem wsL_law_x4 : ∀ w ∈ (vx_atS RX0 164 "java/lang/ArithmeticException" ["java/lang/RuntimeException", "java/lang/Exception"]).filter goodWord, w ∈ lw_tbl := by decide +kernel
theorem wsL_law_in : ∀ w ∈ wsL_law, w ∈ lw_tbl := fun w h => (List.mem_append.mp h).elim (fun h => (List.mem_append.mp h).elim (fun h => (List.mem_append.mp h).elim (fun h => (List.mem_append.mp h).elim (fun h => (List.mem_append.mp h).elim (fun h => wsL_law_in0 w h) (fun h => wsL_law_x0 w h)) (fun h => wsL_law_x1 w h)) (fun h => wsL_law_x2 w h)) (fun h => wsL_law_x3 w h)) (fun h => wsL_law_x4 w h)
theorem inlX0 : ∀ w ∈ wsX00, w ∈ wsL_law := fun _ h => List.mem_append_left _ (List.mem_append_left _ (List.mem_append_left _ (List.mem_append_left _ (List.mem_append_left _ (List.mem_append_left _ (List.mem_append_left _ (List.mem_append_right _ h)))))))
theorem inX0 : ∀ w ∈ wsX00, w ∈ lw_tbl := fun w h => wsL_law_in w (inlX0 w h)
theorem inlX1 : ∀ w ∈ wsX10, w ∈ wsL_law := fun _ h => List.mem_append_left _ (List.mem_append_left _ (List.mem_append_left _ (List.mem_append_left _ (List.mem_append_left _ (List.mem_append_left _ (List.mem_append_right _ h))))))
theorem inX1 : ∀ w ∈ wsX10, w ∈ lw_tbl := fun w h => wsL_law_in w (inlX1 w h)
theorem inJx145de : ∀ w ∈ wsJx145de0, w ∈ lw_tbl := by decide +kernel
theorem inJ9 : ∀ w ∈ wsJ90, w ∈ lw_tbl := by decide +kernel
theorem inJ0 : ∀ w ∈ wsJ00, w ∈ lw_tbl := by decide +kernel
end
section
theorem dX0_init_0 : decode cX0_init 0 = .ok (.aload_n 0, 1) := by decide +kernel
theorem dX0_init_1 : decode cX0_init 1 = .ok (.invokespecial 3, 3) := by decide +kernel
theorem dX0_init_4 : decode cX0_init 4 = .ok (.aload_n 0, 1) := by decide +kernel
theorem dX0_init_5 : decode cX0_init 5 = .ok (.sipush 165, 3) := by decide +kernel
theorem dX0_init_8 : decode cX0_init 8 = .ok (.newarray .boolean, 2) := by decide +kernel
theorem dX0_init_10 : decode cX0_init 10 = .ok (.putfield 9, 3) := by decide +kernel
theorem dX0_init_13 : decode cX0_init 13 = .ok (.aload_n 0, 1) := by decide +kernel
theorem dX0_init_14 : decode cX0_init 14 = .ok (.sipush 165, 3) := by decide +kernel
theorem dX0_init_17 : decode cX0_init 17 = .ok (.newarray .double, 2) := by decide +kernel
theorem dX0_init_19 : decode cX0_init 19 = .ok (.putfield 13, 3) := by decide +kernel
theorem dX0_init_22 : decode cX0_init 22 = .ok (.aload_n 0, 1) := by decide +kernel
theorem dX0_init_23 : decode cX0_init 23 = .ok (.bipush 12, 2) := by decide +kernel
theorem dX0_init_25 : decode cX0_init 25 = .ok (.newarray .int, 2) := by decide +kernel
theorem dX0_init_27 : decode cX0_init 27 = .ok (.putfield 17, 3) := by decide +kernel
theorem dX0_init_30 : decode cX0_init 30 = .ok (.aload_n 0, 1) := by decide +kernel
theorem dX0_init_31 : decode cX0_init 31 = .ok (.iconst 0, 1) := by decide +kernel
theorem dX0_init_32 : decode cX0_init 32 = .ok (.putfield 21, 3) := by decide +kernel
theorem dX0_init_35 : decode cX0_init 35 = .ok (.aload_n 0, 1) := by decide +kernel
theorem dX0_init_36 : decode cX0_init 36 = .ok (.iconst 0, 1) := by decide +kernel
theorem dX0_init_37 : decode cX0_init 37 = .ok (.putfield 25, 3) := by decide +kernel
theorem dX0_init_40 : decode cX0_init 40 = .ok (.return_, 1) := by decide +kernel
set_option maxRecDepth 20000 in
theorem ggX0_level_X0_needGauge : GoodIn wsX0_level wsX0_needGauge := goodIn_ca (goodIn_r _ [4, 5, 6] (by decide +kernel) (by decide +kernel)) (goodIn_sub (fun _ h => List.mem_cons_of_mem _ (List.mem_append_left _ (List.mem_append_right _ h))) (by decide +kernel))
set_option maxRecDepth 20000 in
theorem gX0_level_X0_needGauge : GoodIn wsX0_level (va_wsS RX0 29 yX0_needGauge wsX0_needGauge) := goodIn_app (goodIn_of _ (by decide +kernel)) ggX0_level_X0_needGauge
set_option maxRecDepth 20000 in
theorem ggX0_level_X0_needLevel : GoodIn wsX0_level wsX0_needLevel := goodIn_ca (goodIn_r _ [9, 5, 6, 10, 11] (by decide +kernel) (by decide +kernel)) (goodIn_sub (fun _ h => List.mem_cons_of_mem _ (List.mem_append_left _ (List.mem_append_right _ h))) (by decide +kernel))
set_option maxRecDepth 20000 in
theorem gX0_level_X0_needLevel : GoodIn wsX0_level (va_wsS RX0 33 yX0_needLevel wsX0_needLevel) := goodIn_app (goodIn_of _ (by decide +kernel)) ggX0_level_X0_needLevel
set_option maxRecDepth 20000 in
theorem ggX0_level_X0_stripOf : GoodIn wsX0_level wsX0_stripOf := goodIn_r _ [14] (by decide +kernel) (by decide +kernel)
set_option maxRecDepth 20000 in
theorem gX0_level_X0_stripOf : GoodIn wsX0_level (va_wsS RX0 37 yX0_stripOf wsX0_stripOf) := goodIn_app (goodIn_of _ (by decide +kernel)) ggX0_level_X0_stripOf
set_option maxRecDepth 20000 in
theorem ggX0_level_X0_appendNumber : GoodIn wsX0_level wsX0_appendNumber := goodIn_ca (goodIn_r _ [18, 19, 20, 21, 22, 3, 23, 24, 25, 26, 27, 28, 29, 30, 31, 32, 33, 34, 35, 36, 37, 38, 39] (by decide +kernel) (by decide +kernel)) (goodIn_sub (fun _ h => List.mem_cons_of_mem _ (List.mem_append_right _ h)) (by decide +kernel))
set_option maxRecDepth 20000 in
theorem gX0_level_X0_appendNumber : GoodIn wsX0_level (wsV RX0 41 RX0 yX0_appendNumber wsX0_appendNumber) := goodIn_app (goodIn_of _ (by decide +kernel)) ggX0_level_X0_appendNumber
theorem dX0_level_0 : decode cX0_level 0 = .ok (.iload_n 1, 1) := by decide +kernel
theorem dX0_level_1 : decode cX0_level 1 = .ok (.invokestatic 29, 3) := by decide +kernel
theorem dX0_level_4 : decode cX0_level 4 = .ok (.dload_n 2, 1) := by decide +kernel
theorem dX0_level_5 : decode cX0_level 5 = .ok (.invokestatic 33, 3) := by decide +kernel
theorem dX0_level_8 : decode cX0_level 8 = .ok (.aload_n 0, 1) := by decide +kernel
theorem dX0_level_9 : decode cX0_level 9 = .ok (.iload_n 1, 1) := by decide +kernel
theorem dX0_level_10 : decode cX0_level 10 = .ok (.iconst 0, 1) := by decide +kernel
theorem dX0_level_11 : decode cX0_level 11 = .ok (.invokestatic 37, 3) := by decide +kernel
theorem dX0_level_14 : decode cX0_level 14 = .ok (.dload_n 2, 1) := by decide +kernel
theorem dX0_level_15 : decode cX0_level 15 = .ok (.invokevirtual 41, 3) := by decide +kernel
theorem dX0_level_18 : decode cX0_level 18 = .ok (.ireturn, 1) := by decide +kernel
set_option maxRecDepth 20000 in
theorem ggX0_wind_X0_needGauge : GoodIn wsX0_wind wsX0_needGauge := goodIn_ca (goodIn_r _ [4, 5, 6] (by decide +kernel) (by decide +kernel)) (goodIn_sub (fun _ h => List.mem_cons_of_mem _ (List.mem_append_left _ (List.mem_append_right _ h))) (by decide +kernel))
set_option maxRecDepth 20000 in
theorem gX0_wind_X0_needGauge : GoodIn wsX0_wind (va_wsS RX0 29 yX0_needGauge wsX0_needGauge) := goodIn_app (goodIn_of _ (by decide +kernel)) ggX0_wind_X0_needGauge
set_option maxRecDepth 20000 in
theorem ggX0_wind_X0_needWind : GoodIn wsX0_wind wsX0_needWind := goodIn_ca (goodIn_r _ [9, 5, 6, 10] (by decide +kernel) (by decide +kernel)) (goodIn_sub (fun _ h => List.mem_cons_of_mem _ (List.mem_append_left _ (List.mem_append_right _ h))) (by decide +kernel))
set_option maxRecDepth 20000 in
theorem gX0_wind_X0_needWind : GoodIn wsX0_wind (va_wsS RX0 45 yX0_needWind wsX0_needWind) := goodIn_app (goodIn_of _ (by decide +kernel)) ggX0_wind_X0_needWind
set_option maxRecDepth 20000 in
theorem ggX0_wind_X0_stripOf : GoodIn wsX0_wind wsX0_stripOf := goodIn_r _ [13] (by decide +kernel) (by decide +kernel)
set_option maxRecDepth 20000 in
theorem gX0_wind_X0_stripOf : GoodIn wsX0_wind (va_wsS RX0 37 yX0_stripOf wsX0_stripOf) := goodIn_app (goodIn_of _ (by decide +kernel)) ggX0_wind_X0_stripOf
set_option maxRecDepth 20000 in
theorem ggX0_wind_X0_appendNumber : GoodIn wsX0_wind wsX0_appendNumber := goodIn_ca (goodIn_r _ [17, 18, 19, 20, 21, 3, 22, 23, 24, 25, 26, 27, 28, 29, 30, 31, 32, 33, 34, 35, 36, 37, 38] (by decide +kernel) (by decide +kernel)) (goodIn_sub (fun _ h => List.mem_cons_of_mem _ (List.mem_append_right _ h)) (by decide +kernel))
set_option maxRecDepth 20000 in
theorem gX0_wind_X0_appendNumber : GoodIn wsX0_wind (wsV RX0 41 RX0 yX0_appendNumber wsX0_appendNumber) := goodIn_app (goodIn_of _ (by decide +kernel)) ggX0_wind_X0_appendNumber
theorem dX0_wind_0 : decode cX0_wind 0 = .ok (.iload_n 1, 1) := by decide +kernel
theorem dX0_wind_1 : decode cX0_wind 1 = .ok (.invokestatic 29, 3) := by decide +kernel
theorem dX0_wind_4 : decode cX0_wind 4 = .ok (.fload_n 2, 1) := by decide +kernel
theorem dX0_wind_5 : decode cX0_wind 5 = .ok (.invokestatic 45, 3) := by decide +kernel
theorem dX0_wind_8 : decode cX0_wind 8 = .ok (.aload_n 0, 1) := by decide +kernel
theorem dX0_wind_9 : decode cX0_wind 9 = .ok (.iload_n 1, 1) := by decide +kernel
theorem dX0_wind_10 : decode cX0_wind 10 = .ok (.iconst 1, 1) := by decide +kernel
theorem dX0_wind_11 : decode cX0_wind 11 = .ok (.invokestatic 37, 3) := by decide +kernel
theorem dX0_wind_14 : decode cX0_wind 14 = .ok (.fload_n 2, 1) := by decide +kernel
theorem dX0_wind_15 : decode cX0_wind 15 = .ok (.f2d, 1) := by decide +kernel
theorem dX0_wind_16 : decode cX0_wind 16 = .ok (.invokevirtual 41, 3) := by decide +kernel
theorem dX0_wind_19 : decode cX0_wind 19 = .ok (.ireturn, 1) := by decide +kernel
set_option maxRecDepth 20000 in
theorem ggX0_out_X0_needGauge : GoodIn wsX0_out wsX0_needGauge := goodIn_ca (goodIn_r _ [4, 5, 6] (by decide +kernel) (by decide +kernel)) (goodIn_sub (fun _ h => List.mem_cons_of_mem _ (List.mem_append_left _ (List.mem_append_right _ h))) (by decide +kernel))
set_option maxRecDepth 20000 in
theorem gX0_out_X0_needGauge : GoodIn wsX0_out (va_wsS RX0 29 yX0_needGauge wsX0_needGauge) := goodIn_app (goodIn_of _ (by decide +kernel)) ggX0_out_X0_needGauge
set_option maxRecDepth 20000 in
theorem ggX0_out_X0_needWhat : GoodIn wsX0_out wsX0_needWhat := goodIn_ca (goodIn_r _ [9, 5, 6] (by decide +kernel) (by decide +kernel)) (goodIn_sub (fun _ h => List.mem_cons_of_mem _ (List.mem_append_left _ (List.mem_append_right _ h))) (by decide +kernel))
set_option maxRecDepth 20000 in
theorem gX0_out_X0_needWhat : GoodIn wsX0_out (va_wsS RX0 49 yX0_needWhat wsX0_needWhat) := goodIn_app (goodIn_of _ (by decide +kernel)) ggX0_out_X0_needWhat
set_option maxRecDepth 20000 in
theorem ggX0_out_X0_stripOf : GoodIn wsX0_out wsX0_stripOf := goodIn_r _ [12] (by decide +kernel) (by decide +kernel)
set_option maxRecDepth 20000 in
theorem gX0_out_X0_stripOf : GoodIn wsX0_out (va_wsS RX0 37 yX0_stripOf wsX0_stripOf) := goodIn_app (goodIn_of _ (by decide +kernel)) ggX0_out_X0_stripOf
set_option maxRecDepth 20000 in
theorem ggX0_out_X0_appendOut : GoodIn wsX0_out wsX0_appendOut := goodIn_ca (goodIn_r _ [16, 17, 18, 19, 20, 3, 21, 22, 23, 24, 25, 26, 27, 28, 29, 30, 31, 32, 33, 34, 35, 36] (by decide +kernel) (by decide +kernel)) (goodIn_sub (fun _ h => List.mem_cons_of_mem _ (List.mem_append_right _ h)) (by decide +kernel))
set_option maxRecDepth 20000 in
theorem gX0_out_X0_appendOut : GoodIn wsX0_out (wsV RX0 52 RX0 yX0_appendOut wsX0_appendOut) := goodIn_app (goodIn_of _ (by decide +kernel)) ggX0_out_X0_appendOut
theorem dX0_out_0 : decode cX0_out 0 = .ok (.iload_n 1, 1) := by decide +kernel
theorem dX0_out_1 : decode cX0_out 1 = .ok (.invokestatic 29, 3) := by decide +kernel
theorem dX0_out_4 : decode cX0_out 4 = .ok (.iload_n 2, 1) := by decide +kernel
theorem dX0_out_5 : decode cX0_out 5 = .ok (.invokestatic 49, 3) := by decide +kernel
theorem dX0_out_8 : decode cX0_out 8 = .ok (.aload_n 0, 1) := by decide +kernel
theorem dX0_out_9 : decode cX0_out 9 = .ok (.iload_n 1, 1) := by decide +kernel
theorem dX0_out_10 : decode cX0_out 10 = .ok (.iload_n 2, 1) := by decide +kernel
theorem dX0_out_11 : decode cX0_out 11 = .ok (.invokestatic 37, 3) := by decide +kernel
theorem dX0_out_14 : decode cX0_out 14 = .ok (.invokevirtual 52, 3) := by decide +kernel
theorem dX0_out_17 : decode cX0_out 17 = .ok (.ireturn, 1) := by decide +kernel
set_option maxRecDepth 20000 in
theorem ggX0_clear_X0_needGauge : GoodIn wsX0_clear wsX0_needGauge := goodIn_ca (goodIn_r _ [4, 5, 6] (by decide +kernel) (by decide +kernel)) (goodIn_sub (fun _ h => List.mem_cons_of_mem _ (List.mem_append_right _ h)) (by decide +kernel))
set_option maxRecDepth 20000 in
theorem gX0_clear_X0_needGauge : GoodIn wsX0_clear (va_wsS RX0 29 yX0_needGauge wsX0_needGauge) := goodIn_app (goodIn_of _ (by decide +kernel)) ggX0_clear_X0_needGauge
set_option maxRecDepth 20000 in
theorem ggX0_clear_X0_stripOf : GoodIn wsX0_clear wsX0_stripOf := goodIn_r _ [9] (by decide +kernel) (by decide +kernel)
set_option maxRecDepth 20000 in
theorem gX0_clear_X0_stripOf : GoodIn wsX0_clear (va_wsS RX0 37 yX0_stripOf wsX0_stripOf) := goodIn_app (goodIn_of _ (by decide +kernel)) ggX0_clear_X0_stripOf
set_option maxRecDepth 20000 in
theorem ggX0_clear_X0_emptyStrip : GoodIn wsX0_clear wsX0_emptyStrip := goodIn_r _ [13, 14, 15, 16, 17, 18, 19] (by decide +kernel) (by decide +kernel)
set_option maxRecDepth 20000 in
theorem gX0_clear_X0_emptyStrip : GoodIn wsX0_clear (wsV RX0 56 RX0 yX0_emptyStrip wsX0_emptyStrip) := goodIn_app (goodIn_of _ (by decide +kernel)) ggX0_clear_X0_emptyStrip
theorem dX0_clear_0 : decode cX0_clear 0 = .ok (.iload_n 1, 1) := by decide +kernel
theorem dX0_clear_1 : decode cX0_clear 1 = .ok (.invokestatic 29, 3) := by decide +kernel
theorem dX0_clear_4 : decode cX0_clear 4 = .ok (.aload_n 0, 1) := by decide +kernel
theorem dX0_clear_5 : decode cX0_clear 5 = .ok (.iload_n 1, 1) := by decide +kernel
theorem dX0_clear_6 : decode cX0_clear 6 = .ok (.iconst 0, 1) := by decide +kernel
theorem dX0_clear_7 : decode cX0_clear 7 = .ok (.invokestatic 37, 3) := by decide +kernel
theorem dX0_clear_10 : decode cX0_clear 10 = .ok (.invokevirtual 56, 3) := by decide +kernel
theorem dX0_clear_13 : decode cX0_clear 13 = .ok (.aload_n 0, 1) := by decide +kernel
theorem dX0_clear_14 : decode cX0_clear 14 = .ok (.iload_n 1, 1) := by decide +kernel
theorem dX0_clear_15 : decode cX0_clear 15 = .ok (.iconst 1, 1) := by decide +kernel
theorem dX0_clear_16 : decode cX0_clear 16 = .ok (.invokestatic 37, 3) := by decide +kernel
theorem dX0_clear_19 : decode cX0_clear 19 = .ok (.invokevirtual 56, 3) := by decide +kernel
theorem dX0_clear_22 : decode cX0_clear 22 = .ok (.iadd, 1) := by decide +kernel
theorem dX0_clear_23 : decode cX0_clear 23 = .ok (.ireturn, 1) := by decide +kernel
set_option maxRecDepth 20000 in
theorem ggX0_mark_X0_needGauge : GoodIn wsX0_mark wsX0_needGauge := goodIn_ca (goodIn_r _ [6, 1, 2] (by decide +kernel) (by decide +kernel)) (goodIn_sub (fun _ h => List.mem_cons_of_mem _ (List.mem_append_right _ h)) (by decide +kernel))
set_option maxRecDepth 20000 in
theorem gX0_mark_X0_needGauge : GoodIn wsX0_mark (va_wsS RX0 29 yX0_needGauge wsX0_needGauge) := goodIn_app (goodIn_of _ (by decide +kernel)) ggX0_mark_X0_needGauge
set_option maxRecDepth 20000 in
theorem ggX0_mark_X0_needLevel : GoodIn wsX0_mark wsX0_needLevel := goodIn_ca (goodIn_r _ [9, 1, 2, 10, 11] (by decide +kernel) (by decide +kernel)) (goodIn_sub (fun _ h => List.mem_cons_of_mem _ (List.mem_append_right _ h)) (by decide +kernel))
set_option maxRecDepth 20000 in
theorem gX0_mark_X0_needLevel : GoodIn wsX0_mark (va_wsS RX0 33 yX0_needLevel wsX0_needLevel) := goodIn_app (goodIn_of _ (by decide +kernel)) ggX0_mark_X0_needLevel
set_option maxRecDepth 20000 in
theorem ggX0_mark_X0_markPlace : GoodIn wsX0_mark wsX0_markPlace := goodIn_r _ [14] (by decide +kernel) (by decide +kernel)
set_option maxRecDepth 20000 in
theorem gX0_mark_X0_markPlace : GoodIn wsX0_mark (va_wsS RX0 66 yX0_markPlace wsX0_markPlace) := goodIn_app (goodIn_of _ (by decide +kernel)) ggX0_mark_X0_markPlace
set_option maxRecDepth 20000 in
theorem ggX0_mark_X0_putNumber : GoodIn wsX0_mark wsX0_putNumber := goodIn_r _ [18, 19, 20, 21, 22, 23, 24, 25] (by decide +kernel) (by decide +kernel)
set_option maxRecDepth 20000 in
theorem gX0_mark_X0_putNumber : GoodIn wsX0_mark (wsV RX0 69 RX0 yX0_putNumber wsX0_putNumber) := goodIn_app (goodIn_of _ (by decide +kernel)) ggX0_mark_X0_putNumber
theorem dX0_mark_0 : decode cX0_mark 0 = .ok (.iload_n 1, 1) := by decide +kernel
theorem dX0_mark_1 : decode cX0_mark 1 = .ok (.invokestatic 29, 3) := by decide +kernel
theorem dX0_mark_4 : decode cX0_mark 4 = .ok (.iload_n 2, 1) := by decide +kernel
theorem dX0_mark_5 : decode cX0_mark 5 = .ok (.ifCond .eq 18, 3) := by decide +kernel
theorem dX0_mark_8 : decode cX0_mark 8 = .ok (.iload_n 2, 1) := by decide +kernel
theorem dX0_mark_9 : decode cX0_mark 9 = .ok (.iconst 1, 1) := by decide +kernel
theorem dX0_mark_10 : decode cX0_mark 10 = .ok (.if_icmp .eq 13, 3) := by decide +kernel
theorem dX0_mark_13 : decode cX0_mark 13 = .ok (.new 59, 3) := by decide +kernel
theorem dX0_mark_16 : decode cX0_mark 16 = .ok (.dup, 1) := by decide +kernel
theorem dX0_mark_17 : decode cX0_mark 17 = .ok (.ldc 61, 2) := by decide +kernel
theorem dX0_mark_19 : decode cX0_mark 19 = .ok (.invokespecial 63, 3) := by decide +kernel
theorem dX0_mark_22 : decode cX0_mark 22 = .ok (.athrow, 1) := by decide +kernel
theorem dX0_mark_23 : decode cX0_mark 23 = .ok (.dload_n 3, 1) := by decide +kernel
theorem dX0_mark_24 : decode cX0_mark 24 = .ok (.invokestatic 33, 3) := by decide +kernel
theorem dX0_mark_27 : decode cX0_mark 27 = .ok (.aload_n 0, 1) := by decide +kernel
theorem dX0_mark_28 : decode cX0_mark 28 = .ok (.iload_n 1, 1) := by decide +kernel
theorem dX0_mark_29 : decode cX0_mark 29 = .ok (.iload_n 2, 1) := by decide +kernel
theorem dX0_mark_30 : decode cX0_mark 30 = .ok (.invokestatic 66, 3) := by decide +kernel
theorem dX0_mark_33 : decode cX0_mark 33 = .ok (.dload_n 3, 1) := by decide +kernel
theorem dX0_mark_34 : decode cX0_mark 34 = .ok (.invokevirtual 69, 3) := by decide +kernel
theorem dX0_mark_37 : decode cX0_mark 37 = .ok (.ireturn, 1) := by decide +kernel
set_option maxRecDepth 20000 in
theorem ggX0_gale_X0_needGauge : GoodIn wsX0_gale wsX0_needGauge := goodIn_ca (goodIn_r _ [4, 5, 6] (by decide +kernel) (by decide +kernel)) (goodIn_sub (fun _ h => List.mem_cons_of_mem _ (List.mem_append_right _ h)) (by decide +kernel))
set_option maxRecDepth 20000 in
theorem gX0_gale_X0_needGauge : GoodIn wsX0_gale (va_wsS RX0 29 yX0_needGauge wsX0_needGauge) := goodIn_app (goodIn_of _ (by decide +kernel)) ggX0_gale_X0_needGauge
set_option maxRecDepth 20000 in
theorem ggX0_gale_X0_needWind : GoodIn wsX0_gale wsX0_needWind := goodIn_ca (goodIn_r _ [9, 5, 6, 10] (by decide +kernel) (by decide +kernel)) (goodIn_sub (fun _ h => List.mem_cons_of_mem _ (List.mem_append_right _ h)) (by decide +kernel))
set_option maxRecDepth 20000 in
theorem gX0_gale_X0_needWind : GoodIn wsX0_gale (va_wsS RX0 45 yX0_needWind wsX0_needWind) := goodIn_app (goodIn_of _ (by decide +kernel)) ggX0_gale_X0_needWind
set_option maxRecDepth 20000 in
theorem ggX0_gale_X0_markPlace : GoodIn wsX0_gale wsX0_markPlace := goodIn_r _ [13] (by decide +kernel) (by decide +kernel)
set_option maxRecDepth 20000 in
theorem gX0_gale_X0_markPlace : GoodIn wsX0_gale (va_wsS RX0 66 yX0_markPlace wsX0_markPlace) := goodIn_app (goodIn_of _ (by decide +kernel)) ggX0_gale_X0_markPlace
set_option maxRecDepth 20000 in
theorem ggX0_gale_X0_putNumber : GoodIn wsX0_gale wsX0_putNumber := goodIn_r _ [17, 18, 19, 20, 21, 22, 23, 24] (by decide +kernel) (by decide +kernel)
set_option maxRecDepth 20000 in
theorem gX0_gale_X0_putNumber : GoodIn wsX0_gale (wsV RX0 69 RX0 yX0_putNumber wsX0_putNumber) := goodIn_app (goodIn_of _ (by decide +kernel)) ggX0_gale_X0_putNumber
theorem dX0_gale_0 : decode cX0_gale 0 = .ok (.iload_n 1, 1) := by decide +kernel
theorem dX0_gale_1 : decode cX0_gale 1 = .ok (.invokestatic 29, 3) := by decide +kernel
theorem dX0_gale_4 : decode cX0_gale 4 = .ok (.fload_n 2, 1) := by decide +kernel
theorem dX0_gale_5 : decode cX0_gale 5 = .ok (.invokestatic 45, 3) := by decide +kernel
theorem dX0_gale_8 : decode cX0_gale 8 = .ok (.aload_n 0, 1) := by decide +kernel
theorem dX0_gale_9 : decode cX0_gale 9 = .ok (.iload_n 1, 1) := by decide +kernel
theorem dX0_gale_10 : decode cX0_gale 10 = .ok (.iconst 2, 1) := by decide +kernel
theorem dX0_gale_11 : decode cX0_gale 11 = .ok (.invokestatic 66, 3) := by decide +kernel
theorem dX0_gale_14 : decode cX0_gale 14 = .ok (.fload_n 2, 1) := by decide +kernel
theorem dX0_gale_15 : decode cX0_gale 15 = .ok (.f2d, 1) := by decide +kernel
theorem dX0_gale_16 : decode cX0_gale 16 = .ok (.invokevirtual 69, 3) := by decide +kernel
theorem dX0_gale_19 : decode cX0_gale 19 = .ok (.ireturn, 1) := by decide +kernel
set_option maxRecDepth 20000 in
theorem ggX0_lift_X0_needGauge : GoodIn wsX0_lift wsX0_needGauge := goodIn_ca (goodIn_r _ [6, 1, 2] (by decide +kernel) (by decide +kernel)) (goodIn_sub (fun _ h => List.mem_cons_of_mem _ (List.mem_append_right _ h)) (by decide +kernel))
set_option maxRecDepth 20000 in
theorem gX0_lift_X0_needGauge : GoodIn wsX0_lift (va_wsS RX0 29 yX0_needGauge wsX0_needGauge) := goodIn_app (goodIn_of _ (by decide +kernel)) ggX0_lift_X0_needGauge
set_option maxRecDepth 20000 in
theorem ggX0_lift_X0_markPlace : GoodIn wsX0_lift wsX0_markPlace := goodIn_r _ [9] (by decide +kernel) (by decide +kernel)
set_option maxRecDepth 20000 in
theorem gX0_lift_X0_markPlace : GoodIn wsX0_lift (va_wsS RX0 66 yX0_markPlace wsX0_markPlace) := goodIn_app (goodIn_of _ (by decide +kernel)) ggX0_lift_X0_markPlace
set_option maxRecDepth 20000 in
theorem ggX0_lift_X0_putOut : GoodIn wsX0_lift wsX0_putOut := goodIn_r _ [13, 14, 15, 16, 17, 18, 19] (by decide +kernel) (by decide +kernel)
set_option maxRecDepth 20000 in
theorem gX0_lift_X0_putOut : GoodIn wsX0_lift (wsV RX0 75 RX0 yX0_putOut wsX0_putOut) := goodIn_app (goodIn_of _ (by decide +kernel)) ggX0_lift_X0_putOut
theorem dX0_lift_0 : decode cX0_lift 0 = .ok (.iload_n 1, 1) := by decide +kernel
theorem dX0_lift_1 : decode cX0_lift 1 = .ok (.invokestatic 29, 3) := by decide +kernel
theorem dX0_lift_4 : decode cX0_lift 4 = .ok (.iload_n 2, 1) := by decide +kernel
theorem dX0_lift_5 : decode cX0_lift 5 = .ok (.ifCond .lt 8, 3) := by decide +kernel
theorem dX0_lift_8 : decode cX0_lift 8 = .ok (.iload_n 2, 1) := by decide +kernel
theorem dX0_lift_9 : decode cX0_lift 9 = .ok (.iconst 3, 1) := by decide +kernel
theorem dX0_lift_10 : decode cX0_lift 10 = .ok (.if_icmp .lt 13, 3) := by decide +kernel
theorem dX0_lift_13 : decode cX0_lift 13 = .ok (.new 59, 3) := by decide +kernel
theorem dX0_lift_16 : decode cX0_lift 16 = .ok (.dup, 1) := by decide +kernel
theorem dX0_lift_17 : decode cX0_lift 17 = .ok (.ldc 73, 2) := by decide +kernel
theorem dX0_lift_19 : decode cX0_lift 19 = .ok (.invokespecial 63, 3) := by decide +kernel
theorem dX0_lift_22 : decode cX0_lift 22 = .ok (.athrow, 1) := by decide +kernel
theorem dX0_lift_23 : decode cX0_lift 23 = .ok (.aload_n 0, 1) := by decide +kernel
theorem dX0_lift_24 : decode cX0_lift 24 = .ok (.iload_n 1, 1) := by decide +kernel
theorem dX0_lift_25 : decode cX0_lift 25 = .ok (.iload_n 2, 1) := by decide +kernel
theorem dX0_lift_26 : decode cX0_lift 26 = .ok (.invokestatic 66, 3) := by decide +kernel
theorem dX0_lift_29 : decode cX0_lift 29 = .ok (.invokevirtual 75, 3) := by decide +kernel
theorem dX0_lift_32 : decode cX0_lift 32 = .ok (.ireturn, 1) := by decide +kernel
set_option maxRecDepth 20000 in
theorem ggX0_probe_X0_needLevel : GoodIn wsX0_probe wsX0_needLevel := goodIn_ca (goodIn_r _ [4, 5, 6, 7, 8] (by decide +kernel) (by decide +kernel)) (goodIn_sub (fun _ h => List.mem_cons_of_mem _ (List.mem_append_right _ h)) (by decide +kernel))
set_option maxRecDepth 20000 in
theorem gX0_probe_X0_needLevel : GoodIn wsX0_probe (va_wsS RX0 33 yX0_needLevel wsX0_needLevel) := goodIn_app (goodIn_of _ (by decide +kernel)) ggX0_probe_X0_needLevel
set_option maxRecDepth 20000 in
theorem ggX0_probe_X0_probePlace : GoodIn wsX0_probe wsX0_probePlace := goodIn_r _ [11] (by decide +kernel) (by decide +kernel)
set_option maxRecDepth 20000 in
theorem gX0_probe_X0_probePlace : GoodIn wsX0_probe (va_wsS RX0 79 yX0_probePlace wsX0_probePlace) := goodIn_app (goodIn_of _ (by decide +kernel)) ggX0_probe_X0_probePlace
set_option maxRecDepth 20000 in
theorem ggX0_probe_X0_putNumber : GoodIn wsX0_probe wsX0_putNumber := goodIn_r _ [15, 16, 17, 37, 38, 39, 40, 41] (by decide +kernel) (by decide +kernel)
set_option maxRecDepth 20000 in
theorem gX0_probe_X0_putNumber : GoodIn wsX0_probe (wsV RX0 69 RX0 yX0_putNumber wsX0_putNumber) := goodIn_app (goodIn_of _ (by decide +kernel)) ggX0_probe_X0_putNumber
set_option maxRecDepth 20000 in
theorem ggX0_probe_X0_gaugesRelatedToProbe : GoodIn wsX0_probe wsX0_gaugesRelatedToProbe := goodIn_r _ [21, 22, 23, 24, 3, 25, 26, 27, 28, 29, 30, 31, 32, 9, 10, 11, 33, 34, 35, 36, 16, 17, 37, 38, 39, 40, 41] (by decide +kernel) (by decide +kernel)
set_option maxRecDepth 20000 in
theorem gX0_probe_X0_gaugesRelatedToProbe : GoodIn wsX0_probe (wsV RX0 82 RX0 yX0_gaugesRelatedToProbe wsX0_gaugesRelatedToProbe) := goodIn_app (goodIn_of _ (by decide +kernel)) ggX0_probe_X0_gaugesRelatedToProbe
theorem dX0_probe_0 : decode cX0_probe 0 = .ok (.dload_n 1, 1) := by decide +kernel
theorem dX0_probe_1 : decode cX0_probe 1 = .ok (.invokestatic 33, 3) := by decide +kernel
theorem dX0_probe_4 : decode cX0_probe 4 = .ok (.aload_n 0, 1) := by decide +kernel
theorem dX0_probe_5 : decode cX0_probe 5 = .ok (.iconst 0, 1) := by decide +kernel
theorem dX0_probe_6 : decode cX0_probe 6 = .ok (.invokestatic 79, 3) := by decide +kernel
theorem dX0_probe_9 : decode cX0_probe 9 = .ok (.dload_n 1, 1) := by decide +kernel
theorem dX0_probe_10 : decode cX0_probe 10 = .ok (.invokevirtual 69, 3) := by decide +kernel
theorem dX0_probe_13 : decode cX0_probe 13 = .ok (.pop, 1) := by decide +kernel
theorem dX0_probe_14 : decode cX0_probe 14 = .ok (.aload_n 0, 1) := by decide +kernel
theorem dX0_probe_15 : decode cX0_probe 15 = .ok (.iconst 0, 1) := by decide +kernel
theorem dX0_probe_16 : decode cX0_probe 16 = .ok (.iconst 4, 1) := by decide +kernel
theorem dX0_probe_17 : decode cX0_probe 17 = .ok (.invokevirtual 82, 3) := by decide +kernel
theorem dX0_probe_20 : decode cX0_probe 20 = .ok (.ireturn, 1) := by decide +kernel
set_option maxRecDepth 20000 in
theorem ggX0_probeWind_X0_needWind : GoodIn wsX0_probeWind wsX0_needWind := goodIn_ca (goodIn_r _ [4, 5, 6, 7] (by decide +kernel) (by decide +kernel)) (goodIn_sub (fun _ h => List.mem_cons_of_mem _ (List.mem_append_right _ h)) (by decide +kernel))
set_option maxRecDepth 20000 in
theorem gX0_probeWind_X0_needWind : GoodIn wsX0_probeWind (va_wsS RX0 45 yX0_needWind wsX0_needWind) := goodIn_app (goodIn_of _ (by decide +kernel)) ggX0_probeWind_X0_needWind
set_option maxRecDepth 20000 in
theorem ggX0_probeWind_X0_probePlace : GoodIn wsX0_probeWind wsX0_probePlace := goodIn_r _ [10] (by decide +kernel) (by decide +kernel)
set_option maxRecDepth 20000 in
theorem gX0_probeWind_X0_probePlace : GoodIn wsX0_probeWind (va_wsS RX0 79 yX0_probePlace wsX0_probePlace) := goodIn_app (goodIn_of _ (by decide +kernel)) ggX0_probeWind_X0_probePlace
set_option maxRecDepth 20000 in
theorem ggX0_probeWind_X0_putNumber : GoodIn wsX0_probeWind wsX0_putNumber := goodIn_r _ [14, 15, 16, 36, 37, 38, 39, 40] (by decide +kernel) (by decide +kernel)
set_option maxRecDepth 20000 in
theorem gX0_probeWind_X0_putNumber : GoodIn wsX0_probeWind (wsV RX0 69 RX0 yX0_putNumber wsX0_putNumber) := goodIn_app (goodIn_of _ (by decide +kernel)) ggX0_probeWind_X0_putNumber
set_option maxRecDepth 20000 in
theorem ggX0_probeWind_X0_gaugesRelatedToProbe : GoodIn wsX0_probeWind wsX0_gaugesRelatedToProbe := goodIn_r _ [20, 21, 22, 23, 3, 24, 25, 26, 27, 28, 29, 30, 31, 8, 9, 10, 32, 33, 34, 35, 15, 16, 36, 37, 38, 39, 40] (by decide +kernel) (by decide +kernel)
set_option maxRecDepth 20000 in
theorem gX0_probeWind_X0_gaugesRelatedToProbe : GoodIn wsX0_probeWind (wsV RX0 82 RX0 yX0_gaugesRelatedToProbe wsX0_gaugesRelatedToProbe) := goodIn_app (goodIn_of _ (by decide +kernel)) ggX0_probeWind_X0_gaugesRelatedToProbe
theorem dX0_probeWind_0 : decode cX0_probeWind 0 = .ok (.fload_n 1, 1) := by decide +kernel
theorem dX0_probeWind_1 : decode cX0_probeWind 1 = .ok (.invokestatic 45, 3) := by decide +kernel
theorem dX0_probeWind_4 : decode cX0_probeWind 4 = .ok (.aload_n 0, 1) := by decide +kernel
theorem dX0_probeWind_5 : decode cX0_probeWind 5 = .ok (.iconst 1, 1) := by decide +kernel
theorem dX0_probeWind_6 : decode cX0_probeWind 6 = .ok (.invokestatic 79, 3) := by decide +kernel
theorem dX0_probeWind_9 : decode cX0_probeWind 9 = .ok (.fload_n 1, 1) := by decide +kernel
theorem dX0_probeWind_10 : decode cX0_probeWind 10 = .ok (.f2d, 1) := by decide +kernel
theorem dX0_probeWind_11 : decode cX0_probeWind 11 = .ok (.invokevirtual 69, 3) := by decide +kernel
theorem dX0_probeWind_14 : decode cX0_probeWind 14 = .ok (.pop, 1) := by decide +kernel
theorem dX0_probeWind_15 : decode cX0_probeWind 15 = .ok (.aload_n 0, 1) := by decide +kernel
theorem dX0_probeWind_16 : decode cX0_probeWind 16 = .ok (.iconst 1, 1) := by decide +kernel
theorem dX0_probeWind_17 : decode cX0_probeWind 17 = .ok (.iconst 4, 1) := by decide +kernel
theorem dX0_probeWind_18 : decode cX0_probeWind 18 = .ok (.invokevirtual 82, 3) := by decide +kernel
theorem dX0_probeWind_21 : decode cX0_probeWind 21 = .ok (.ireturn, 1) := by decide +kernel
set_option maxRecDepth 20000 in
theorem ggX0_probeOut_X0_needWhat : GoodIn wsX0_probeOut wsX0_needWhat := goodIn_ca (goodIn_r _ [4, 5, 6] (by decide +kernel) (by decide +kernel)) (goodIn_sub (fun _ h => List.mem_cons_of_mem _ (List.mem_append_right _ h)) (by decide +kernel))
set_option maxRecDepth 20000 in
theorem gX0_probeOut_X0_needWhat : GoodIn wsX0_probeOut (va_wsS RX0 49 yX0_needWhat wsX0_needWhat) := goodIn_app (goodIn_of _ (by decide +kernel)) ggX0_probeOut_X0_needWhat
set_option maxRecDepth 20000 in
theorem ggX0_probeOut_X0_probePlace : GoodIn wsX0_probeOut wsX0_probePlace := goodIn_r _ [9] (by decide +kernel) (by decide +kernel)
set_option maxRecDepth 20000 in
theorem gX0_probeOut_X0_probePlace : GoodIn wsX0_probeOut (va_wsS RX0 79 yX0_probePlace wsX0_probePlace) := goodIn_app (goodIn_of _ (by decide +kernel)) ggX0_probeOut_X0_probePlace
set_option maxRecDepth 20000 in
theorem ggX0_probeOut_X0_putOut : GoodIn wsX0_probeOut wsX0_putOut := goodIn_r _ [13, 14, 35, 36, 37, 38, 39] (by decide +kernel) (by decide +kernel)
set_option maxRecDepth 20000 in
theorem gX0_probeOut_X0_putOut : GoodIn wsX0_probeOut (wsV RX0 75 RX0 yX0_putOut wsX0_putOut) := goodIn_app (goodIn_of _ (by decide +kernel)) ggX0_probeOut_X0_putOut
set_option maxRecDepth 20000 in
theorem ggX0_probeOut_X0_gaugesRelatedToProbe : GoodIn wsX0_probeOut wsX0_gaugesRelatedToProbe := goodIn_r _ [18, 19, 20, 21, 3, 22, 23, 24, 25, 26, 27, 28, 29, 7, 8, 9, 30, 31, 32, 33, 14, 34, 35, 36, 37, 38, 39] (by decide +kernel) (by decide +kernel)
set_option maxRecDepth 20000 in
theorem gX0_probeOut_X0_gaugesRelatedToProbe : GoodIn wsX0_probeOut (wsV RX0 82 RX0 yX0_gaugesRelatedToProbe wsX0_gaugesRelatedToProbe) := goodIn_app (goodIn_of _ (by decide +kernel)) ggX0_probeOut_X0_gaugesRelatedToProbe
theorem dX0_probeOut_0 : decode cX0_probeOut 0 = .ok (.iload_n 1, 1) := by decide +kernel
theorem dX0_probeOut_1 : decode cX0_probeOut 1 = .ok (.invokestatic 49, 3) := by decide +kernel
theorem dX0_probeOut_4 : decode cX0_probeOut 4 = .ok (.aload_n 0, 1) := by decide +kernel
theorem dX0_probeOut_5 : decode cX0_probeOut 5 = .ok (.iload_n 1, 1) := by decide +kernel
theorem dX0_probeOut_6 : decode cX0_probeOut 6 = .ok (.invokestatic 79, 3) := by decide +kernel
theorem dX0_probeOut_9 : decode cX0_probeOut 9 = .ok (.invokevirtual 75, 3) := by decide +kernel
theorem dX0_probeOut_12 : decode cX0_probeOut 12 = .ok (.pop, 1) := by decide +kernel
theorem dX0_probeOut_13 : decode cX0_probeOut 13 = .ok (.aload_n 0, 1) := by decide +kernel
theorem dX0_probeOut_14 : decode cX0_probeOut 14 = .ok (.iload_n 1, 1) := by decide +kernel
theorem dX0_probeOut_15 : decode cX0_probeOut 15 = .ok (.iconst 5, 1) := by decide +kernel
theorem dX0_probeOut_16 : decode cX0_probeOut 16 = .ok (.invokevirtual 82, 3) := by decide +kernel
theorem dX0_probeOut_19 : decode cX0_probeOut 19 = .ok (.ireturn, 1) := by decide +kernel
set_option maxRecDepth 20000 in
theorem ggX0_run_X0_needGauge : GoodIn wsX0_run wsX0_needGauge := goodIn_ca (goodIn_r _ [4, 5, 6] (by decide +kernel) (by decide +kernel)) (goodIn_sub (fun _ h => List.mem_cons_of_mem _ (List.mem_append_right _ h)) (by decide +kernel))
set_option maxRecDepth 20000 in
theorem gX0_run_X0_needGauge : GoodIn wsX0_run (va_wsS RX0 29 yX0_needGauge wsX0_needGauge) := goodIn_app (goodIn_of _ (by decide +kernel)) ggX0_run_X0_needGauge
set_option maxRecDepth 20000 in
theorem ggX0_run_X0_needWhat : GoodIn wsX0_run wsX0_needWhat := goodIn_ca (goodIn_r _ [9, 5, 6] (by decide +kernel) (by decide +kernel)) (goodIn_sub (fun _ h => List.mem_cons_of_mem _ (List.mem_append_right _ h)) (by decide +kernel))
set_option maxRecDepth 20000 in
theorem gX0_run_X0_needWhat : GoodIn wsX0_run (va_wsS RX0 49 yX0_needWhat wsX0_needWhat) := goodIn_app (goodIn_of _ (by decide +kernel)) ggX0_run_X0_needWhat
set_option maxRecDepth 20000 in
theorem ggX0_run_X0_needRelation : GoodIn wsX0_run wsX0_needRelation := goodIn_ca (goodIn_r _ [12, 5, 6] (by decide +kernel) (by decide +kernel)) (goodIn_sub (fun _ h => List.mem_cons_of_mem _ (List.mem_append_right _ h)) (by decide +kernel))
set_option maxRecDepth 20000 in
theorem gX0_run_X0_needRelation : GoodIn wsX0_run (va_wsS RX0 85 yX0_needRelation wsX0_needRelation) := goodIn_app (goodIn_of _ (by decide +kernel)) ggX0_run_X0_needRelation
set_option maxRecDepth 20000 in
theorem ggX0_run_X0_stripOf : GoodIn wsX0_run wsX0_stripOf := goodIn_r _ [15] (by decide +kernel) (by decide +kernel)
set_option maxRecDepth 20000 in
theorem gX0_run_X0_stripOf : GoodIn wsX0_run (va_wsS RX0 37 yX0_stripOf wsX0_stripOf) := goodIn_app (goodIn_of _ (by decide +kernel)) ggX0_run_X0_stripOf
set_option maxRecDepth 20000 in
theorem ggX0_run_X0_probePlace : GoodIn wsX0_run wsX0_probePlace := goodIn_r _ [18] (by decide +kernel) (by decide +kernel)
set_option maxRecDepth 20000 in
theorem gX0_run_X0_probePlace : GoodIn wsX0_run (va_wsS RX0 79 yX0_probePlace wsX0_probePlace) := goodIn_app (goodIn_of _ (by decide +kernel)) ggX0_run_X0_probePlace
set_option maxRecDepth 20000 in
theorem ggX0_run_X0_runBack : GoodIn wsX0_run wsX0_runBack := goodIn_r _ [22, 23, 24, 25, 3, 26, 27, 28, 29, 30, 31, 32, 37, 38, 39, 40, 41] (by decide +kernel) (by decide +kernel)
set_option maxRecDepth 20000 in
theorem gX0_run_X0_runBack : GoodIn wsX0_run (wsV RX0 88 RX0 yX0_runBack wsX0_runBack) := goodIn_app (goodIn_of _ (by decide +kernel)) ggX0_run_X0_runBack
set_option maxRecDepth 20000 in
theorem ggX0_run_X0_runAhead : GoodIn wsX0_run wsX0_runAhead := goodIn_r _ [36, 23, 24, 25, 3, 26, 27, 28, 29, 30, 31, 32, 37, 38, 39, 40, 41] (by decide +kernel) (by decide +kernel)
set_option maxRecDepth 20000 in
theorem gX0_run_X0_runAhead : GoodIn wsX0_run (wsV RX0 92 RX0 yX0_runAhead wsX0_runAhead) := goodIn_app (goodIn_of _ (by decide +kernel)) ggX0_run_X0_runAhead
theorem dX0_run_0 : decode cX0_run 0 = .ok (.iload_n 1, 1) := by decide +kernel
theorem dX0_run_1 : decode cX0_run 1 = .ok (.invokestatic 29, 3) := by decide +kernel
theorem dX0_run_4 : decode cX0_run 4 = .ok (.iload_n 2, 1) := by decide +kernel
theorem dX0_run_5 : decode cX0_run 5 = .ok (.invokestatic 49, 3) := by decide +kernel
theorem dX0_run_8 : decode cX0_run 8 = .ok (.iload_n 3, 1) := by decide +kernel
theorem dX0_run_9 : decode cX0_run 9 = .ok (.invokestatic 85, 3) := by decide +kernel
theorem dX0_run_12 : decode cX0_run 12 = .ok (.iload_n 1, 1) := by decide +kernel
theorem dX0_run_13 : decode cX0_run 13 = .ok (.iload_n 2, 1) := by decide +kernel
theorem dX0_run_14 : decode cX0_run 14 = .ok (.invokestatic 37, 3) := by decide +kernel
theorem dX0_run_17 : decode cX0_run 17 = .ok (.istore 5, 2) := by decide +kernel
theorem dX0_run_19 : decode cX0_run 19 = .ok (.iload_n 2, 1) := by decide +kernel
theorem dX0_run_20 : decode cX0_run 20 = .ok (.invokestatic 79, 3) := by decide +kernel
theorem dX0_run_23 : decode cX0_run 23 = .ok (.istore 6, 2) := by decide +kernel
theorem dX0_run_25 : decode cX0_run 25 = .ok (.iload 4, 2) := by decide +kernel
theorem dX0_run_27 : decode cX0_run 27 = .ok (.ifCond .eq 15, 3) := by decide +kernel
theorem dX0_run_30 : decode cX0_run 30 = .ok (.aload_n 0, 1) := by decide +kernel
theorem dX0_run_31 : decode cX0_run 31 = .ok (.iload 5, 2) := by decide +kernel
theorem dX0_run_33 : decode cX0_run 33 = .ok (.iload 6, 2) := by decide +kernel
theorem dX0_run_35 : decode cX0_run 35 = .ok (.iload_n 3, 1) := by decide +kernel
theorem dX0_run_36 : decode cX0_run 36 = .ok (.invokevirtual 88, 3) := by decide +kernel
theorem dX0_run_39 : decode cX0_run 39 = .ok (.goto 12, 3) := by decide +kernel
theorem dX0_run_42 : decode cX0_run 42 = .ok (.aload_n 0, 1) := by decide +kernel
theorem dX0_run_43 : decode cX0_run 43 = .ok (.iload 5, 2) := by decide +kernel
theorem dX0_run_45 : decode cX0_run 45 = .ok (.iload 6, 2) := by decide +kernel
theorem dX0_run_47 : decode cX0_run 47 = .ok (.iload_n 3, 1) := by decide +kernel
theorem dX0_run_48 : decode cX0_run 48 = .ok (.invokevirtual 92, 3) := by decide +kernel
theorem dX0_run_51 : decode cX0_run 51 = .ok (.ireturn, 1) := by decide +kernel
set_option maxRecDepth 20000 in
theorem ggX0_count_X0_needGauge : GoodIn wsX0_count wsX0_needGauge := goodIn_ca (goodIn_r _ [5, 6, 7] (by decide +kernel) (by decide +kernel)) (goodIn_sub (fun _ h => List.mem_cons_of_mem _ (List.mem_append_right _ h)) (by decide +kernel))
set_option maxRecDepth 20000 in
theorem gX0_count_X0_needGauge : GoodIn wsX0_count (va_wsS RX0 29 yX0_needGauge wsX0_needGauge) := goodIn_app (goodIn_of _ (by decide +kernel)) ggX0_count_X0_needGauge
set_option maxRecDepth 20000 in
theorem ggX0_count_X0_needWhat : GoodIn wsX0_count wsX0_needWhat := goodIn_ca (goodIn_r _ [10, 6, 7] (by decide +kernel) (by decide +kernel)) (goodIn_sub (fun _ h => List.mem_cons_of_mem _ (List.mem_append_right _ h)) (by decide +kernel))
set_option maxRecDepth 20000 in
theorem gX0_count_X0_needWhat : GoodIn wsX0_count (va_wsS RX0 49 yX0_needWhat wsX0_needWhat) := goodIn_app (goodIn_of _ (by decide +kernel)) ggX0_count_X0_needWhat
set_option maxRecDepth 20000 in
theorem ggX0_count_X0_needRelation : GoodIn wsX0_count wsX0_needRelation := goodIn_ca (goodIn_r _ [13, 6, 7] (by decide +kernel) (by decide +kernel)) (goodIn_sub (fun _ h => List.mem_cons_of_mem _ (List.mem_append_right _ h)) (by decide +kernel))
set_option maxRecDepth 20000 in
theorem gX0_count_X0_needRelation : GoodIn wsX0_count (va_wsS RX0 85 yX0_needRelation wsX0_needRelation) := goodIn_app (goodIn_of _ (by decide +kernel)) ggX0_count_X0_needRelation
set_option maxRecDepth 20000 in
theorem ggX0_count_X0_stripOf : GoodIn wsX0_count wsX0_stripOf := goodIn_r _ [16] (by decide +kernel) (by decide +kernel)
set_option maxRecDepth 20000 in
theorem gX0_count_X0_stripOf : GoodIn wsX0_count (va_wsS RX0 37 yX0_stripOf wsX0_stripOf) := goodIn_app (goodIn_of _ (by decide +kernel)) ggX0_count_X0_stripOf
set_option maxRecDepth 20000 in
theorem ggX0_count_X0_stripPlace : GoodIn wsX0_count wsX0_stripPlace := goodIn_r _ [19] (by decide +kernel) (by decide +kernel)
set_option maxRecDepth 20000 in
theorem gX0_count_X0_stripPlace : GoodIn wsX0_count (va_wsS RX0 95 yX0_stripPlace wsX0_stripPlace) := goodIn_app (goodIn_of _ (by decide +kernel)) ggX0_count_X0_stripPlace
set_option maxRecDepth 20000 in
theorem ggX0_count_X0_probePlace : GoodIn wsX0_count wsX0_probePlace := goodIn_r _ [22] (by decide +kernel) (by decide +kernel)
set_option maxRecDepth 20000 in
theorem gX0_count_X0_probePlace : GoodIn wsX0_count (va_wsS RX0 79 yX0_probePlace wsX0_probePlace) := goodIn_app (goodIn_of _ (by decide +kernel)) ggX0_count_X0_probePlace
set_option maxRecDepth 20000 in
theorem ggX0_count_X0_isRelated : GoodIn wsX0_count wsX0_isRelated := goodIn_r _ [26, 27, 28, 29, 30, 31, 32, 33] (by decide +kernel) (by decide +kernel)
set_option maxRecDepth 20000 in
theorem gX0_count_X0_isRelated : GoodIn wsX0_count (wsV RX0 98 RX0 yX0_isRelated wsX0_isRelated) := goodIn_app (goodIn_of _ (by decide +kernel)) ggX0_count_X0_isRelated
theorem dX0_count_0 : decode cX0_count 0 = .ok (.iload_n 1, 1) := by decide +kernel
theorem dX0_count_1 : decode cX0_count 1 = .ok (.invokestatic 29, 3) := by decide +kernel
theorem dX0_count_4 : decode cX0_count 4 = .ok (.iload_n 2, 1) := by decide +kernel
theorem dX0_count_5 : decode cX0_count 5 = .ok (.invokestatic 49, 3) := by decide +kernel
theorem dX0_count_8 : decode cX0_count 8 = .ok (.iload_n 3, 1) := by decide +kernel
theorem dX0_count_9 : decode cX0_count 9 = .ok (.invokestatic 85, 3) := by decide +kernel
theorem dX0_count_12 : decode cX0_count 12 = .ok (.iload_n 1, 1) := by decide +kernel
theorem dX0_count_13 : decode cX0_count 13 = .ok (.iload_n 2, 1) := by decide +kernel
theorem dX0_count_14 : decode cX0_count 14 = .ok (.invokestatic 37, 3) := by decide +kernel
theorem dX0_count_17 : decode cX0_count 17 = .ok (.istore 5, 2) := by decide +kernel
theorem dX0_count_19 : decode cX0_count 19 = .ok (.iconst 0, 1) := by decide +kernel
theorem dX0_count_20 : decode cX0_count 20 = .ok (.istore 6, 2) := by decide +kernel
theorem dX0_count_22 : decode cX0_count 22 = .ok (.iconst 0, 1) := by decide +kernel
theorem dX0_count_23 : decode cX0_count 23 = .ok (.istore 7, 2) := by decide +kernel
theorem dX0_count_25 : decode cX0_count 25 = .ok (.iload 7, 2) := by decide +kernel
theorem dX0_count_27 : decode cX0_count 27 = .ok (.aload_n 0, 1) := by decide +kernel
theorem dX0_count_28 : decode cX0_count 28 = .ok (.getfield 17, 3) := by decide +kernel
theorem dX0_count_31 : decode cX0_count 31 = .ok (.iload 5, 2) := by decide +kernel
theorem dX0_count_33 : decode cX0_count 33 = .ok (.iaload, 1) := by decide +kernel
theorem dX0_count_34 : decode cX0_count 34 = .ok (.if_icmp .ge 31, 3) := by decide +kernel
theorem dX0_count_37 : decode cX0_count 37 = .ok (.aload_n 0, 1) := by decide +kernel
theorem dX0_count_38 : decode cX0_count 38 = .ok (.iload 5, 2) := by decide +kernel
theorem dX0_count_40 : decode cX0_count 40 = .ok (.iload 7, 2) := by decide +kernel
theorem dX0_count_42 : decode cX0_count 42 = .ok (.invokestatic 95, 3) := by decide +kernel
theorem dX0_count_45 : decode cX0_count 45 = .ok (.iload_n 2, 1) := by decide +kernel
theorem dX0_count_46 : decode cX0_count 46 = .ok (.invokestatic 79, 3) := by decide +kernel
theorem dX0_count_49 : decode cX0_count 49 = .ok (.iload_n 3, 1) := by decide +kernel
theorem dX0_count_50 : decode cX0_count 50 = .ok (.invokevirtual 98, 3) := by decide +kernel
theorem dX0_count_53 : decode cX0_count 53 = .ok (.ifCond .eq 6, 3) := by decide +kernel
theorem dX0_count_56 : decode cX0_count 56 = .ok (.iinc 6 1, 3) := by decide +kernel
theorem dX0_count_59 : decode cX0_count 59 = .ok (.iinc 7 1, 3) := by decide +kernel
theorem dX0_count_62 : decode cX0_count 62 = .ok (.goto (-37), 3) := by decide +kernel
theorem dX0_count_65 : decode cX0_count 65 = .ok (.iload 4, 2) := by decide +kernel
theorem dX0_count_67 : decode cX0_count 67 = .ok (.ifCond .eq 16, 3) := by decide +kernel
theorem dX0_count_70 : decode cX0_count 70 = .ok (.aload_n 0, 1) := by decide +kernel
theorem dX0_count_71 : decode cX0_count 71 = .ok (.getfield 17, 3) := by decide +kernel
theorem dX0_count_74 : decode cX0_count 74 = .ok (.iload 5, 2) := by decide +kernel
theorem dX0_count_76 : decode cX0_count 76 = .ok (.iaload, 1) := by decide +kernel
theorem dX0_count_77 : decode cX0_count 77 = .ok (.iload 6, 2) := by decide +kernel
theorem dX0_count_79 : decode cX0_count 79 = .ok (.isub, 1) := by decide +kernel
theorem dX0_count_80 : decode cX0_count 80 = .ok (.goto 5, 3) := by decide +kernel
theorem dX0_count_83 : decode cX0_count 83 = .ok (.iload 6, 2) := by decide +kernel
theorem dX0_count_85 : decode cX0_count 85 = .ok (.ireturn, 1) := by decide +kernel
set_option maxRecDepth 20000 in
theorem ggX0_holds_X0_needGauge : GoodIn wsX0_holds wsX0_needGauge := goodIn_ca (goodIn_r _ [4, 5, 6] (by decide +kernel) (by decide +kernel)) (goodIn_sub (fun _ h => List.mem_cons_of_mem _ (List.mem_append_right _ h)) (by decide +kernel))
set_option maxRecDepth 20000 in
theorem gX0_holds_X0_needGauge : GoodIn wsX0_holds (va_wsS RX0 29 yX0_needGauge wsX0_needGauge) := goodIn_app (goodIn_of _ (by decide +kernel)) ggX0_holds_X0_needGauge
set_option maxRecDepth 20000 in
theorem ggX0_holds_X0_needWhat : GoodIn wsX0_holds wsX0_needWhat := goodIn_ca (goodIn_r _ [9, 5, 6] (by decide +kernel) (by decide +kernel)) (goodIn_sub (fun _ h => List.mem_cons_of_mem _ (List.mem_append_right _ h)) (by decide +kernel))
set_option maxRecDepth 20000 in
theorem gX0_holds_X0_needWhat : GoodIn wsX0_holds (va_wsS RX0 49 yX0_needWhat wsX0_needWhat) := goodIn_app (goodIn_of _ (by decide +kernel)) ggX0_holds_X0_needWhat
set_option maxRecDepth 20000 in
theorem ggX0_holds_X0_needRelation : GoodIn wsX0_holds wsX0_needRelation := goodIn_ca (goodIn_r _ [12, 5, 6] (by decide +kernel) (by decide +kernel)) (goodIn_sub (fun _ h => List.mem_cons_of_mem _ (List.mem_append_right _ h)) (by decide +kernel))
set_option maxRecDepth 20000 in
theorem gX0_holds_X0_needRelation : GoodIn wsX0_holds (va_wsS RX0 85 yX0_needRelation wsX0_needRelation) := goodIn_app (goodIn_of _ (by decide +kernel)) ggX0_holds_X0_needRelation
set_option maxRecDepth 20000 in
theorem ggX0_holds_X0_latestPlace : GoodIn wsX0_holds wsX0_latestPlace := goodIn_r _ [16, 17, 18, 19, 3, 20, 21, 22, 23, 30, 31, 32, 33, 34] (by decide +kernel) (by decide +kernel)
set_option maxRecDepth 20000 in
theorem gX0_holds_X0_latestPlace : GoodIn wsX0_holds (wsV RX0 102 RX0 yX0_latestPlace wsX0_latestPlace) := goodIn_app (goodIn_of _ (by decide +kernel)) ggX0_holds_X0_latestPlace
set_option maxRecDepth 20000 in
theorem ggX0_holds_X0_isRelated : GoodIn wsX0_holds wsX0_isRelated := goodIn_r _ [27, 28, 29, 30, 31, 32, 33, 34] (by decide +kernel) (by decide +kernel)
set_option maxRecDepth 20000 in
theorem gX0_holds_X0_isRelated : GoodIn wsX0_holds (wsV RX0 98 RX0 yX0_isRelated wsX0_isRelated) := goodIn_app (goodIn_of _ (by decide +kernel)) ggX0_holds_X0_isRelated
theorem dX0_holds_0 : decode cX0_holds 0 = .ok (.iload_n 1, 1) := by decide +kernel
theorem dX0_holds_1 : decode cX0_holds 1 = .ok (.invokestatic 29, 3) := by decide +kernel
theorem dX0_holds_4 : decode cX0_holds 4 = .ok (.iload_n 2, 1) := by decide +kernel
theorem dX0_holds_5 : decode cX0_holds 5 = .ok (.invokestatic 29, 3) := by decide +kernel
theorem dX0_holds_8 : decode cX0_holds 8 = .ok (.iload_n 3, 1) := by decide +kernel
theorem dX0_holds_9 : decode cX0_holds 9 = .ok (.invokestatic 49, 3) := by decide +kernel
theorem dX0_holds_12 : decode cX0_holds 12 = .ok (.iload 4, 2) := by decide +kernel
theorem dX0_holds_14 : decode cX0_holds 14 = .ok (.invokestatic 85, 3) := by decide +kernel
theorem dX0_holds_17 : decode cX0_holds 17 = .ok (.aload_n 0, 1) := by decide +kernel
theorem dX0_holds_18 : decode cX0_holds 18 = .ok (.aload_n 0, 1) := by decide +kernel
theorem dX0_holds_19 : decode cX0_holds 19 = .ok (.iload_n 1, 1) := by decide +kernel
theorem dX0_holds_20 : decode cX0_holds 20 = .ok (.iload_n 3, 1) := by decide +kernel
theorem dX0_holds_21 : decode cX0_holds 21 = .ok (.invokevirtual 102, 3) := by decide +kernel
theorem dX0_holds_24 : decode cX0_holds 24 = .ok (.aload_n 0, 1) := by decide +kernel
theorem dX0_holds_25 : decode cX0_holds 25 = .ok (.iload_n 2, 1) := by decide +kernel
theorem dX0_holds_26 : decode cX0_holds 26 = .ok (.iload_n 3, 1) := by decide +kernel
theorem dX0_holds_27 : decode cX0_holds 27 = .ok (.invokevirtual 102, 3) := by decide +kernel
theorem dX0_holds_30 : decode cX0_holds 30 = .ok (.iload 4, 2) := by decide +kernel
theorem dX0_holds_32 : decode cX0_holds 32 = .ok (.invokevirtual 98, 3) := by decide +kernel
theorem dX0_holds_35 : decode cX0_holds 35 = .ok (.ireturn, 1) := by decide +kernel
set_option maxRecDepth 20000 in
theorem ggX0_pick_X0_needGauge : GoodIn wsX0_pick wsX0_needGauge := goodIn_ca (goodIn_r _ [4, 5, 6] (by decide +kernel) (by decide +kernel)) (goodIn_sub (fun _ h => List.mem_cons_of_mem _ (List.mem_append_right _ h)) (by decide +kernel))
set_option maxRecDepth 20000 in
theorem gX0_pick_X0_needGauge : GoodIn wsX0_pick (va_wsS RX0 29 yX0_needGauge wsX0_needGauge) := goodIn_app (goodIn_of _ (by decide +kernel)) ggX0_pick_X0_needGauge
set_option maxRecDepth 20000 in
theorem ggX0_pick_X0_needWhat : GoodIn wsX0_pick wsX0_needWhat := goodIn_ca (goodIn_r _ [9, 5, 6] (by decide +kernel) (by decide +kernel)) (goodIn_sub (fun _ h => List.mem_cons_of_mem _ (List.mem_append_right _ h)) (by decide +kernel))
set_option maxRecDepth 20000 in
theorem gX0_pick_X0_needWhat : GoodIn wsX0_pick (va_wsS RX0 49 yX0_needWhat wsX0_needWhat) := goodIn_app (goodIn_of _ (by decide +kernel)) ggX0_pick_X0_needWhat
set_option maxRecDepth 20000 in
theorem ggX0_pick_X0_needRelation : GoodIn wsX0_pick wsX0_needRelation := goodIn_ca (goodIn_r _ [12, 5, 6] (by decide +kernel) (by decide +kernel)) (goodIn_sub (fun _ h => List.mem_cons_of_mem _ (List.mem_append_right _ h)) (by decide +kernel))
set_option maxRecDepth 20000 in
theorem gX0_pick_X0_needRelation : GoodIn wsX0_pick (va_wsS RX0 85 yX0_needRelation wsX0_needRelation) := goodIn_app (goodIn_of _ (by decide +kernel)) ggX0_pick_X0_needRelation
set_option maxRecDepth 20000 in
theorem ggX0_pick_X0_latestPlace : GoodIn wsX0_pick wsX0_latestPlace := goodIn_r _ [16, 17, 18, 19, 3, 20, 21, 22, 23, 30, 31, 32, 33, 34] (by decide +kernel) (by decide +kernel)
set_option maxRecDepth 20000 in
theorem gX0_pick_X0_latestPlace : GoodIn wsX0_pick (wsV RX0 102 RX0 yX0_latestPlace wsX0_latestPlace) := goodIn_app (goodIn_of _ (by decide +kernel)) ggX0_pick_X0_latestPlace
set_option maxRecDepth 20000 in
theorem ggX0_pick_X0_isRelated : GoodIn wsX0_pick wsX0_isRelated := goodIn_r _ [27, 28, 29, 30, 31, 32, 33, 34] (by decide +kernel) (by decide +kernel)
set_option maxRecDepth 20000 in
theorem gX0_pick_X0_isRelated : GoodIn wsX0_pick (wsV RX0 98 RX0 yX0_isRelated wsX0_isRelated) := goodIn_app (goodIn_of _ (by decide +kernel)) ggX0_pick_X0_isRelated
theorem dX0_pick_0 : decode cX0_pick 0 = .ok (.iload_n 1, 1) := by decide +kernel
theorem dX0_pick_1 : decode cX0_pick 1 = .ok (.invokestatic 29, 3) := by decide +kernel
theorem dX0_pick_4 : decode cX0_pick 4 = .ok (.iload_n 2, 1) := by decide +kernel
theorem dX0_pick_5 : decode cX0_pick 5 = .ok (.invokestatic 29, 3) := by decide +kernel
theorem dX0_pick_8 : decode cX0_pick 8 = .ok (.iload_n 3, 1) := by decide +kernel
theorem dX0_pick_9 : decode cX0_pick 9 = .ok (.invokestatic 49, 3) := by decide +kernel
theorem dX0_pick_12 : decode cX0_pick 12 = .ok (.iload 4, 2) := by decide +kernel
theorem dX0_pick_14 : decode cX0_pick 14 = .ok (.invokestatic 85, 3) := by decide +kernel
theorem dX0_pick_17 : decode cX0_pick 17 = .ok (.aload_n 0, 1) := by decide +kernel
theorem dX0_pick_18 : decode cX0_pick 18 = .ok (.iload_n 1, 1) := by decide +kernel
theorem dX0_pick_19 : decode cX0_pick 19 = .ok (.iload_n 3, 1) := by decide +kernel
theorem dX0_pick_20 : decode cX0_pick 20 = .ok (.invokevirtual 102, 3) := by decide +kernel
theorem dX0_pick_23 : decode cX0_pick 23 = .ok (.istore 5, 2) := by decide +kernel
theorem dX0_pick_25 : decode cX0_pick 25 = .ok (.aload_n 0, 1) := by decide +kernel
theorem dX0_pick_26 : decode cX0_pick 26 = .ok (.iload_n 2, 1) := by decide +kernel
theorem dX0_pick_27 : decode cX0_pick 27 = .ok (.iload_n 3, 1) := by decide +kernel
theorem dX0_pick_28 : decode cX0_pick 28 = .ok (.invokevirtual 102, 3) := by decide +kernel
theorem dX0_pick_31 : decode cX0_pick 31 = .ok (.istore 6, 2) := by decide +kernel
theorem dX0_pick_33 : decode cX0_pick 33 = .ok (.aload_n 0, 1) := by decide +kernel
theorem dX0_pick_34 : decode cX0_pick 34 = .ok (.iload 5, 2) := by decide +kernel
theorem dX0_pick_36 : decode cX0_pick 36 = .ok (.iload 6, 2) := by decide +kernel
theorem dX0_pick_38 : decode cX0_pick 38 = .ok (.iload 4, 2) := by decide +kernel
theorem dX0_pick_40 : decode cX0_pick 40 = .ok (.invokevirtual 98, 3) := by decide +kernel
theorem dX0_pick_43 : decode cX0_pick 43 = .ok (.ifCond .eq 5, 3) := by decide +kernel
theorem dX0_pick_46 : decode cX0_pick 46 = .ok (.iload_n 1, 1) := by decide +kernel
theorem dX0_pick_47 : decode cX0_pick 47 = .ok (.ireturn, 1) := by decide +kernel
theorem dX0_pick_48 : decode cX0_pick 48 = .ok (.aload_n 0, 1) := by decide +kernel
theorem dX0_pick_49 : decode cX0_pick 49 = .ok (.iload 6, 2) := by decide +kernel
theorem dX0_pick_51 : decode cX0_pick 51 = .ok (.iload 5, 2) := by decide +kernel
theorem dX0_pick_53 : decode cX0_pick 53 = .ok (.iload 4, 2) := by decide +kernel
theorem dX0_pick_55 : decode cX0_pick 55 = .ok (.invokevirtual 98, 3) := by decide +kernel
theorem dX0_pick_58 : decode cX0_pick 58 = .ok (.ifCond .eq 7, 3) := by decide +kernel
theorem dX0_pick_61 : decode cX0_pick 61 = .ok (.iload_n 2, 1) := by decide +kernel
theorem dX0_pick_62 : decode cX0_pick 62 = .ok (.goto 4, 3) := by decide +kernel
theorem dX0_pick_65 : decode cX0_pick 65 = .ok (.iconst (-1), 1) := by decide +kernel
theorem dX0_pick_66 : decode cX0_pick 66 = .ok (.ireturn, 1) := by decide +kernel
set_option maxRecDepth 20000 in
theorem ggX0_stand_X0_needGauge : GoodIn wsX0_stand wsX0_needGauge := goodIn_ca (goodIn_r _ [4, 5, 6] (by decide +kernel) (by decide +kernel)) (goodIn_sub (fun _ h => List.mem_cons_of_mem _ (List.mem_append_right _ h)) (by decide +kernel))
set_option maxRecDepth 20000 in
theorem gX0_stand_X0_needGauge : GoodIn wsX0_stand (va_wsS RX0 29 yX0_needGauge wsX0_needGauge) := goodIn_app (goodIn_of _ (by decide +kernel)) ggX0_stand_X0_needGauge
set_option maxRecDepth 20000 in
theorem ggX0_stand_X0_standOfLevel : GoodIn wsX0_stand wsX0_standOfLevel := goodIn_r _ [10, 11, 12, 13, 14, 3, 15, 16, 17, 18, 19, 20, 21, 22, 23, 24, 25, 26, 27, 28, 29, 30, 35, 36, 37, 38, 39] (by decide +kernel) (by decide +kernel)
set_option maxRecDepth 20000 in
theorem gX0_stand_X0_standOfLevel : GoodIn wsX0_stand (wsV RX0 105 RX0 yX0_standOfLevel wsX0_standOfLevel) := goodIn_app (goodIn_of _ (by decide +kernel)) ggX0_stand_X0_standOfLevel
set_option maxRecDepth 20000 in
theorem ggX0_stand_X0_standOfWind : GoodIn wsX0_stand wsX0_standOfWind := goodIn_r _ [34, 12, 16, 17, 18, 3, 19, 11, 13, 14, 15, 20, 21, 22, 23, 24, 25, 26, 27, 28, 29, 30, 35, 36, 37, 38, 39] (by decide +kernel) (by decide +kernel)
set_option maxRecDepth 20000 in
theorem gX0_stand_X0_standOfWind : GoodIn wsX0_stand (wsV RX0 108 RX0 yX0_standOfWind wsX0_standOfWind) := goodIn_app (goodIn_of _ (by decide +kernel)) ggX0_stand_X0_standOfWind
theorem dX0_stand_0 : decode cX0_stand 0 = .ok (.iload_n 1, 1) := by decide +kernel
theorem dX0_stand_1 : decode cX0_stand 1 = .ok (.invokestatic 29, 3) := by decide +kernel
theorem dX0_stand_4 : decode cX0_stand 4 = .ok (.aload_n 0, 1) := by decide +kernel
theorem dX0_stand_5 : decode cX0_stand 5 = .ok (.iload_n 1, 1) := by decide +kernel
theorem dX0_stand_6 : decode cX0_stand 6 = .ok (.invokevirtual 105, 3) := by decide +kernel
theorem dX0_stand_9 : decode cX0_stand 9 = .ok (.aload_n 0, 1) := by decide +kernel
theorem dX0_stand_10 : decode cX0_stand 10 = .ok (.iload_n 1, 1) := by decide +kernel
theorem dX0_stand_11 : decode cX0_stand 11 = .ok (.invokevirtual 108, 3) := by decide +kernel
theorem dX0_stand_14 : decode cX0_stand 14 = .ok (.iadd, 1) := by decide +kernel
theorem dX0_stand_15 : decode cX0_stand 15 = .ok (.ireturn, 1) := by decide +kernel
set_option maxRecDepth 20000 in
theorem ggX0_order_X0_gaugesAheadOf : GoodIn wsX0_order wsX0_gaugesAheadOf := goodIn_r _ [7, 8, 9, 10, 6, 11, 12, 13, 14, 15, 16, 17, 18, 19, 20, 21, 22, 23, 24, 25, 26, 27, 28, 29, 30, 31, 32, 33, 34, 35, 36, 37] (by decide +kernel) (by decide +kernel)
set_option maxRecDepth 20000 in
theorem gX0_order_X0_gaugesAheadOf : GoodIn wsX0_order (wsV RX0 113 RX0 yX0_gaugesAheadOf wsX0_gaugesAheadOf) := goodIn_app (goodIn_of _ (by decide +kernel)) ggX0_order_X0_gaugesAheadOf
theorem dX0_order_0 : decode cX0_order 0 = .ok (.iload_n 1, 1) := by decide +kernel
theorem dX0_order_1 : decode cX0_order 1 = .ok (.ifCond .lt 9, 3) := by decide +kernel
theorem dX0_order_4 : decode cX0_order 4 = .ok (.iload_n 1, 1) := by decide +kernel
theorem dX0_order_5 : decode cX0_order 5 = .ok (.bipush 6, 2) := by decide +kernel
theorem dX0_order_7 : decode cX0_order 7 = .ok (.if_icmp .lt 13, 3) := by decide +kernel
theorem dX0_order_10 : decode cX0_order 10 = .ok (.new 59, 3) := by decide +kernel
theorem dX0_order_13 : decode cX0_order 13 = .ok (.dup, 1) := by decide +kernel
theorem dX0_order_14 : decode cX0_order 14 = .ok (.ldc 111, 2) := by decide +kernel
theorem dX0_order_16 : decode cX0_order 16 = .ok (.invokespecial 63, 3) := by decide +kernel
theorem dX0_order_19 : decode cX0_order 19 = .ok (.athrow, 1) := by decide +kernel
theorem dX0_order_20 : decode cX0_order 20 = .ok (.iconst (-1), 1) := by decide +kernel
theorem dX0_order_21 : decode cX0_order 21 = .ok (.istore_n 2, 1) := by decide +kernel
theorem dX0_order_22 : decode cX0_order 22 = .ok (.iconst 0, 1) := by decide +kernel
theorem dX0_order_23 : decode cX0_order 23 = .ok (.istore_n 3, 1) := by decide +kernel
theorem dX0_order_24 : decode cX0_order 24 = .ok (.iload_n 3, 1) := by decide +kernel
theorem dX0_order_25 : decode cX0_order 25 = .ok (.bipush 6, 2) := by decide +kernel
theorem dX0_order_27 : decode cX0_order 27 = .ok (.if_icmp .ge 20, 3) := by decide +kernel
theorem dX0_order_30 : decode cX0_order 30 = .ok (.aload_n 0, 1) := by decide +kernel
theorem dX0_order_31 : decode cX0_order 31 = .ok (.iload_n 3, 1) := by decide +kernel
theorem dX0_order_32 : decode cX0_order 32 = .ok (.invokevirtual 113, 3) := by decide +kernel
theorem dX0_order_35 : decode cX0_order 35 = .ok (.iload_n 1, 1) := by decide +kernel
theorem dX0_order_36 : decode cX0_order 36 = .ok (.if_icmp .ne 5, 3) := by decide +kernel
theorem dX0_order_39 : decode cX0_order 39 = .ok (.iload_n 3, 1) := by decide +kernel
theorem dX0_order_40 : decode cX0_order 40 = .ok (.istore_n 2, 1) := by decide +kernel
theorem dX0_order_41 : decode cX0_order 41 = .ok (.iinc 3 1, 3) := by decide +kernel
theorem dX0_order_44 : decode cX0_order 44 = .ok (.goto (-20), 3) := by decide +kernel
theorem dX0_order_47 : decode cX0_order 47 = .ok (.iload_n 2, 1) := by decide +kernel
theorem dX0_order_48 : decode cX0_order 48 = .ok (.ireturn, 1) := by decide +kernel
set_option maxRecDepth 20000 in
theorem ggX0_highest_X0_needGauge : GoodIn wsX0_highest wsX0_needGauge := goodIn_ca (goodIn_r _ [5, 6, 7] (by decide +kernel) (by decide +kernel)) (goodIn_sub (fun _ h => List.mem_cons_of_mem _ (List.mem_append_left _ (List.mem_append_right _ h))) (by decide +kernel))
set_option maxRecDepth 20000 in
theorem gX0_highest_X0_needGauge : GoodIn wsX0_highest (va_wsS RX0 29 yX0_needGauge wsX0_needGauge) := goodIn_app (goodIn_of _ (by decide +kernel)) ggX0_highest_X0_needGauge
set_option maxRecDepth 20000 in
theorem ggX0_highest_X0_stripOf : GoodIn wsX0_highest wsX0_stripOf := goodIn_r _ [10] (by decide +kernel) (by decide +kernel)
set_option maxRecDepth 20000 in
theorem gX0_highest_X0_stripOf : GoodIn wsX0_highest (va_wsS RX0 37 yX0_stripOf wsX0_stripOf) := goodIn_app (goodIn_of _ (by decide +kernel)) ggX0_highest_X0_stripOf
set_option maxRecDepth 20000 in
theorem ggX0_highest_X0_extremePlace : GoodIn wsX0_highest wsX0_extremePlace := goodIn_ca (goodIn_r _ [14, 15, 16, 17, 18, 19, 20, 4, 21, 22, 23, 24, 25, 1, 26, 27, 28, 29, 30] (by decide +kernel) (by decide +kernel)) (goodIn_sub (fun _ h => List.mem_cons_of_mem _ (List.mem_append_right _ h)) (by decide +kernel))
set_option maxRecDepth 20000 in
theorem gX0_highest_X0_extremePlace : GoodIn wsX0_highest (wsV RX0 116 RX0 yX0_extremePlace wsX0_extremePlace) := goodIn_app (goodIn_of _ (by decide +kernel)) ggX0_highest_X0_extremePlace
theorem dX0_highest_0 : decode cX0_highest 0 = .ok (.iload_n 1, 1) := by decide +kernel
theorem dX0_highest_1 : decode cX0_highest 1 = .ok (.invokestatic 29, 3) := by decide +kernel
theorem dX0_highest_4 : decode cX0_highest 4 = .ok (.aload_n 0, 1) := by decide +kernel
theorem dX0_highest_5 : decode cX0_highest 5 = .ok (.getfield 13, 3) := by decide +kernel
theorem dX0_highest_8 : decode cX0_highest 8 = .ok (.aload_n 0, 1) := by decide +kernel
theorem dX0_highest_9 : decode cX0_highest 9 = .ok (.iload_n 1, 1) := by decide +kernel
theorem dX0_highest_10 : decode cX0_highest 10 = .ok (.iconst 0, 1) := by decide +kernel
theorem dX0_highest_11 : decode cX0_highest 11 = .ok (.invokestatic 37, 3) := by decide +kernel
theorem dX0_highest_14 : decode cX0_highest 14 = .ok (.iconst 2, 1) := by decide +kernel
theorem dX0_highest_15 : decode cX0_highest 15 = .ok (.invokevirtual 116, 3) := by decide +kernel
theorem dX0_highest_18 : decode cX0_highest 18 = .ok (.daload, 1) := by decide +kernel
theorem dX0_highest_19 : decode cX0_highest 19 = .ok (.dreturn, 1) := by decide +kernel
set_option maxRecDepth 20000 in
theorem ggX0_calmest_X0_needGauge : GoodIn wsX0_calmest wsX0_needGauge := goodIn_ca (goodIn_r _ [5, 6, 7] (by decide +kernel) (by decide +kernel)) (goodIn_sub (fun _ h => List.mem_cons_of_mem _ (List.mem_append_left _ (List.mem_append_right _ h))) (by decide +kernel))
set_option maxRecDepth 20000 in
theorem gX0_calmest_X0_needGauge : GoodIn wsX0_calmest (va_wsS RX0 29 yX0_needGauge wsX0_needGauge) := goodIn_app (goodIn_of _ (by decide +kernel)) ggX0_calmest_X0_needGauge
set_option maxRecDepth 20000 in
theorem ggX0_calmest_X0_stripOf : GoodIn wsX0_calmest wsX0_stripOf := goodIn_r _ [10] (by decide +kernel) (by decide +kernel)
set_option maxRecDepth 20000 in
theorem gX0_calmest_X0_stripOf : GoodIn wsX0_calmest (va_wsS RX0 37 yX0_stripOf wsX0_stripOf) := goodIn_app (goodIn_of _ (by decide +kernel)) ggX0_calmest_X0_stripOf
set_option maxRecDepth 20000 in
theorem ggX0_calmest_X0_extremePlace : GoodIn wsX0_calmest wsX0_extremePlace := goodIn_ca (goodIn_r _ [14, 15, 16, 17, 18, 19, 20, 4, 21, 22, 23, 24, 25, 1, 26, 27, 28, 29, 30] (by decide +kernel) (by decide +kernel)) (goodIn_sub (fun _ h => List.mem_cons_of_mem _ (List.mem_append_right _ h)) (by decide +kernel))
set_option maxRecDepth 20000 in
theorem gX0_calmest_X0_extremePlace : GoodIn wsX0_calmest (wsV RX0 116 RX0 yX0_extremePlace wsX0_extremePlace) := goodIn_app (goodIn_of _ (by decide +kernel)) ggX0_calmest_X0_extremePlace
theorem dX0_calmest_0 : decode cX0_calmest 0 = .ok (.iload_n 1, 1) := by decide +kernel
theorem dX0_calmest_1 : decode cX0_calmest 1 = .ok (.invokestatic 29, 3) := by decide +kernel
theorem dX0_calmest_4 : decode cX0_calmest 4 = .ok (.aload_n 0, 1) := by decide +kernel
theorem dX0_calmest_5 : decode cX0_calmest 5 = .ok (.getfield 13, 3) := by decide +kernel
theorem dX0_calmest_8 : decode cX0_calmest 8 = .ok (.aload_n 0, 1) := by decide +kernel
theorem dX0_calmest_9 : decode cX0_calmest 9 = .ok (.iload_n 1, 1) := by decide +kernel
theorem dX0_calmest_10 : decode cX0_calmest 10 = .ok (.iconst 1, 1) := by decide +kernel
theorem dX0_calmest_11 : decode cX0_calmest 11 = .ok (.invokestatic 37, 3) := by decide +kernel
theorem dX0_calmest_14 : decode cX0_calmest 14 = .ok (.iconst 0, 1) := by decide +kernel
theorem dX0_calmest_15 : decode cX0_calmest 15 = .ok (.invokevirtual 116, 3) := by decide +kernel
theorem dX0_calmest_18 : decode cX0_calmest 18 = .ok (.daload, 1) := by decide +kernel
theorem dX0_calmest_19 : decode cX0_calmest 19 = .ok (.d2f, 1) := by decide +kernel
theorem dX0_calmest_20 : decode cX0_calmest 20 = .ok (.freturn, 1) := by decide +kernel
set_option maxRecDepth 20000 in
theorem ggX0_same_X0_needGauge : GoodIn wsX0_same wsX0_needGauge := goodIn_ca (goodIn_r _ [9, 10, 11] (by decide +kernel) (by decide +kernel)) (goodIn_sub (fun _ h => List.mem_cons_of_mem _ (List.mem_append_right _ h)) (by decide +kernel))
set_option maxRecDepth 20000 in
theorem gX0_same_X0_needGauge : GoodIn wsX0_same (va_wsS RX0 29 yX0_needGauge wsX0_needGauge) := goodIn_app (goodIn_of _ (by decide +kernel)) ggX0_same_X0_needGauge
set_option maxRecDepth 20000 in
theorem ggX0_same_X0_stripOf : GoodIn wsX0_same wsX0_stripOf := goodIn_r _ [14] (by decide +kernel) (by decide +kernel)
set_option maxRecDepth 20000 in
theorem gX0_same_X0_stripOf : GoodIn wsX0_same (va_wsS RX0 37 yX0_stripOf wsX0_stripOf) := goodIn_app (goodIn_of _ (by decide +kernel)) ggX0_same_X0_stripOf
set_option maxRecDepth 20000 in
theorem ggX0_same_X0_stripPlace : GoodIn wsX0_same wsX0_stripPlace := goodIn_r _ [17] (by decide +kernel) (by decide +kernel)
set_option maxRecDepth 20000 in
theorem gX0_same_X0_stripPlace : GoodIn wsX0_same (va_wsS RX0 95 yX0_stripPlace wsX0_stripPlace) := goodIn_app (goodIn_of _ (by decide +kernel)) ggX0_same_X0_stripPlace
set_option maxRecDepth 20000 in
theorem ggX0_same_X0_likenessOf : GoodIn wsX0_same wsX0_likenessOf := goodIn_r _ [21, 22, 23, 24, 25, 8, 26, 27, 28, 29, 30, 31, 32] (by decide +kernel) (by decide +kernel)
set_option maxRecDepth 20000 in
theorem gX0_same_X0_likenessOf : GoodIn wsX0_same (wsV RX0 119 RX0 yX0_likenessOf wsX0_likenessOf) := goodIn_app (goodIn_of _ (by decide +kernel)) ggX0_same_X0_likenessOf
theorem dX0_same_0 : decode cX0_same 0 = .ok (.iload_n 1, 1) := by decide +kernel
theorem dX0_same_1 : decode cX0_same 1 = .ok (.invokestatic 29, 3) := by decide +kernel
theorem dX0_same_4 : decode cX0_same 4 = .ok (.iload_n 2, 1) := by decide +kernel
theorem dX0_same_5 : decode cX0_same 5 = .ok (.invokestatic 29, 3) := by decide +kernel
theorem dX0_same_8 : decode cX0_same 8 = .ok (.iload_n 1, 1) := by decide +kernel
theorem dX0_same_9 : decode cX0_same 9 = .ok (.iconst 0, 1) := by decide +kernel
theorem dX0_same_10 : decode cX0_same 10 = .ok (.invokestatic 37, 3) := by decide +kernel
theorem dX0_same_13 : decode cX0_same 13 = .ok (.istore_n 3, 1) := by decide +kernel
theorem dX0_same_14 : decode cX0_same 14 = .ok (.iload_n 2, 1) := by decide +kernel
theorem dX0_same_15 : decode cX0_same 15 = .ok (.iconst 0, 1) := by decide +kernel
theorem dX0_same_16 : decode cX0_same 16 = .ok (.invokestatic 37, 3) := by decide +kernel
theorem dX0_same_19 : decode cX0_same 19 = .ok (.istore 4, 2) := by decide +kernel
theorem dX0_same_21 : decode cX0_same 21 = .ok (.aload_n 0, 1) := by decide +kernel
theorem dX0_same_22 : decode cX0_same 22 = .ok (.getfield 17, 3) := by decide +kernel
theorem dX0_same_25 : decode cX0_same 25 = .ok (.iload_n 3, 1) := by decide +kernel
theorem dX0_same_26 : decode cX0_same 26 = .ok (.iaload, 1) := by decide +kernel
theorem dX0_same_27 : decode cX0_same 27 = .ok (.aload_n 0, 1) := by decide +kernel
theorem dX0_same_28 : decode cX0_same 28 = .ok (.getfield 17, 3) := by decide +kernel
theorem dX0_same_31 : decode cX0_same 31 = .ok (.iload 4, 2) := by decide +kernel
theorem dX0_same_33 : decode cX0_same 33 = .ok (.iaload, 1) := by decide +kernel
theorem dX0_same_34 : decode cX0_same 34 = .ok (.if_icmp .eq 5, 3) := by decide +kernel
theorem dX0_same_37 : decode cX0_same 37 = .ok (.iconst 0, 1) := by decide +kernel
theorem dX0_same_38 : decode cX0_same 38 = .ok (.ireturn, 1) := by decide +kernel
theorem dX0_same_39 : decode cX0_same 39 = .ok (.iconst 2, 1) := by decide +kernel
theorem dX0_same_40 : decode cX0_same 40 = .ok (.istore 5, 2) := by decide +kernel
theorem dX0_same_42 : decode cX0_same 42 = .ok (.iconst 0, 1) := by decide +kernel
theorem dX0_same_43 : decode cX0_same 43 = .ok (.istore 6, 2) := by decide +kernel
theorem dX0_same_45 : decode cX0_same 45 = .ok (.iload 6, 2) := by decide +kernel
theorem dX0_same_47 : decode cX0_same 47 = .ok (.aload_n 0, 1) := by decide +kernel
theorem dX0_same_48 : decode cX0_same 48 = .ok (.getfield 17, 3) := by decide +kernel
theorem dX0_same_51 : decode cX0_same 51 = .ok (.iload_n 3, 1) := by decide +kernel
theorem dX0_same_52 : decode cX0_same 52 = .ok (.iaload, 1) := by decide +kernel
theorem dX0_same_53 : decode cX0_same 53 = .ok (.if_icmp .ge 33, 3) := by decide +kernel
theorem dX0_same_56 : decode cX0_same 56 = .ok (.iload 5, 2) := by decide +kernel
theorem dX0_same_58 : decode cX0_same 58 = .ok (.aload_n 0, 1) := by decide +kernel
theorem dX0_same_59 : decode cX0_same 59 = .ok (.iload_n 3, 1) := by decide +kernel
theorem dX0_same_60 : decode cX0_same 60 = .ok (.iload 6, 2) := by decide +kernel
theorem dX0_same_62 : decode cX0_same 62 = .ok (.invokestatic 95, 3) := by decide +kernel
theorem dX0_same_65 : decode cX0_same 65 = .ok (.iload 4, 2) := by decide +kernel
theorem dX0_same_67 : decode cX0_same 67 = .ok (.iload 6, 2) := by decide +kernel
theorem dX0_same_69 : decode cX0_same 69 = .ok (.invokestatic 95, 3) := by decide +kernel
theorem dX0_same_72 : decode cX0_same 72 = .ok (.invokevirtual 119, 3) := by decide +kernel
theorem dX0_same_75 : decode cX0_same 75 = .ok (.invokestatic 122, 3) := by decide +kernel
theorem dX0_same_78 : decode cX0_same 78 = .ok (.istore 5, 2) := by decide +kernel
theorem dX0_same_80 : decode cX0_same 80 = .ok (.iinc 6 1, 3) := by decide +kernel
theorem dX0_same_83 : decode cX0_same 83 = .ok (.goto (-38), 3) := by decide +kernel
theorem dX0_same_86 : decode cX0_same 86 = .ok (.iload 5, 2) := by decide +kernel
theorem dX0_same_88 : decode cX0_same 88 = .ok (.ireturn, 1) := by decide +kernel
set_option maxRecDepth 20000 in
theorem ggX0_move_X0_needMayOpen : GoodIn wsX0_move wsX0_needMayOpen := goodIn_ca (goodIn_ca (goodIn_r _ [9, 10, 11, 12, 13, 14, 15, 16, 17, 8, 18, 19, 20, 21, 22, 23, 24, 25, 26, 27, 28, 29, 30, 31, 32, 33, 38, 39, 40, 41, 42] (by decide +kernel) (by decide +kernel)) (goodIn_sub (fun _ h => List.mem_cons_of_mem _ (List.mem_append_left _ (List.mem_append_right _ h))) (by decide +kernel))) (goodIn_sub (fun _ h => List.mem_cons_of_mem _ (List.mem_append_right _ h)) (by decide +kernel))
set_option maxRecDepth 20000 in
theorem gX0_move_X0_needMayOpen : GoodIn wsX0_move (wsV RX0 132 RX0 yX0_needMayOpen wsX0_needMayOpen) := goodIn_app (goodIn_of _ (by decide +kernel)) ggX0_move_X0_needMayOpen
set_option maxRecDepth 20000 in
theorem ggX0_move_X0_needMayShut : GoodIn wsX0_move wsX0_needMayShut := goodIn_ca (goodIn_ca (goodIn_r _ [37, 10, 11, 12, 13, 15, 16, 17, 8, 18, 19, 20, 21, 22, 23, 24, 25, 31, 32, 33, 26, 27, 28, 29, 14, 30, 38, 39, 40, 41, 42] (by decide +kernel) (by decide +kernel)) (goodIn_sub (fun _ h => List.mem_cons_of_mem _ (List.mem_append_left _ (List.mem_append_right _ h))) (by decide +kernel))) (goodIn_sub (fun _ h => List.mem_cons_of_mem _ (List.mem_append_right _ h)) (by decide +kernel))
set_option maxRecDepth 20000 in
theorem gX0_move_X0_needMayShut : GoodIn wsX0_move (wsV RX0 135 RX0 yX0_needMayShut wsX0_needMayShut) := goodIn_app (goodIn_of _ (by decide +kernel)) ggX0_move_X0_needMayShut
theorem dX0_move_0 : decode cX0_move 0 = .ok (.iload_n 1, 1) := by decide +kernel
theorem dX0_move_1 : decode cX0_move 1 = .ok (.aload_n 0, 1) := by decide +kernel
theorem dX0_move_2 : decode cX0_move 2 = .ok (.getfield 21, 3) := by decide +kernel
theorem dX0_move_5 : decode cX0_move 5 = .ok (.if_icmp .ne 13, 3) := by decide +kernel
theorem dX0_move_8 : decode cX0_move 8 = .ok (.new 127, 3) := by decide +kernel
theorem dX0_move_11 : decode cX0_move 11 = .ok (.dup, 1) := by decide +kernel
theorem dX0_move_12 : decode cX0_move 12 = .ok (.ldc 129, 2) := by decide +kernel
theorem dX0_move_14 : decode cX0_move 14 = .ok (.invokespecial 131, 3) := by decide +kernel
theorem dX0_move_17 : decode cX0_move 17 = .ok (.athrow, 1) := by decide +kernel
theorem dX0_move_18 : decode cX0_move 18 = .ok (.iload_n 1, 1) := by decide +kernel
theorem dX0_move_19 : decode cX0_move 19 = .ok (.ifCond .eq 10, 3) := by decide +kernel
theorem dX0_move_22 : decode cX0_move 22 = .ok (.aload_n 0, 1) := by decide +kernel
theorem dX0_move_23 : decode cX0_move 23 = .ok (.invokevirtual 132, 3) := by decide +kernel
theorem dX0_move_26 : decode cX0_move 26 = .ok (.goto 7, 3) := by decide +kernel
theorem dX0_move_29 : decode cX0_move 29 = .ok (.aload_n 0, 1) := by decide +kernel
theorem dX0_move_30 : decode cX0_move 30 = .ok (.invokevirtual 135, 3) := by decide +kernel
theorem dX0_move_33 : decode cX0_move 33 = .ok (.aload_n 0, 1) := by decide +kernel
theorem dX0_move_34 : decode cX0_move 34 = .ok (.iload_n 1, 1) := by decide +kernel
theorem dX0_move_35 : decode cX0_move 35 = .ok (.putfield 21, 3) := by decide +kernel
theorem dX0_move_38 : decode cX0_move 38 = .ok (.aload_n 0, 1) := by decide +kernel
theorem dX0_move_39 : decode cX0_move 39 = .ok (.dup, 1) := by decide +kernel
theorem dX0_move_40 : decode cX0_move 40 = .ok (.getfield 25, 3) := by decide +kernel
theorem dX0_move_43 : decode cX0_move 43 = .ok (.iconst 1, 1) := by decide +kernel
theorem dX0_move_44 : decode cX0_move 44 = .ok (.iadd, 1) := by decide +kernel
theorem dX0_move_45 : decode cX0_move 45 = .ok (.putfield 25, 3) := by decide +kernel
theorem dX0_move_48 : decode cX0_move 48 = .ok (.aload_n 0, 1) := by decide +kernel
theorem dX0_move_49 : decode cX0_move 49 = .ok (.getfield 25, 3) := by decide +kernel
theorem dX0_move_52 : decode cX0_move 52 = .ok (.ireturn, 1) := by decide +kernel
set_option maxRecDepth 20000 in
theorem ggX0_size_X0_needGauge : GoodIn wsX0_size wsX0_needGauge := goodIn_ca (goodIn_r _ [5, 6, 7] (by decide +kernel) (by decide +kernel)) (goodIn_sub (fun _ h => List.mem_cons_of_mem _ (List.mem_append_right _ h)) (by decide +kernel))
set_option maxRecDepth 20000 in
theorem gX0_size_X0_needGauge : GoodIn wsX0_size (va_wsS RX0 29 yX0_needGauge wsX0_needGauge) := goodIn_app (goodIn_of _ (by decide +kernel)) ggX0_size_X0_needGauge
set_option maxRecDepth 20000 in
theorem ggX0_size_X0_needWhat : GoodIn wsX0_size wsX0_needWhat := goodIn_ca (goodIn_r _ [10, 6, 7] (by decide +kernel) (by decide +kernel)) (goodIn_sub (fun _ h => List.mem_cons_of_mem _ (List.mem_append_right _ h)) (by decide +kernel))
set_option maxRecDepth 20000 in
theorem gX0_size_X0_needWhat : GoodIn wsX0_size (va_wsS RX0 49 yX0_needWhat wsX0_needWhat) := goodIn_app (goodIn_of _ (by decide +kernel)) ggX0_size_X0_needWhat
set_option maxRecDepth 20000 in
theorem ggX0_size_X0_stripOf : GoodIn wsX0_size wsX0_stripOf := goodIn_r _ [13] (by decide +kernel) (by decide +kernel)
set_option maxRecDepth 20000 in
theorem gX0_size_X0_stripOf : GoodIn wsX0_size (va_wsS RX0 37 yX0_stripOf wsX0_stripOf) := goodIn_app (goodIn_of _ (by decide +kernel)) ggX0_size_X0_stripOf
theorem dX0_size_0 : decode cX0_size 0 = .ok (.iload_n 1, 1) := by decide +kernel
theorem dX0_size_1 : decode cX0_size 1 = .ok (.invokestatic 29, 3) := by decide +kernel
theorem dX0_size_4 : decode cX0_size 4 = .ok (.iload_n 2, 1) := by decide +kernel
theorem dX0_size_5 : decode cX0_size 5 = .ok (.invokestatic 49, 3) := by decide +kernel
theorem dX0_size_8 : decode cX0_size 8 = .ok (.aload_n 0, 1) := by decide +kernel
theorem dX0_size_9 : decode cX0_size 9 = .ok (.getfield 17, 3) := by decide +kernel
theorem dX0_size_12 : decode cX0_size 12 = .ok (.iload_n 1, 1) := by decide +kernel
theorem dX0_size_13 : decode cX0_size 13 = .ok (.iload_n 2, 1) := by decide +kernel
theorem dX0_size_14 : decode cX0_size 14 = .ok (.invokestatic 37, 3) := by decide +kernel
theorem dX0_size_17 : decode cX0_size 17 = .ok (.iaload, 1) := by decide +kernel
theorem dX0_size_18 : decode cX0_size 18 = .ok (.ireturn, 1) := by decide +kernel
theorem dX0_needGauge_0 : decode cX0_needGauge 0 = .ok (.iload_n 0, 1) := by decide +kernel
theorem dX0_needGauge_1 : decode cX0_needGauge 1 = .ok (.ifCond .lt 9, 3) := by decide +kernel
theorem dX0_needGauge_4 : decode cX0_needGauge 4 = .ok (.iload_n 0, 1) := by decide +kernel
theorem dX0_needGauge_5 : decode cX0_needGauge 5 = .ok (.bipush 6, 2) := by decide +kernel
theorem dX0_needGauge_7 : decode cX0_needGauge 7 = .ok (.if_icmp .lt 13, 3) := by decide +kernel
theorem dX0_needGauge_10 : decode cX0_needGauge 10 = .ok (.new 59, 3) := by decide +kernel
theorem dX0_needGauge_13 : decode cX0_needGauge 13 = .ok (.dup, 1) := by decide +kernel
theorem dX0_needGauge_14 : decode cX0_needGauge 14 = .ok (.ldc 138, 2) := by decide +kernel
theorem dX0_needGauge_16 : decode cX0_needGauge 16 = .ok (.invokespecial 63, 3) := by decide +kernel
theorem dX0_needGauge_19 : decode cX0_needGauge 19 = .ok (.athrow, 1) := by decide +kernel
theorem dX0_needGauge_20 : decode cX0_needGauge 20 = .ok (.return_, 1) := by decide +kernel
theorem dX0_needWhat_0 : decode cX0_needWhat 0 = .ok (.iload_n 0, 1) := by decide +kernel
theorem dX0_needWhat_1 : decode cX0_needWhat 1 = .ok (.ifCond .lt 8, 3) := by decide +kernel
theorem dX0_needWhat_4 : decode cX0_needWhat 4 = .ok (.iload_n 0, 1) := by decide +kernel
theorem dX0_needWhat_5 : decode cX0_needWhat 5 = .ok (.iconst 2, 1) := by decide +kernel
theorem dX0_needWhat_6 : decode cX0_needWhat 6 = .ok (.if_icmp .lt 13, 3) := by decide +kernel
theorem dX0_needWhat_9 : decode cX0_needWhat 9 = .ok (.new 59, 3) := by decide +kernel
theorem dX0_needWhat_12 : decode cX0_needWhat 12 = .ok (.dup, 1) := by decide +kernel
theorem dX0_needWhat_13 : decode cX0_needWhat 13 = .ok (.ldc 140, 2) := by decide +kernel
theorem dX0_needWhat_15 : decode cX0_needWhat 15 = .ok (.invokespecial 63, 3) := by decide +kernel
theorem dX0_needWhat_18 : decode cX0_needWhat 18 = .ok (.athrow, 1) := by decide +kernel
theorem dX0_needWhat_19 : decode cX0_needWhat 19 = .ok (.return_, 1) := by decide +kernel
theorem dX0_needRelation_0 : decode cX0_needRelation 0 = .ok (.iload_n 0, 1) := by decide +kernel
theorem dX0_needRelation_1 : decode cX0_needRelation 1 = .ok (.ifCond .lt 9, 3) := by decide +kernel
theorem dX0_needRelation_4 : decode cX0_needRelation 4 = .ok (.iload_n 0, 1) := by decide +kernel
theorem dX0_needRelation_5 : decode cX0_needRelation 5 = .ok (.bipush 6, 2) := by decide +kernel
theorem dX0_needRelation_7 : decode cX0_needRelation 7 = .ok (.if_icmp .lt 13, 3) := by decide +kernel
theorem dX0_needRelation_10 : decode cX0_needRelation 10 = .ok (.new 59, 3) := by decide +kernel
theorem dX0_needRelation_13 : decode cX0_needRelation 13 = .ok (.dup, 1) := by decide +kernel
theorem dX0_needRelation_14 : decode cX0_needRelation 14 = .ok (.ldc 142, 2) := by decide +kernel
theorem dX0_needRelation_16 : decode cX0_needRelation 16 = .ok (.invokespecial 63, 3) := by decide +kernel
theorem dX0_needRelation_19 : decode cX0_needRelation 19 = .ok (.athrow, 1) := by decide +kernel
theorem dX0_needRelation_20 : decode cX0_needRelation 20 = .ok (.return_, 1) := by decide +kernel
theorem dX0_needLevel_0 : decode cX0_needLevel 0 = .ok (.dload_n 0, 1) := by decide +kernel
theorem dX0_needLevel_1 : decode cX0_needLevel 1 = .ok (.ldc2_w 144, 3) := by decide +kernel
theorem dX0_needLevel_4 : decode cX0_needLevel 4 = .ok (.dcmp .l, 1) := by decide +kernel
theorem dX0_needLevel_5 : decode cX0_needLevel 5 = .ok (.ifCond .lt 11, 3) := by decide +kernel
theorem dX0_needLevel_8 : decode cX0_needLevel 8 = .ok (.dload_n 0, 1) := by decide +kernel
theorem dX0_needLevel_9 : decode cX0_needLevel 9 = .ok (.ldc2_w 146, 3) := by decide +kernel
theorem dX0_needLevel_12 : decode cX0_needLevel 12 = .ok (.dcmp .g, 1) := by decide +kernel
theorem dX0_needLevel_13 : decode cX0_needLevel 13 = .ok (.ifCond .le 13, 3) := by decide +kernel
theorem dX0_needLevel_16 : decode cX0_needLevel 16 = .ok (.new 59, 3) := by decide +kernel
theorem dX0_needLevel_19 : decode cX0_needLevel 19 = .ok (.dup, 1) := by decide +kernel
theorem dX0_needLevel_20 : decode cX0_needLevel 20 = .ok (.ldc 148, 2) := by decide +kernel
theorem dX0_needLevel_22 : decode cX0_needLevel 22 = .ok (.invokespecial 63, 3) := by decide +kernel
theorem dX0_needLevel_25 : decode cX0_needLevel 25 = .ok (.athrow, 1) := by decide +kernel
theorem dX0_needLevel_26 : decode cX0_needLevel 26 = .ok (.return_, 1) := by decide +kernel
theorem dX0_needWind_0 : decode cX0_needWind 0 = .ok (.fload_n 0, 1) := by decide +kernel
theorem dX0_needWind_1 : decode cX0_needWind 1 = .ok (.fconst 0, 1) := by decide +kernel
theorem dX0_needWind_2 : decode cX0_needWind 2 = .ok (.fcmp .l, 1) := by decide +kernel
theorem dX0_needWind_3 : decode cX0_needWind 3 = .ok (.ifCond .lt 10, 3) := by decide +kernel
theorem dX0_needWind_6 : decode cX0_needWind 6 = .ok (.fload_n 0, 1) := by decide +kernel
theorem dX0_needWind_7 : decode cX0_needWind 7 = .ok (.ldc 150, 2) := by decide +kernel
theorem dX0_needWind_9 : decode cX0_needWind 9 = .ok (.fcmp .g, 1) := by decide +kernel
theorem dX0_needWind_10 : decode cX0_needWind 10 = .ok (.ifCond .le 13, 3) := by decide +kernel
theorem dX0_needWind_13 : decode cX0_needWind 13 = .ok (.new 59, 3) := by decide +kernel
theorem dX0_needWind_16 : decode cX0_needWind 16 = .ok (.dup, 1) := by decide +kernel
theorem dX0_needWind_17 : decode cX0_needWind 17 = .ok (.ldc 151, 2) := by decide +kernel
theorem dX0_needWind_19 : decode cX0_needWind 19 = .ok (.invokespecial 63, 3) := by decide +kernel
theorem dX0_needWind_22 : decode cX0_needWind 22 = .ok (.athrow, 1) := by decide +kernel
theorem dX0_needWind_23 : decode cX0_needWind 23 = .ok (.return_, 1) := by decide +kernel
theorem dX0_needRoom_0 : decode cX0_needRoom 0 = .ok (.aload_n 0, 1) := by decide +kernel
theorem dX0_needRoom_1 : decode cX0_needRoom 1 = .ok (.getfield 17, 3) := by decide +kernel
theorem dX0_needRoom_4 : decode cX0_needRoom 4 = .ok (.iload_n 1, 1) := by decide +kernel
theorem dX0_needRoom_5 : decode cX0_needRoom 5 = .ok (.iaload, 1) := by decide +kernel
theorem dX0_needRoom_6 : decode cX0_needRoom 6 = .ok (.bipush 12, 2) := by decide +kernel
theorem dX0_needRoom_8 : decode cX0_needRoom 8 = .ok (.if_icmp .lt 13, 3) := by decide +kernel
theorem dX0_needRoom_11 : decode cX0_needRoom 11 = .ok (.new 127, 3) := by decide +kernel
theorem dX0_needRoom_14 : decode cX0_needRoom 14 = .ok (.dup, 1) := by decide +kernel
theorem dX0_needRoom_15 : decode cX0_needRoom 15 = .ok (.ldc 153, 2) := by decide +kernel
theorem dX0_needRoom_17 : decode cX0_needRoom 17 = .ok (.invokespecial 131, 3) := by decide +kernel
theorem dX0_needRoom_20 : decode cX0_needRoom 20 = .ok (.athrow, 1) := by decide +kernel
theorem dX0_needRoom_21 : decode cX0_needRoom 21 = .ok (.return_, 1) := by decide +kernel
set_option maxRecDepth 20000 in
theorem ggX0_needMayOpen_X0_latestPlace : GoodIn wsX0_needMayOpen wsX0_latestPlace := goodIn_r _ [10, 11, 12, 13, 9, 14, 15, 16, 17, 26, 27, 28, 29, 30] (by decide +kernel) (by decide +kernel)
set_option maxRecDepth 20000 in
theorem gX0_needMayOpen_X0_latestPlace : GoodIn wsX0_needMayOpen (wsV RX0 102 RX0 yX0_latestPlace wsX0_latestPlace) := goodIn_app (goodIn_of _ (by decide +kernel)) ggX0_needMayOpen_X0_latestPlace
set_option maxRecDepth 20000 in
theorem ggX0_needMayOpen_X0_isRelated : GoodIn wsX0_needMayOpen wsX0_isRelated := goodIn_r _ [21, 5, 22, 26, 27, 28, 29, 30] (by decide +kernel) (by decide +kernel)
set_option maxRecDepth 20000 in
theorem gX0_needMayOpen_X0_isRelated : GoodIn wsX0_needMayOpen (wsV RX0 98 RX0 yX0_isRelated wsX0_isRelated) := goodIn_app (goodIn_of _ (by decide +kernel)) ggX0_needMayOpen_X0_isRelated
set_option maxRecDepth 20000 in
theorem ggX0_needMayOpen_X0_markPlace : GoodIn wsX0_needMayOpen wsX0_markPlace := goodIn_r _ [25] (by decide +kernel) (by decide +kernel)
set_option maxRecDepth 20000 in
theorem gX0_needMayOpen_X0_markPlace : GoodIn wsX0_needMayOpen (va_wsS RX0 66 yX0_markPlace wsX0_markPlace) := goodIn_app (goodIn_of _ (by decide +kernel)) ggX0_needMayOpen_X0_markPlace
theorem dX0_needMayOpen_0 : decode cX0_needMayOpen 0 = .ok (.aload_n 0, 1) := by decide +kernel
theorem dX0_needMayOpen_1 : decode cX0_needMayOpen 1 = .ok (.aload_n 0, 1) := by decide +kernel
theorem dX0_needMayOpen_2 : decode cX0_needMayOpen 2 = .ok (.iconst 0, 1) := by decide +kernel
theorem dX0_needMayOpen_3 : decode cX0_needMayOpen 3 = .ok (.iconst 0, 1) := by decide +kernel
theorem dX0_needMayOpen_4 : decode cX0_needMayOpen 4 = .ok (.invokevirtual 102, 3) := by decide +kernel
theorem dX0_needMayOpen_7 : decode cX0_needMayOpen 7 = .ok (.aload_n 0, 1) := by decide +kernel
theorem dX0_needMayOpen_8 : decode cX0_needMayOpen 8 = .ok (.iconst 1, 1) := by decide +kernel
theorem dX0_needMayOpen_9 : decode cX0_needMayOpen 9 = .ok (.iconst 0, 1) := by decide +kernel
theorem dX0_needMayOpen_10 : decode cX0_needMayOpen 10 = .ok (.invokevirtual 102, 3) := by decide +kernel
theorem dX0_needMayOpen_13 : decode cX0_needMayOpen 13 = .ok (.iconst 2, 1) := by decide +kernel
theorem dX0_needMayOpen_14 : decode cX0_needMayOpen 14 = .ok (.invokevirtual 98, 3) := by decide +kernel
theorem dX0_needMayOpen_17 : decode cX0_needMayOpen 17 = .ok (.ifCond .ne 13, 3) := by decide +kernel
theorem dX0_needMayOpen_20 : decode cX0_needMayOpen 20 = .ok (.new 155, 3) := by decide +kernel
theorem dX0_needMayOpen_23 : decode cX0_needMayOpen 23 = .ok (.dup, 1) := by decide +kernel
theorem dX0_needMayOpen_24 : decode cX0_needMayOpen 24 = .ok (.ldc 157, 2) := by decide +kernel
theorem dX0_needMayOpen_26 : decode cX0_needMayOpen 26 = .ok (.invokespecial 159, 3) := by decide +kernel
theorem dX0_needMayOpen_29 : decode cX0_needMayOpen 29 = .ok (.athrow, 1) := by decide +kernel
theorem dX0_needMayOpen_30 : decode cX0_needMayOpen 30 = .ok (.iconst 1, 1) := by decide +kernel
theorem dX0_needMayOpen_31 : decode cX0_needMayOpen 31 = .ok (.iconst 2, 1) := by decide +kernel
theorem dX0_needMayOpen_32 : decode cX0_needMayOpen 32 = .ok (.invokestatic 66, 3) := by decide +kernel
theorem dX0_needMayOpen_35 : decode cX0_needMayOpen 35 = .ok (.istore_n 1, 1) := by decide +kernel
theorem dX0_needMayOpen_36 : decode cX0_needMayOpen 36 = .ok (.aload_n 0, 1) := by decide +kernel
theorem dX0_needMayOpen_37 : decode cX0_needMayOpen 37 = .ok (.getfield 9, 3) := by decide +kernel
theorem dX0_needMayOpen_40 : decode cX0_needMayOpen 40 = .ok (.iload_n 1, 1) := by decide +kernel
theorem dX0_needMayOpen_41 : decode cX0_needMayOpen 41 = .ok (.baload, 1) := by decide +kernel
theorem dX0_needMayOpen_42 : decode cX0_needMayOpen 42 = .ok (.ifCond .eq 28, 3) := by decide +kernel
theorem dX0_needMayOpen_45 : decode cX0_needMayOpen 45 = .ok (.aload_n 0, 1) := by decide +kernel
theorem dX0_needMayOpen_46 : decode cX0_needMayOpen 46 = .ok (.aload_n 0, 1) := by decide +kernel
theorem dX0_needMayOpen_47 : decode cX0_needMayOpen 47 = .ok (.iconst 1, 1) := by decide +kernel
theorem dX0_needMayOpen_48 : decode cX0_needMayOpen 48 = .ok (.iconst 1, 1) := by decide +kernel
theorem dX0_needMayOpen_49 : decode cX0_needMayOpen 49 = .ok (.invokevirtual 102, 3) := by decide +kernel
theorem dX0_needMayOpen_52 : decode cX0_needMayOpen 52 = .ok (.iload_n 1, 1) := by decide +kernel
theorem dX0_needMayOpen_53 : decode cX0_needMayOpen 53 = .ok (.iconst 0, 1) := by decide +kernel
theorem dX0_needMayOpen_54 : decode cX0_needMayOpen 54 = .ok (.invokevirtual 98, 3) := by decide +kernel
theorem dX0_needMayOpen_57 : decode cX0_needMayOpen 57 = .ok (.ifCond .ne 13, 3) := by decide +kernel
theorem dX0_needMayOpen_60 : decode cX0_needMayOpen 60 = .ok (.new 160, 3) := by decide +kernel
theorem dX0_needMayOpen_63 : decode cX0_needMayOpen 63 = .ok (.dup, 1) := by decide +kernel
theorem dX0_needMayOpen_64 : decode cX0_needMayOpen 64 = .ok (.ldc 162, 2) := by decide +kernel
theorem dX0_needMayOpen_66 : decode cX0_needMayOpen 66 = .ok (.invokespecial 164, 3) := by decide +kernel
theorem dX0_needMayOpen_69 : decode cX0_needMayOpen 69 = .ok (.athrow, 1) := by decide +kernel
theorem dX0_needMayOpen_70 : decode cX0_needMayOpen 70 = .ok (.return_, 1) := by decide +kernel
set_option maxRecDepth 20000 in
theorem ggX0_needMayShut_X0_latestPlace : GoodIn wsX0_needMayShut wsX0_latestPlace := goodIn_r _ [9, 10, 11, 12, 8, 13, 14, 15, 16, 26, 27, 28, 29, 30] (by decide +kernel) (by decide +kernel)
set_option maxRecDepth 20000 in
theorem gX0_needMayShut_X0_latestPlace : GoodIn wsX0_needMayShut (wsV RX0 102 RX0 yX0_latestPlace wsX0_latestPlace) := goodIn_app (goodIn_of _ (by decide +kernel)) ggX0_needMayShut_X0_latestPlace
set_option maxRecDepth 20000 in
theorem ggX0_needMayShut_X0_markPlace : GoodIn wsX0_needMayShut wsX0_markPlace := goodIn_r _ [19] (by decide +kernel) (by decide +kernel)
set_option maxRecDepth 20000 in
theorem gX0_needMayShut_X0_markPlace : GoodIn wsX0_needMayShut (va_wsS RX0 66 yX0_markPlace wsX0_markPlace) := goodIn_app (goodIn_of _ (by decide +kernel)) ggX0_needMayShut_X0_markPlace
set_option maxRecDepth 20000 in
theorem ggX0_needMayShut_X0_isRelated : GoodIn wsX0_needMayShut wsX0_isRelated := goodIn_r _ [23, 24, 25, 26, 27, 28, 29, 30] (by decide +kernel) (by decide +kernel)
set_option maxRecDepth 20000 in
theorem gX0_needMayShut_X0_isRelated : GoodIn wsX0_needMayShut (wsV RX0 98 RX0 yX0_isRelated wsX0_isRelated) := goodIn_app (goodIn_of _ (by decide +kernel)) ggX0_needMayShut_X0_isRelated
theorem dX0_needMayShut_0 : decode cX0_needMayShut 0 = .ok (.aload_n 0, 1) := by decide +kernel
theorem dX0_needMayShut_1 : decode cX0_needMayShut 1 = .ok (.aload_n 0, 1) := by decide +kernel
theorem dX0_needMayShut_2 : decode cX0_needMayShut 2 = .ok (.iconst 0, 1) := by decide +kernel
theorem dX0_needMayShut_3 : decode cX0_needMayShut 3 = .ok (.iconst 0, 1) := by decide +kernel
end
section
theorem dX0_needMayShut_4 : decode cX0_needMayShut 4 = .ok (.invokevirtual 102, 3) := by decide +kernel
theorem dX0_needMayShut_7 : decode cX0_needMayShut 7 = .ok (.iconst 0, 1) := by decide +kernel
theorem dX0_needMayShut_8 : decode cX0_needMayShut 8 = .ok (.iconst 0, 1) := by decide +kernel
theorem dX0_needMayShut_9 : decode cX0_needMayShut 9 = .ok (.invokestatic 66, 3) := by decide +kernel
theorem dX0_needMayShut_12 : decode cX0_needMayShut 12 = .ok (.iconst 2, 1) := by decide +kernel
theorem dX0_needMayShut_13 : decode cX0_needMayShut 13 = .ok (.invokevirtual 98, 3) := by decide +kernel
theorem dX0_needMayShut_16 : decode cX0_needMayShut 16 = .ok (.ifCond .eq 13, 3) := by decide +kernel
theorem dX0_needMayShut_19 : decode cX0_needMayShut 19 = .ok (.new 155, 3) := by decide +kernel
theorem dX0_needMayShut_22 : decode cX0_needMayShut 22 = .ok (.dup, 1) := by decide +kernel
theorem dX0_needMayShut_23 : decode cX0_needMayShut 23 = .ok (.ldc 165, 2) := by decide +kernel
theorem dX0_needMayShut_25 : decode cX0_needMayShut 25 = .ok (.invokespecial 159, 3) := by decide +kernel
theorem dX0_needMayShut_28 : decode cX0_needMayShut 28 = .ok (.athrow, 1) := by decide +kernel
theorem dX0_needMayShut_29 : decode cX0_needMayShut 29 = .ok (.aload_n 0, 1) := by decide +kernel
theorem dX0_needMayShut_30 : decode cX0_needMayShut 30 = .ok (.aload_n 0, 1) := by decide +kernel
theorem dX0_needMayShut_31 : decode cX0_needMayShut 31 = .ok (.iconst 1, 1) := by decide +kernel
theorem dX0_needMayShut_32 : decode cX0_needMayShut 32 = .ok (.iconst 0, 1) := by decide +kernel
theorem dX0_needMayShut_33 : decode cX0_needMayShut 33 = .ok (.invokevirtual 102, 3) := by decide +kernel
theorem dX0_needMayShut_36 : decode cX0_needMayShut 36 = .ok (.iconst 0, 1) := by decide +kernel
theorem dX0_needMayShut_37 : decode cX0_needMayShut 37 = .ok (.iconst 1, 1) := by decide +kernel
theorem dX0_needMayShut_38 : decode cX0_needMayShut 38 = .ok (.invokestatic 66, 3) := by decide +kernel
theorem dX0_needMayShut_41 : decode cX0_needMayShut 41 = .ok (.iconst 1, 1) := by decide +kernel
theorem dX0_needMayShut_42 : decode cX0_needMayShut 42 = .ok (.invokevirtual 98, 3) := by decide +kernel
theorem dX0_needMayShut_45 : decode cX0_needMayShut 45 = .ok (.ifCond .eq 13, 3) := by decide +kernel
theorem dX0_needMayShut_48 : decode cX0_needMayShut 48 = .ok (.new 160, 3) := by decide +kernel
theorem dX0_needMayShut_51 : decode cX0_needMayShut 51 = .ok (.dup, 1) := by decide +kernel
theorem dX0_needMayShut_52 : decode cX0_needMayShut 52 = .ok (.ldc 167, 2) := by decide +kernel
theorem dX0_needMayShut_54 : decode cX0_needMayShut 54 = .ok (.invokespecial 164, 3) := by decide +kernel
theorem dX0_needMayShut_57 : decode cX0_needMayShut 57 = .ok (.athrow, 1) := by decide +kernel
theorem dX0_needMayShut_58 : decode cX0_needMayShut 58 = .ok (.return_, 1) := by decide +kernel
theorem dX0_stripOf_0 : decode cX0_stripOf 0 = .ok (.iload_n 0, 1) := by decide +kernel
theorem dX0_stripOf_1 : decode cX0_stripOf 1 = .ok (.iconst 2, 1) := by decide +kernel
theorem dX0_stripOf_2 : decode cX0_stripOf 2 = .ok (.imul, 1) := by decide +kernel
theorem dX0_stripOf_3 : decode cX0_stripOf 3 = .ok (.iload_n 1, 1) := by decide +kernel
theorem dX0_stripOf_4 : decode cX0_stripOf 4 = .ok (.iadd, 1) := by decide +kernel
theorem dX0_stripOf_5 : decode cX0_stripOf 5 = .ok (.ireturn, 1) := by decide +kernel
theorem dX0_stripPlace_0 : decode cX0_stripPlace 0 = .ok (.iload_n 0, 1) := by decide +kernel
theorem dX0_stripPlace_1 : decode cX0_stripPlace 1 = .ok (.bipush 12, 2) := by decide +kernel
theorem dX0_stripPlace_3 : decode cX0_stripPlace 3 = .ok (.imul, 1) := by decide +kernel
theorem dX0_stripPlace_4 : decode cX0_stripPlace 4 = .ok (.iload_n 1, 1) := by decide +kernel
theorem dX0_stripPlace_5 : decode cX0_stripPlace 5 = .ok (.iadd, 1) := by decide +kernel
theorem dX0_stripPlace_6 : decode cX0_stripPlace 6 = .ok (.ireturn, 1) := by decide +kernel
theorem dX0_markPlace_0 : decode cX0_markPlace 0 = .ok (.sipush 144, 3) := by decide +kernel
theorem dX0_markPlace_3 : decode cX0_markPlace 3 = .ok (.iload_n 0, 1) := by decide +kernel
theorem dX0_markPlace_4 : decode cX0_markPlace 4 = .ok (.iconst 3, 1) := by decide +kernel
theorem dX0_markPlace_5 : decode cX0_markPlace 5 = .ok (.imul, 1) := by decide +kernel
theorem dX0_markPlace_6 : decode cX0_markPlace 6 = .ok (.iadd, 1) := by decide +kernel
theorem dX0_markPlace_7 : decode cX0_markPlace 7 = .ok (.iload_n 1, 1) := by decide +kernel
theorem dX0_markPlace_8 : decode cX0_markPlace 8 = .ok (.iadd, 1) := by decide +kernel
theorem dX0_markPlace_9 : decode cX0_markPlace 9 = .ok (.ireturn, 1) := by decide +kernel
theorem dX0_probePlace_0 : decode cX0_probePlace 0 = .ok (.sipush 162, 3) := by decide +kernel
theorem dX0_probePlace_3 : decode cX0_probePlace 3 = .ok (.iload_n 0, 1) := by decide +kernel
theorem dX0_probePlace_4 : decode cX0_probePlace 4 = .ok (.iadd, 1) := by decide +kernel
theorem dX0_probePlace_5 : decode cX0_probePlace 5 = .ok (.ireturn, 1) := by decide +kernel
set_option maxRecDepth 20000 in
theorem ggX0_latestPlace_X0_stripOf : GoodIn wsX0_latestPlace wsX0_stripOf := goodIn_r _ [5] (by decide +kernel) (by decide +kernel)
set_option maxRecDepth 20000 in
theorem gX0_latestPlace_X0_stripOf : GoodIn wsX0_latestPlace (va_wsS RX0 37 yX0_stripOf wsX0_stripOf) := goodIn_app (goodIn_of _ (by decide +kernel)) ggX0_latestPlace_X0_stripOf
set_option maxRecDepth 20000 in
theorem ggX0_latestPlace_X0_stripPlace : GoodIn wsX0_latestPlace wsX0_stripPlace := goodIn_r _ [8] (by decide +kernel) (by decide +kernel)
set_option maxRecDepth 20000 in
theorem gX0_latestPlace_X0_stripPlace : GoodIn wsX0_latestPlace (va_wsS RX0 95 yX0_stripPlace wsX0_stripPlace) := goodIn_app (goodIn_of _ (by decide +kernel)) ggX0_latestPlace_X0_stripPlace
theorem dX0_latestPlace_0 : decode cX0_latestPlace 0 = .ok (.iload_n 1, 1) := by decide +kernel
theorem dX0_latestPlace_1 : decode cX0_latestPlace 1 = .ok (.iload_n 2, 1) := by decide +kernel
theorem dX0_latestPlace_2 : decode cX0_latestPlace 2 = .ok (.invokestatic 37, 3) := by decide +kernel
theorem dX0_latestPlace_5 : decode cX0_latestPlace 5 = .ok (.istore_n 3, 1) := by decide +kernel
theorem dX0_latestPlace_6 : decode cX0_latestPlace 6 = .ok (.aload_n 0, 1) := by decide +kernel
theorem dX0_latestPlace_7 : decode cX0_latestPlace 7 = .ok (.getfield 17, 3) := by decide +kernel
theorem dX0_latestPlace_10 : decode cX0_latestPlace 10 = .ok (.iload_n 3, 1) := by decide +kernel
theorem dX0_latestPlace_11 : decode cX0_latestPlace 11 = .ok (.iaload, 1) := by decide +kernel
theorem dX0_latestPlace_12 : decode cX0_latestPlace 12 = .ok (.ifCond .ne 9, 3) := by decide +kernel
theorem dX0_latestPlace_15 : decode cX0_latestPlace 15 = .ok (.sipush 164, 3) := by decide +kernel
theorem dX0_latestPlace_18 : decode cX0_latestPlace 18 = .ok (.goto 15, 3) := by decide +kernel
theorem dX0_latestPlace_21 : decode cX0_latestPlace 21 = .ok (.iload_n 3, 1) := by decide +kernel
theorem dX0_latestPlace_22 : decode cX0_latestPlace 22 = .ok (.aload_n 0, 1) := by decide +kernel
theorem dX0_latestPlace_23 : decode cX0_latestPlace 23 = .ok (.getfield 17, 3) := by decide +kernel
theorem dX0_latestPlace_26 : decode cX0_latestPlace 26 = .ok (.iload_n 3, 1) := by decide +kernel
theorem dX0_latestPlace_27 : decode cX0_latestPlace 27 = .ok (.iaload, 1) := by decide +kernel
theorem dX0_latestPlace_28 : decode cX0_latestPlace 28 = .ok (.iconst 1, 1) := by decide +kernel
theorem dX0_latestPlace_29 : decode cX0_latestPlace 29 = .ok (.isub, 1) := by decide +kernel
theorem dX0_latestPlace_30 : decode cX0_latestPlace 30 = .ok (.invokestatic 95, 3) := by decide +kernel
theorem dX0_latestPlace_33 : decode cX0_latestPlace 33 = .ok (.ireturn, 1) := by decide +kernel
theorem dX0_putNumber_0 : decode cX0_putNumber 0 = .ok (.aload_n 0, 1) := by decide +kernel
theorem dX0_putNumber_1 : decode cX0_putNumber 1 = .ok (.getfield 9, 3) := by decide +kernel
theorem dX0_putNumber_4 : decode cX0_putNumber 4 = .ok (.iload_n 1, 1) := by decide +kernel
theorem dX0_putNumber_5 : decode cX0_putNumber 5 = .ok (.baload, 1) := by decide +kernel
theorem dX0_putNumber_6 : decode cX0_putNumber 6 = .ok (.istore 4, 2) := by decide +kernel
theorem dX0_putNumber_8 : decode cX0_putNumber 8 = .ok (.aload_n 0, 1) := by decide +kernel
theorem dX0_putNumber_9 : decode cX0_putNumber 9 = .ok (.getfield 9, 3) := by decide +kernel
theorem dX0_putNumber_12 : decode cX0_putNumber 12 = .ok (.iload_n 1, 1) := by decide +kernel
theorem dX0_putNumber_13 : decode cX0_putNumber 13 = .ok (.iconst 1, 1) := by decide +kernel
theorem dX0_putNumber_14 : decode cX0_putNumber 14 = .ok (.bastore, 1) := by decide +kernel
theorem dX0_putNumber_15 : decode cX0_putNumber 15 = .ok (.aload_n 0, 1) := by decide +kernel
theorem dX0_putNumber_16 : decode cX0_putNumber 16 = .ok (.getfield 13, 3) := by decide +kernel
theorem dX0_putNumber_19 : decode cX0_putNumber 19 = .ok (.iload_n 1, 1) := by decide +kernel
theorem dX0_putNumber_20 : decode cX0_putNumber 20 = .ok (.dload_n 2, 1) := by decide +kernel
theorem dX0_putNumber_21 : decode cX0_putNumber 21 = .ok (.dastore, 1) := by decide +kernel
theorem dX0_putNumber_22 : decode cX0_putNumber 22 = .ok (.iload 4, 2) := by decide +kernel
theorem dX0_putNumber_24 : decode cX0_putNumber 24 = .ok (.ireturn, 1) := by decide +kernel
theorem dX0_putOut_0 : decode cX0_putOut 0 = .ok (.aload_n 0, 1) := by decide +kernel
theorem dX0_putOut_1 : decode cX0_putOut 1 = .ok (.getfield 9, 3) := by decide +kernel
theorem dX0_putOut_4 : decode cX0_putOut 4 = .ok (.iload_n 1, 1) := by decide +kernel
theorem dX0_putOut_5 : decode cX0_putOut 5 = .ok (.baload, 1) := by decide +kernel
theorem dX0_putOut_6 : decode cX0_putOut 6 = .ok (.istore_n 2, 1) := by decide +kernel
theorem dX0_putOut_7 : decode cX0_putOut 7 = .ok (.aload_n 0, 1) := by decide +kernel
theorem dX0_putOut_8 : decode cX0_putOut 8 = .ok (.getfield 9, 3) := by decide +kernel
theorem dX0_putOut_11 : decode cX0_putOut 11 = .ok (.iload_n 1, 1) := by decide +kernel
theorem dX0_putOut_12 : decode cX0_putOut 12 = .ok (.iconst 0, 1) := by decide +kernel
theorem dX0_putOut_13 : decode cX0_putOut 13 = .ok (.bastore, 1) := by decide +kernel
theorem dX0_putOut_14 : decode cX0_putOut 14 = .ok (.iload_n 2, 1) := by decide +kernel
theorem dX0_putOut_15 : decode cX0_putOut 15 = .ok (.ireturn, 1) := by decide +kernel
set_option maxRecDepth 20000 in
theorem ggX0_appendNumber_X0_needRoom : GoodIn wsX0_appendNumber wsX0_needRoom := goodIn_ca (goodIn_r _ [6, 7, 8, 1, 18, 19, 20, 21, 22] (by decide +kernel) (by decide +kernel)) (goodIn_sub (fun _ h => List.mem_cons_of_mem _ (List.mem_append_right _ h)) (by decide +kernel))
set_option maxRecDepth 20000 in
theorem gX0_appendNumber_X0_needRoom : GoodIn wsX0_appendNumber (wsV RX0 169 RX0 yX0_needRoom wsX0_needRoom) := goodIn_app (goodIn_of _ (by decide +kernel)) ggX0_appendNumber_X0_needRoom
set_option maxRecDepth 20000 in
theorem ggX0_appendNumber_X0_stripPlace : GoodIn wsX0_appendNumber wsX0_stripPlace := goodIn_r _ [11] (by decide +kernel) (by decide +kernel)
set_option maxRecDepth 20000 in
theorem gX0_appendNumber_X0_stripPlace : GoodIn wsX0_appendNumber (va_wsS RX0 95 yX0_stripPlace wsX0_stripPlace) := goodIn_app (goodIn_of _ (by decide +kernel)) ggX0_appendNumber_X0_stripPlace
set_option maxRecDepth 20000 in
theorem ggX0_appendNumber_X0_putNumber : GoodIn wsX0_appendNumber wsX0_putNumber := goodIn_r _ [15, 16, 17, 18, 19, 20, 21, 22] (by decide +kernel) (by decide +kernel)
set_option maxRecDepth 20000 in
theorem gX0_appendNumber_X0_putNumber : GoodIn wsX0_appendNumber (wsV RX0 69 RX0 yX0_putNumber wsX0_putNumber) := goodIn_app (goodIn_of _ (by decide +kernel)) ggX0_appendNumber_X0_putNumber
theorem dX0_appendNumber_0 : decode cX0_appendNumber 0 = .ok (.aload_n 0, 1) := by decide +kernel
theorem dX0_appendNumber_1 : decode cX0_appendNumber 1 = .ok (.iload_n 1, 1) := by decide +kernel
theorem dX0_appendNumber_2 : decode cX0_appendNumber 2 = .ok (.invokevirtual 169, 3) := by decide +kernel
theorem dX0_appendNumber_5 : decode cX0_appendNumber 5 = .ok (.aload_n 0, 1) := by decide +kernel
theorem dX0_appendNumber_6 : decode cX0_appendNumber 6 = .ok (.iload_n 1, 1) := by decide +kernel
theorem dX0_appendNumber_7 : decode cX0_appendNumber 7 = .ok (.aload_n 0, 1) := by decide +kernel
theorem dX0_appendNumber_8 : decode cX0_appendNumber 8 = .ok (.getfield 17, 3) := by decide +kernel
theorem dX0_appendNumber_11 : decode cX0_appendNumber 11 = .ok (.iload_n 1, 1) := by decide +kernel
theorem dX0_appendNumber_12 : decode cX0_appendNumber 12 = .ok (.iaload, 1) := by decide +kernel
theorem dX0_appendNumber_13 : decode cX0_appendNumber 13 = .ok (.invokestatic 95, 3) := by decide +kernel
theorem dX0_appendNumber_16 : decode cX0_appendNumber 16 = .ok (.dload_n 2, 1) := by decide +kernel
theorem dX0_appendNumber_17 : decode cX0_appendNumber 17 = .ok (.invokevirtual 69, 3) := by decide +kernel
theorem dX0_appendNumber_20 : decode cX0_appendNumber 20 = .ok (.pop, 1) := by decide +kernel
theorem dX0_appendNumber_21 : decode cX0_appendNumber 21 = .ok (.aload_n 0, 1) := by decide +kernel
theorem dX0_appendNumber_22 : decode cX0_appendNumber 22 = .ok (.getfield 17, 3) := by decide +kernel
theorem dX0_appendNumber_25 : decode cX0_appendNumber 25 = .ok (.iload_n 1, 1) := by decide +kernel
theorem dX0_appendNumber_26 : decode cX0_appendNumber 26 = .ok (.dup2, 1) := by decide +kernel
theorem dX0_appendNumber_27 : decode cX0_appendNumber 27 = .ok (.iaload, 1) := by decide +kernel
theorem dX0_appendNumber_28 : decode cX0_appendNumber 28 = .ok (.iconst 1, 1) := by decide +kernel
theorem dX0_appendNumber_29 : decode cX0_appendNumber 29 = .ok (.iadd, 1) := by decide +kernel
theorem dX0_appendNumber_30 : decode cX0_appendNumber 30 = .ok (.iastore, 1) := by decide +kernel
theorem dX0_appendNumber_31 : decode cX0_appendNumber 31 = .ok (.aload_n 0, 1) := by decide +kernel
theorem dX0_appendNumber_32 : decode cX0_appendNumber 32 = .ok (.getfield 17, 3) := by decide +kernel
theorem dX0_appendNumber_35 : decode cX0_appendNumber 35 = .ok (.iload_n 1, 1) := by decide +kernel
theorem dX0_appendNumber_36 : decode cX0_appendNumber 36 = .ok (.iaload, 1) := by decide +kernel
theorem dX0_appendNumber_37 : decode cX0_appendNumber 37 = .ok (.ireturn, 1) := by decide +kernel
set_option maxRecDepth 20000 in
theorem ggX0_appendOut_X0_needRoom : GoodIn wsX0_appendOut wsX0_needRoom := goodIn_ca (goodIn_r _ [6, 7, 8, 1, 17, 18, 19, 20, 21] (by decide +kernel) (by decide +kernel)) (goodIn_sub (fun _ h => List.mem_cons_of_mem _ (List.mem_append_right _ h)) (by decide +kernel))
set_option maxRecDepth 20000 in
theorem gX0_appendOut_X0_needRoom : GoodIn wsX0_appendOut (wsV RX0 169 RX0 yX0_needRoom wsX0_needRoom) := goodIn_app (goodIn_of _ (by decide +kernel)) ggX0_appendOut_X0_needRoom
set_option maxRecDepth 20000 in
theorem ggX0_appendOut_X0_stripPlace : GoodIn wsX0_appendOut wsX0_stripPlace := goodIn_r _ [11] (by decide +kernel) (by decide +kernel)
set_option maxRecDepth 20000 in
theorem gX0_appendOut_X0_stripPlace : GoodIn wsX0_appendOut (va_wsS RX0 95 yX0_stripPlace wsX0_stripPlace) := goodIn_app (goodIn_of _ (by decide +kernel)) ggX0_appendOut_X0_stripPlace
set_option maxRecDepth 20000 in
theorem ggX0_appendOut_X0_putOut : GoodIn wsX0_appendOut wsX0_putOut := goodIn_r _ [15, 16, 17, 18, 19, 20, 21] (by decide +kernel) (by decide +kernel)
set_option maxRecDepth 20000 in
theorem gX0_appendOut_X0_putOut : GoodIn wsX0_appendOut (wsV RX0 75 RX0 yX0_putOut wsX0_putOut) := goodIn_app (goodIn_of _ (by decide +kernel)) ggX0_appendOut_X0_putOut
theorem dX0_appendOut_0 : decode cX0_appendOut 0 = .ok (.aload_n 0, 1) := by decide +kernel
theorem dX0_appendOut_1 : decode cX0_appendOut 1 = .ok (.iload_n 1, 1) := by decide +kernel
theorem dX0_appendOut_2 : decode cX0_appendOut 2 = .ok (.invokevirtual 169, 3) := by decide +kernel
theorem dX0_appendOut_5 : decode cX0_appendOut 5 = .ok (.aload_n 0, 1) := by decide +kernel
theorem dX0_appendOut_6 : decode cX0_appendOut 6 = .ok (.iload_n 1, 1) := by decide +kernel
theorem dX0_appendOut_7 : decode cX0_appendOut 7 = .ok (.aload_n 0, 1) := by decide +kernel
theorem dX0_appendOut_8 : decode cX0_appendOut 8 = .ok (.getfield 17, 3) := by decide +kernel
theorem dX0_appendOut_11 : decode cX0_appendOut 11 = .ok (.iload_n 1, 1) := by decide +kernel
theorem dX0_appendOut_12 : decode cX0_appendOut 12 = .ok (.iaload, 1) := by decide +kernel
theorem dX0_appendOut_13 : decode cX0_appendOut 13 = .ok (.invokestatic 95, 3) := by decide +kernel
theorem dX0_appendOut_16 : decode cX0_appendOut 16 = .ok (.invokevirtual 75, 3) := by decide +kernel
theorem dX0_appendOut_19 : decode cX0_appendOut 19 = .ok (.pop, 1) := by decide +kernel
theorem dX0_appendOut_20 : decode cX0_appendOut 20 = .ok (.aload_n 0, 1) := by decide +kernel
theorem dX0_appendOut_21 : decode cX0_appendOut 21 = .ok (.getfield 17, 3) := by decide +kernel
theorem dX0_appendOut_24 : decode cX0_appendOut 24 = .ok (.iload_n 1, 1) := by decide +kernel
theorem dX0_appendOut_25 : decode cX0_appendOut 25 = .ok (.dup2, 1) := by decide +kernel
theorem dX0_appendOut_26 : decode cX0_appendOut 26 = .ok (.iaload, 1) := by decide +kernel
theorem dX0_appendOut_27 : decode cX0_appendOut 27 = .ok (.iconst 1, 1) := by decide +kernel
theorem dX0_appendOut_28 : decode cX0_appendOut 28 = .ok (.iadd, 1) := by decide +kernel
theorem dX0_appendOut_29 : decode cX0_appendOut 29 = .ok (.iastore, 1) := by decide +kernel
theorem dX0_appendOut_30 : decode cX0_appendOut 30 = .ok (.aload_n 0, 1) := by decide +kernel
theorem dX0_appendOut_31 : decode cX0_appendOut 31 = .ok (.getfield 17, 3) := by decide +kernel
theorem dX0_appendOut_34 : decode cX0_appendOut 34 = .ok (.iload_n 1, 1) := by decide +kernel
theorem dX0_appendOut_35 : decode cX0_appendOut 35 = .ok (.iaload, 1) := by decide +kernel
theorem dX0_appendOut_36 : decode cX0_appendOut 36 = .ok (.ireturn, 1) := by decide +kernel
theorem dX0_emptyStrip_0 : decode cX0_emptyStrip 0 = .ok (.aload_n 0, 1) := by decide +kernel
theorem dX0_emptyStrip_1 : decode cX0_emptyStrip 1 = .ok (.getfield 17, 3) := by decide +kernel
theorem dX0_emptyStrip_4 : decode cX0_emptyStrip 4 = .ok (.iload_n 1, 1) := by decide +kernel
theorem dX0_emptyStrip_5 : decode cX0_emptyStrip 5 = .ok (.iaload, 1) := by decide +kernel
theorem dX0_emptyStrip_6 : decode cX0_emptyStrip 6 = .ok (.istore_n 2, 1) := by decide +kernel
theorem dX0_emptyStrip_7 : decode cX0_emptyStrip 7 = .ok (.aload_n 0, 1) := by decide +kernel
theorem dX0_emptyStrip_8 : decode cX0_emptyStrip 8 = .ok (.getfield 17, 3) := by decide +kernel
theorem dX0_emptyStrip_11 : decode cX0_emptyStrip 11 = .ok (.iload_n 1, 1) := by decide +kernel
theorem dX0_emptyStrip_12 : decode cX0_emptyStrip 12 = .ok (.iconst 0, 1) := by decide +kernel
theorem dX0_emptyStrip_13 : decode cX0_emptyStrip 13 = .ok (.iastore, 1) := by decide +kernel
theorem dX0_emptyStrip_14 : decode cX0_emptyStrip 14 = .ok (.iload_n 2, 1) := by decide +kernel
theorem dX0_emptyStrip_15 : decode cX0_emptyStrip 15 = .ok (.ireturn, 1) := by decide +kernel
theorem dX0_isRelated_0 : decode cX0_isRelated 0 = .ok (.aload_n 0, 1) := by decide +kernel
theorem dX0_isRelated_1 : decode cX0_isRelated 1 = .ok (.getfield 9, 3) := by decide +kernel
theorem dX0_isRelated_4 : decode cX0_isRelated 4 = .ok (.iload_n 1, 1) := by decide +kernel
theorem dX0_isRelated_5 : decode cX0_isRelated 5 = .ok (.baload, 1) := by decide +kernel
theorem dX0_isRelated_6 : decode cX0_isRelated 6 = .ok (.ifCond .eq 12, 3) := by decide +kernel
theorem dX0_isRelated_9 : decode cX0_isRelated 9 = .ok (.aload_n 0, 1) := by decide +kernel
theorem dX0_isRelated_10 : decode cX0_isRelated 10 = .ok (.getfield 9, 3) := by decide +kernel
theorem dX0_isRelated_13 : decode cX0_isRelated 13 = .ok (.iload_n 2, 1) := by decide +kernel
theorem dX0_isRelated_14 : decode cX0_isRelated 14 = .ok (.baload, 1) := by decide +kernel
theorem dX0_isRelated_15 : decode cX0_isRelated 15 = .ok (.ifCond .ne 14, 3) := by decide +kernel
theorem dX0_isRelated_18 : decode cX0_isRelated 18 = .ok (.iload_n 3, 1) := by decide +kernel
theorem dX0_isRelated_19 : decode cX0_isRelated 19 = .ok (.iconst 5, 1) := by decide +kernel
theorem dX0_isRelated_20 : decode cX0_isRelated 20 = .ok (.if_icmp .ne 7, 3) := by decide +kernel
theorem dX0_isRelated_23 : decode cX0_isRelated 23 = .ok (.iconst 1, 1) := by decide +kernel
theorem dX0_isRelated_24 : decode cX0_isRelated 24 = .ok (.goto 4, 3) := by decide +kernel
theorem dX0_isRelated_27 : decode cX0_isRelated 27 = .ok (.iconst 0, 1) := by decide +kernel
theorem dX0_isRelated_28 : decode cX0_isRelated 28 = .ok (.ireturn, 1) := by decide +kernel
theorem dX0_isRelated_29 : decode cX0_isRelated 29 = .ok (.aload_n 0, 1) := by decide +kernel
theorem dX0_isRelated_30 : decode cX0_isRelated 30 = .ok (.getfield 13, 3) := by decide +kernel
theorem dX0_isRelated_33 : decode cX0_isRelated 33 = .ok (.iload_n 1, 1) := by decide +kernel
theorem dX0_isRelated_34 : decode cX0_isRelated 34 = .ok (.daload, 1) := by decide +kernel
theorem dX0_isRelated_35 : decode cX0_isRelated 35 = .ok (.dstore 4, 2) := by decide +kernel
theorem dX0_isRelated_37 : decode cX0_isRelated 37 = .ok (.aload_n 0, 1) := by decide +kernel
theorem dX0_isRelated_38 : decode cX0_isRelated 38 = .ok (.getfield 13, 3) := by decide +kernel
theorem dX0_isRelated_41 : decode cX0_isRelated 41 = .ok (.iload_n 2, 1) := by decide +kernel
theorem dX0_isRelated_42 : decode cX0_isRelated 42 = .ok (.daload, 1) := by decide +kernel
theorem dX0_isRelated_43 : decode cX0_isRelated 43 = .ok (.dstore 6, 2) := by decide +kernel
theorem dX0_isRelated_45 : decode cX0_isRelated 45 = .ok (.iload_n 3, 1) := by decide +kernel
theorem dX0_isRelated_46 : decode cX0_isRelated 46 = .ok (.tableswitch 104 0 4 #[34, 48, 62, 76, 90], 34) := by decide +kernel
theorem dX0_isRelated_80 : decode cX0_isRelated 80 = .ok (.dload 4, 2) := by decide +kernel
theorem dX0_isRelated_82 : decode cX0_isRelated 82 = .ok (.dload 6, 2) := by decide +kernel
theorem dX0_isRelated_84 : decode cX0_isRelated 84 = .ok (.dcmp .g, 1) := by decide +kernel
theorem dX0_isRelated_85 : decode cX0_isRelated 85 = .ok (.ifCond .ge 7, 3) := by decide +kernel
theorem dX0_isRelated_88 : decode cX0_isRelated 88 = .ok (.iconst 1, 1) := by decide +kernel
theorem dX0_isRelated_89 : decode cX0_isRelated 89 = .ok (.goto 4, 3) := by decide +kernel
theorem dX0_isRelated_92 : decode cX0_isRelated 92 = .ok (.iconst 0, 1) := by decide +kernel
theorem dX0_isRelated_93 : decode cX0_isRelated 93 = .ok (.ireturn, 1) := by decide +kernel
theorem dX0_isRelated_94 : decode cX0_isRelated 94 = .ok (.dload 4, 2) := by decide +kernel
theorem dX0_isRelated_96 : decode cX0_isRelated 96 = .ok (.dload 6, 2) := by decide +kernel
theorem dX0_isRelated_98 : decode cX0_isRelated 98 = .ok (.dcmp .g, 1) := by decide +kernel
theorem dX0_isRelated_99 : decode cX0_isRelated 99 = .ok (.ifCond .gt 7, 3) := by decide +kernel
theorem dX0_isRelated_102 : decode cX0_isRelated 102 = .ok (.iconst 1, 1) := by decide +kernel
theorem dX0_isRelated_103 : decode cX0_isRelated 103 = .ok (.goto 4, 3) := by decide +kernel
theorem dX0_isRelated_106 : decode cX0_isRelated 106 = .ok (.iconst 0, 1) := by decide +kernel
theorem dX0_isRelated_107 : decode cX0_isRelated 107 = .ok (.ireturn, 1) := by decide +kernel
theorem dX0_isRelated_108 : decode cX0_isRelated 108 = .ok (.dload 4, 2) := by decide +kernel
theorem dX0_isRelated_110 : decode cX0_isRelated 110 = .ok (.dload 6, 2) := by decide +kernel
theorem dX0_isRelated_112 : decode cX0_isRelated 112 = .ok (.dcmp .l, 1) := by decide +kernel
theorem dX0_isRelated_113 : decode cX0_isRelated 113 = .ok (.ifCond .le 7, 3) := by decide +kernel
theorem dX0_isRelated_116 : decode cX0_isRelated 116 = .ok (.iconst 1, 1) := by decide +kernel
theorem dX0_isRelated_117 : decode cX0_isRelated 117 = .ok (.goto 4, 3) := by decide +kernel
theorem dX0_isRelated_120 : decode cX0_isRelated 120 = .ok (.iconst 0, 1) := by decide +kernel
theorem dX0_isRelated_121 : decode cX0_isRelated 121 = .ok (.ireturn, 1) := by decide +kernel
theorem dX0_isRelated_122 : decode cX0_isRelated 122 = .ok (.dload 4, 2) := by decide +kernel
theorem dX0_isRelated_124 : decode cX0_isRelated 124 = .ok (.dload 6, 2) := by decide +kernel
theorem dX0_isRelated_126 : decode cX0_isRelated 126 = .ok (.dcmp .l, 1) := by decide +kernel
theorem dX0_isRelated_127 : decode cX0_isRelated 127 = .ok (.ifCond .lt 7, 3) := by decide +kernel
theorem dX0_isRelated_130 : decode cX0_isRelated 130 = .ok (.iconst 1, 1) := by decide +kernel
theorem dX0_isRelated_131 : decode cX0_isRelated 131 = .ok (.goto 4, 3) := by decide +kernel
theorem dX0_isRelated_134 : decode cX0_isRelated 134 = .ok (.iconst 0, 1) := by decide +kernel
theorem dX0_isRelated_135 : decode cX0_isRelated 135 = .ok (.ireturn, 1) := by decide +kernel
theorem dX0_isRelated_136 : decode cX0_isRelated 136 = .ok (.dload 4, 2) := by decide +kernel
theorem dX0_isRelated_138 : decode cX0_isRelated 138 = .ok (.dload 6, 2) := by decide +kernel
theorem dX0_isRelated_140 : decode cX0_isRelated 140 = .ok (.dcmp .l, 1) := by decide +kernel
theorem dX0_isRelated_141 : decode cX0_isRelated 141 = .ok (.ifCond .ne 7, 3) := by decide +kernel
theorem dX0_isRelated_144 : decode cX0_isRelated 144 = .ok (.iconst 1, 1) := by decide +kernel
theorem dX0_isRelated_145 : decode cX0_isRelated 145 = .ok (.goto 4, 3) := by decide +kernel
theorem dX0_isRelated_148 : decode cX0_isRelated 148 = .ok (.iconst 0, 1) := by decide +kernel
theorem dX0_isRelated_149 : decode cX0_isRelated 149 = .ok (.ireturn, 1) := by decide +kernel
theorem dX0_isRelated_150 : decode cX0_isRelated 150 = .ok (.dload 4, 2) := by decide +kernel
theorem dX0_isRelated_152 : decode cX0_isRelated 152 = .ok (.dload 6, 2) := by decide +kernel
theorem dX0_isRelated_154 : decode cX0_isRelated 154 = .ok (.dcmp .l, 1) := by decide +kernel
theorem dX0_isRelated_155 : decode cX0_isRelated 155 = .ok (.ifCond .eq 7, 3) := by decide +kernel
theorem dX0_isRelated_158 : decode cX0_isRelated 158 = .ok (.iconst 1, 1) := by decide +kernel
theorem dX0_isRelated_159 : decode cX0_isRelated 159 = .ok (.goto 4, 3) := by decide +kernel
theorem dX0_isRelated_162 : decode cX0_isRelated 162 = .ok (.iconst 0, 1) := by decide +kernel
theorem dX0_isRelated_163 : decode cX0_isRelated 163 = .ok (.ireturn, 1) := by decide +kernel
set_option maxRecDepth 20000 in
theorem ggX0_gaugesRelatedToProbe_X0_latestPlace : GoodIn wsX0_gaugesRelatedToProbe wsX0_latestPlace := goodIn_r _ [5, 6, 7, 8, 4, 9, 10, 11, 12, 22, 23, 24, 25, 26] (by decide +kernel) (by decide +kernel)
set_option maxRecDepth 20000 in
theorem gX0_gaugesRelatedToProbe_X0_latestPlace : GoodIn wsX0_gaugesRelatedToProbe (wsV RX0 102 RX0 yX0_latestPlace wsX0_latestPlace) := goodIn_app (goodIn_of _ (by decide +kernel)) ggX0_gaugesRelatedToProbe_X0_latestPlace
set_option maxRecDepth 20000 in
theorem ggX0_gaugesRelatedToProbe_X0_probePlace : GoodIn wsX0_gaugesRelatedToProbe wsX0_probePlace := goodIn_r _ [15] (by decide +kernel) (by decide +kernel)
set_option maxRecDepth 20000 in
theorem gX0_gaugesRelatedToProbe_X0_probePlace : GoodIn wsX0_gaugesRelatedToProbe (va_wsS RX0 79 yX0_probePlace wsX0_probePlace) := goodIn_app (goodIn_of _ (by decide +kernel)) ggX0_gaugesRelatedToProbe_X0_probePlace
set_option maxRecDepth 20000 in
theorem ggX0_gaugesRelatedToProbe_X0_isRelated : GoodIn wsX0_gaugesRelatedToProbe wsX0_isRelated := goodIn_r _ [19, 20, 21, 22, 23, 24, 25, 26] (by decide +kernel) (by decide +kernel)
set_option maxRecDepth 20000 in
theorem gX0_gaugesRelatedToProbe_X0_isRelated : GoodIn wsX0_gaugesRelatedToProbe (wsV RX0 98 RX0 yX0_isRelated wsX0_isRelated) := goodIn_app (goodIn_of _ (by decide +kernel)) ggX0_gaugesRelatedToProbe_X0_isRelated
theorem dX0_gaugesRelatedToProbe_0 : decode cX0_gaugesRelatedToProbe 0 = .ok (.iconst 0, 1) := by decide +kernel
theorem dX0_gaugesRelatedToProbe_1 : decode cX0_gaugesRelatedToProbe 1 = .ok (.istore_n 3, 1) := by decide +kernel
theorem dX0_gaugesRelatedToProbe_2 : decode cX0_gaugesRelatedToProbe 2 = .ok (.iconst 0, 1) := by decide +kernel
theorem dX0_gaugesRelatedToProbe_3 : decode cX0_gaugesRelatedToProbe 3 = .ok (.istore 4, 2) := by decide +kernel
theorem dX0_gaugesRelatedToProbe_5 : decode cX0_gaugesRelatedToProbe 5 = .ok (.iload 4, 2) := by decide +kernel
theorem dX0_gaugesRelatedToProbe_7 : decode cX0_gaugesRelatedToProbe 7 = .ok (.bipush 6, 2) := by decide +kernel
theorem dX0_gaugesRelatedToProbe_9 : decode cX0_gaugesRelatedToProbe 9 = .ok (.if_icmp .ge 31, 3) := by decide +kernel
theorem dX0_gaugesRelatedToProbe_12 : decode cX0_gaugesRelatedToProbe 12 = .ok (.aload_n 0, 1) := by decide +kernel
theorem dX0_gaugesRelatedToProbe_13 : decode cX0_gaugesRelatedToProbe 13 = .ok (.aload_n 0, 1) := by decide +kernel
theorem dX0_gaugesRelatedToProbe_14 : decode cX0_gaugesRelatedToProbe 14 = .ok (.iload 4, 2) := by decide +kernel
theorem dX0_gaugesRelatedToProbe_16 : decode cX0_gaugesRelatedToProbe 16 = .ok (.iload_n 1, 1) := by decide +kernel
theorem dX0_gaugesRelatedToProbe_17 : decode cX0_gaugesRelatedToProbe 17 = .ok (.invokevirtual 102, 3) := by decide +kernel
theorem dX0_gaugesRelatedToProbe_20 : decode cX0_gaugesRelatedToProbe 20 = .ok (.iload_n 1, 1) := by decide +kernel
theorem dX0_gaugesRelatedToProbe_21 : decode cX0_gaugesRelatedToProbe 21 = .ok (.invokestatic 79, 3) := by decide +kernel
theorem dX0_gaugesRelatedToProbe_24 : decode cX0_gaugesRelatedToProbe 24 = .ok (.iload_n 2, 1) := by decide +kernel
theorem dX0_gaugesRelatedToProbe_25 : decode cX0_gaugesRelatedToProbe 25 = .ok (.invokevirtual 98, 3) := by decide +kernel
theorem dX0_gaugesRelatedToProbe_28 : decode cX0_gaugesRelatedToProbe 28 = .ok (.ifCond .eq 6, 3) := by decide +kernel
theorem dX0_gaugesRelatedToProbe_31 : decode cX0_gaugesRelatedToProbe 31 = .ok (.iinc 3 1, 3) := by decide +kernel
theorem dX0_gaugesRelatedToProbe_34 : decode cX0_gaugesRelatedToProbe 34 = .ok (.iinc 4 1, 3) := by decide +kernel
theorem dX0_gaugesRelatedToProbe_37 : decode cX0_gaugesRelatedToProbe 37 = .ok (.goto (-32), 3) := by decide +kernel
theorem dX0_gaugesRelatedToProbe_40 : decode cX0_gaugesRelatedToProbe 40 = .ok (.iload_n 3, 1) := by decide +kernel
theorem dX0_gaugesRelatedToProbe_41 : decode cX0_gaugesRelatedToProbe 41 = .ok (.ireturn, 1) := by decide +kernel
set_option maxRecDepth 20000 in
theorem ggX0_runAhead_X0_stripPlace : GoodIn wsX0_runAhead wsX0_stripPlace := goodIn_r _ [5] (by decide +kernel) (by decide +kernel)
set_option maxRecDepth 20000 in
theorem gX0_runAhead_X0_stripPlace : GoodIn wsX0_runAhead (va_wsS RX0 95 yX0_stripPlace wsX0_stripPlace) := goodIn_app (goodIn_of _ (by decide +kernel)) ggX0_runAhead_X0_stripPlace
set_option maxRecDepth 20000 in
theorem ggX0_runAhead_X0_isRelated : GoodIn wsX0_runAhead wsX0_isRelated := goodIn_r _ [9, 10, 11, 12, 13, 14, 15, 16] (by decide +kernel) (by decide +kernel)
set_option maxRecDepth 20000 in
theorem gX0_runAhead_X0_isRelated : GoodIn wsX0_runAhead (wsV RX0 98 RX0 yX0_isRelated wsX0_isRelated) := goodIn_app (goodIn_of _ (by decide +kernel)) ggX0_runAhead_X0_isRelated
theorem dX0_runAhead_0 : decode cX0_runAhead 0 = .ok (.iconst 0, 1) := by decide +kernel
theorem dX0_runAhead_1 : decode cX0_runAhead 1 = .ok (.istore 4, 2) := by decide +kernel
theorem dX0_runAhead_3 : decode cX0_runAhead 3 = .ok (.iload 4, 2) := by decide +kernel
theorem dX0_runAhead_5 : decode cX0_runAhead 5 = .ok (.aload_n 0, 1) := by decide +kernel
theorem dX0_runAhead_6 : decode cX0_runAhead 6 = .ok (.getfield 17, 3) := by decide +kernel
theorem dX0_runAhead_9 : decode cX0_runAhead 9 = .ok (.iload_n 1, 1) := by decide +kernel
theorem dX0_runAhead_10 : decode cX0_runAhead 10 = .ok (.iaload, 1) := by decide +kernel
theorem dX0_runAhead_11 : decode cX0_runAhead 11 = .ok (.if_icmp .ge 24, 3) := by decide +kernel
theorem dX0_runAhead_14 : decode cX0_runAhead 14 = .ok (.aload_n 0, 1) := by decide +kernel
theorem dX0_runAhead_15 : decode cX0_runAhead 15 = .ok (.iload_n 1, 1) := by decide +kernel
theorem dX0_runAhead_16 : decode cX0_runAhead 16 = .ok (.iload 4, 2) := by decide +kernel
theorem dX0_runAhead_18 : decode cX0_runAhead 18 = .ok (.invokestatic 95, 3) := by decide +kernel
theorem dX0_runAhead_21 : decode cX0_runAhead 21 = .ok (.iload_n 2, 1) := by decide +kernel
theorem dX0_runAhead_22 : decode cX0_runAhead 22 = .ok (.iload_n 3, 1) := by decide +kernel
theorem dX0_runAhead_23 : decode cX0_runAhead 23 = .ok (.invokevirtual 98, 3) := by decide +kernel
theorem dX0_runAhead_26 : decode cX0_runAhead 26 = .ok (.ifCond .eq 9, 3) := by decide +kernel
theorem dX0_runAhead_29 : decode cX0_runAhead 29 = .ok (.iinc 4 1, 3) := by decide +kernel
theorem dX0_runAhead_32 : decode cX0_runAhead 32 = .ok (.goto (-29), 3) := by decide +kernel
theorem dX0_runAhead_35 : decode cX0_runAhead 35 = .ok (.iload 4, 2) := by decide +kernel
theorem dX0_runAhead_37 : decode cX0_runAhead 37 = .ok (.ireturn, 1) := by decide +kernel
set_option maxRecDepth 20000 in
theorem ggX0_runBack_X0_stripPlace : GoodIn wsX0_runBack wsX0_stripPlace := goodIn_r _ [5] (by decide +kernel) (by decide +kernel)
set_option maxRecDepth 20000 in
theorem gX0_runBack_X0_stripPlace : GoodIn wsX0_runBack (va_wsS RX0 95 yX0_stripPlace wsX0_stripPlace) := goodIn_app (goodIn_of _ (by decide +kernel)) ggX0_runBack_X0_stripPlace
set_option maxRecDepth 20000 in
theorem ggX0_runBack_X0_isRelated : GoodIn wsX0_runBack wsX0_isRelated := goodIn_r _ [9, 10, 11, 12, 13, 14, 15, 16] (by decide +kernel) (by decide +kernel)
set_option maxRecDepth 20000 in
theorem gX0_runBack_X0_isRelated : GoodIn wsX0_runBack (wsV RX0 98 RX0 yX0_isRelated wsX0_isRelated) := goodIn_app (goodIn_of _ (by decide +kernel)) ggX0_runBack_X0_isRelated
theorem dX0_runBack_0 : decode cX0_runBack 0 = .ok (.aload_n 0, 1) := by decide +kernel
theorem dX0_runBack_1 : decode cX0_runBack 1 = .ok (.getfield 17, 3) := by decide +kernel
theorem dX0_runBack_4 : decode cX0_runBack 4 = .ok (.iload_n 1, 1) := by decide +kernel
theorem dX0_runBack_5 : decode cX0_runBack 5 = .ok (.iaload, 1) := by decide +kernel
theorem dX0_runBack_6 : decode cX0_runBack 6 = .ok (.iconst 1, 1) := by decide +kernel
theorem dX0_runBack_7 : decode cX0_runBack 7 = .ok (.isub, 1) := by decide +kernel
theorem dX0_runBack_8 : decode cX0_runBack 8 = .ok (.istore 4, 2) := by decide +kernel
theorem dX0_runBack_10 : decode cX0_runBack 10 = .ok (.iconst 0, 1) := by decide +kernel
theorem dX0_runBack_11 : decode cX0_runBack 11 = .ok (.istore 5, 2) := by decide +kernel
theorem dX0_runBack_13 : decode cX0_runBack 13 = .ok (.iload 5, 2) := by decide +kernel
theorem dX0_runBack_15 : decode cX0_runBack 15 = .ok (.iload 4, 2) := by decide +kernel
theorem dX0_runBack_17 : decode cX0_runBack 17 = .ok (.if_icmp .gt 27, 3) := by decide +kernel
theorem dX0_runBack_20 : decode cX0_runBack 20 = .ok (.aload_n 0, 1) := by decide +kernel
theorem dX0_runBack_21 : decode cX0_runBack 21 = .ok (.iload_n 1, 1) := by decide +kernel
theorem dX0_runBack_22 : decode cX0_runBack 22 = .ok (.iload 4, 2) := by decide +kernel
theorem dX0_runBack_24 : decode cX0_runBack 24 = .ok (.iload 5, 2) := by decide +kernel
theorem dX0_runBack_26 : decode cX0_runBack 26 = .ok (.isub, 1) := by decide +kernel
theorem dX0_runBack_27 : decode cX0_runBack 27 = .ok (.invokestatic 95, 3) := by decide +kernel
theorem dX0_runBack_30 : decode cX0_runBack 30 = .ok (.iload_n 2, 1) := by decide +kernel
theorem dX0_runBack_31 : decode cX0_runBack 31 = .ok (.iload_n 3, 1) := by decide +kernel
theorem dX0_runBack_32 : decode cX0_runBack 32 = .ok (.invokevirtual 98, 3) := by decide +kernel
theorem dX0_runBack_35 : decode cX0_runBack 35 = .ok (.ifCond .ne 9, 3) := by decide +kernel
theorem dX0_runBack_38 : decode cX0_runBack 38 = .ok (.iinc 5 1, 3) := by decide +kernel
theorem dX0_runBack_41 : decode cX0_runBack 41 = .ok (.goto (-28), 3) := by decide +kernel
theorem dX0_runBack_44 : decode cX0_runBack 44 = .ok (.iload 5, 2) := by decide +kernel
theorem dX0_runBack_46 : decode cX0_runBack 46 = .ok (.ireturn, 1) := by decide +kernel
set_option maxRecDepth 20000 in
theorem ggX0_standOfLevel_X0_stripOf : GoodIn wsX0_standOfLevel wsX0_stripOf := goodIn_r _ [6] (by decide +kernel) (by decide +kernel)
set_option maxRecDepth 20000 in
theorem gX0_standOfLevel_X0_stripOf : GoodIn wsX0_standOfLevel (va_wsS RX0 37 yX0_stripOf wsX0_stripOf) := goodIn_app (goodIn_of _ (by decide +kernel)) ggX0_standOfLevel_X0_stripOf
set_option maxRecDepth 20000 in
theorem ggX0_standOfLevel_X0_latestPlace : GoodIn wsX0_standOfLevel wsX0_latestPlace := goodIn_r _ [10, 1, 3, 4, 5, 6, 11, 12, 13, 22, 23, 24, 25, 26] (by decide +kernel) (by decide +kernel)
set_option maxRecDepth 20000 in
theorem gX0_standOfLevel_X0_latestPlace : GoodIn wsX0_standOfLevel (wsV RX0 102 RX0 yX0_latestPlace wsX0_latestPlace) := goodIn_app (goodIn_of _ (by decide +kernel)) ggX0_standOfLevel_X0_latestPlace
set_option maxRecDepth 20000 in
theorem ggX0_standOfLevel_X0_markPlace : GoodIn wsX0_standOfLevel wsX0_markPlace := goodIn_r _ [16] (by decide +kernel) (by decide +kernel)
set_option maxRecDepth 20000 in
theorem gX0_standOfLevel_X0_markPlace : GoodIn wsX0_standOfLevel (va_wsS RX0 66 yX0_markPlace wsX0_markPlace) := goodIn_app (goodIn_of _ (by decide +kernel)) ggX0_standOfLevel_X0_markPlace
set_option maxRecDepth 20000 in
theorem ggX0_standOfLevel_X0_isRelated : GoodIn wsX0_standOfLevel wsX0_isRelated := goodIn_r _ [20, 2, 21, 22, 23, 24, 25, 26] (by decide +kernel) (by decide +kernel)
set_option maxRecDepth 20000 in
theorem gX0_standOfLevel_X0_isRelated : GoodIn wsX0_standOfLevel (wsV RX0 98 RX0 yX0_isRelated wsX0_isRelated) := goodIn_app (goodIn_of _ (by decide +kernel)) ggX0_standOfLevel_X0_isRelated
theorem dX0_standOfLevel_0 : decode cX0_standOfLevel 0 = .ok (.aload_n 0, 1) := by decide +kernel
theorem dX0_standOfLevel_1 : decode cX0_standOfLevel 1 = .ok (.getfield 17, 3) := by decide +kernel
theorem dX0_standOfLevel_4 : decode cX0_standOfLevel 4 = .ok (.iload_n 1, 1) := by decide +kernel
theorem dX0_standOfLevel_5 : decode cX0_standOfLevel 5 = .ok (.iconst 0, 1) := by decide +kernel
theorem dX0_standOfLevel_6 : decode cX0_standOfLevel 6 = .ok (.invokestatic 37, 3) := by decide +kernel
theorem dX0_standOfLevel_9 : decode cX0_standOfLevel 9 = .ok (.iaload, 1) := by decide +kernel
theorem dX0_standOfLevel_10 : decode cX0_standOfLevel 10 = .ok (.ifCond .ne 5, 3) := by decide +kernel
theorem dX0_standOfLevel_13 : decode cX0_standOfLevel 13 = .ok (.iconst 0, 1) := by decide +kernel
theorem dX0_standOfLevel_14 : decode cX0_standOfLevel 14 = .ok (.ireturn, 1) := by decide +kernel
theorem dX0_standOfLevel_15 : decode cX0_standOfLevel 15 = .ok (.aload_n 0, 1) := by decide +kernel
theorem dX0_standOfLevel_16 : decode cX0_standOfLevel 16 = .ok (.iload_n 1, 1) := by decide +kernel
theorem dX0_standOfLevel_17 : decode cX0_standOfLevel 17 = .ok (.iconst 0, 1) := by decide +kernel
theorem dX0_standOfLevel_18 : decode cX0_standOfLevel 18 = .ok (.invokevirtual 102, 3) := by decide +kernel
theorem dX0_standOfLevel_21 : decode cX0_standOfLevel 21 = .ok (.istore_n 2, 1) := by decide +kernel
theorem dX0_standOfLevel_22 : decode cX0_standOfLevel 22 = .ok (.iload_n 1, 1) := by decide +kernel
theorem dX0_standOfLevel_23 : decode cX0_standOfLevel 23 = .ok (.iconst 0, 1) := by decide +kernel
theorem dX0_standOfLevel_24 : decode cX0_standOfLevel 24 = .ok (.invokestatic 66, 3) := by decide +kernel
theorem dX0_standOfLevel_27 : decode cX0_standOfLevel 27 = .ok (.istore_n 3, 1) := by decide +kernel
theorem dX0_standOfLevel_28 : decode cX0_standOfLevel 28 = .ok (.iload_n 1, 1) := by decide +kernel
theorem dX0_standOfLevel_29 : decode cX0_standOfLevel 29 = .ok (.iconst 1, 1) := by decide +kernel
theorem dX0_standOfLevel_30 : decode cX0_standOfLevel 30 = .ok (.invokestatic 66, 3) := by decide +kernel
theorem dX0_standOfLevel_33 : decode cX0_standOfLevel 33 = .ok (.istore 4, 2) := by decide +kernel
theorem dX0_standOfLevel_35 : decode cX0_standOfLevel 35 = .ok (.aload_n 0, 1) := by decide +kernel
theorem dX0_standOfLevel_36 : decode cX0_standOfLevel 36 = .ok (.getfield 9, 3) := by decide +kernel
theorem dX0_standOfLevel_39 : decode cX0_standOfLevel 39 = .ok (.iload_n 2, 1) := by decide +kernel
theorem dX0_standOfLevel_40 : decode cX0_standOfLevel 40 = .ok (.baload, 1) := by decide +kernel
theorem dX0_standOfLevel_41 : decode cX0_standOfLevel 41 = .ok (.ifCond .ne 5, 3) := by decide +kernel
theorem dX0_standOfLevel_44 : decode cX0_standOfLevel 44 = .ok (.iconst 1, 1) := by decide +kernel
theorem dX0_standOfLevel_45 : decode cX0_standOfLevel 45 = .ok (.ireturn, 1) := by decide +kernel
theorem dX0_standOfLevel_46 : decode cX0_standOfLevel 46 = .ok (.aload_n 0, 1) := by decide +kernel
theorem dX0_standOfLevel_47 : decode cX0_standOfLevel 47 = .ok (.iload_n 2, 1) := by decide +kernel
theorem dX0_standOfLevel_48 : decode cX0_standOfLevel 48 = .ok (.iload_n 3, 1) := by decide +kernel
theorem dX0_standOfLevel_49 : decode cX0_standOfLevel 49 = .ok (.iconst 0, 1) := by decide +kernel
theorem dX0_standOfLevel_50 : decode cX0_standOfLevel 50 = .ok (.invokevirtual 98, 3) := by decide +kernel
theorem dX0_standOfLevel_53 : decode cX0_standOfLevel 53 = .ok (.ifCond .eq 5, 3) := by decide +kernel
theorem dX0_standOfLevel_56 : decode cX0_standOfLevel 56 = .ok (.iconst 2, 1) := by decide +kernel
theorem dX0_standOfLevel_57 : decode cX0_standOfLevel 57 = .ok (.ireturn, 1) := by decide +kernel
theorem dX0_standOfLevel_58 : decode cX0_standOfLevel 58 = .ok (.aload_n 0, 1) := by decide +kernel
theorem dX0_standOfLevel_59 : decode cX0_standOfLevel 59 = .ok (.iload_n 2, 1) := by decide +kernel
theorem dX0_standOfLevel_60 : decode cX0_standOfLevel 60 = .ok (.iload 4, 2) := by decide +kernel
theorem dX0_standOfLevel_62 : decode cX0_standOfLevel 62 = .ok (.iconst 2, 1) := by decide +kernel
theorem dX0_standOfLevel_63 : decode cX0_standOfLevel 63 = .ok (.invokevirtual 98, 3) := by decide +kernel
theorem dX0_standOfLevel_66 : decode cX0_standOfLevel 66 = .ok (.ifCond .eq 5, 3) := by decide +kernel
theorem dX0_standOfLevel_69 : decode cX0_standOfLevel 69 = .ok (.iconst 3, 1) := by decide +kernel
theorem dX0_standOfLevel_70 : decode cX0_standOfLevel 70 = .ok (.ireturn, 1) := by decide +kernel
theorem dX0_standOfLevel_71 : decode cX0_standOfLevel 71 = .ok (.aload_n 0, 1) := by decide +kernel
theorem dX0_standOfLevel_72 : decode cX0_standOfLevel 72 = .ok (.iload_n 2, 1) := by decide +kernel
theorem dX0_standOfLevel_73 : decode cX0_standOfLevel 73 = .ok (.iload_n 3, 1) := by decide +kernel
theorem dX0_standOfLevel_74 : decode cX0_standOfLevel 74 = .ok (.iconst 4, 1) := by decide +kernel
theorem dX0_standOfLevel_75 : decode cX0_standOfLevel 75 = .ok (.invokevirtual 98, 3) := by decide +kernel
theorem dX0_standOfLevel_78 : decode cX0_standOfLevel 78 = .ok (.ifCond .ne 14, 3) := by decide +kernel
theorem dX0_standOfLevel_81 : decode cX0_standOfLevel 81 = .ok (.aload_n 0, 1) := by decide +kernel
theorem dX0_standOfLevel_82 : decode cX0_standOfLevel 82 = .ok (.iload_n 2, 1) := by decide +kernel
theorem dX0_standOfLevel_83 : decode cX0_standOfLevel 83 = .ok (.iload 4, 2) := by decide +kernel
theorem dX0_standOfLevel_85 : decode cX0_standOfLevel 85 = .ok (.iconst 4, 1) := by decide +kernel
theorem dX0_standOfLevel_86 : decode cX0_standOfLevel 86 = .ok (.invokevirtual 98, 3) := by decide +kernel
theorem dX0_standOfLevel_89 : decode cX0_standOfLevel 89 = .ok (.ifCond .eq 5, 3) := by decide +kernel
theorem dX0_standOfLevel_92 : decode cX0_standOfLevel 92 = .ok (.iconst 4, 1) := by decide +kernel
theorem dX0_standOfLevel_93 : decode cX0_standOfLevel 93 = .ok (.ireturn, 1) := by decide +kernel
theorem dX0_standOfLevel_94 : decode cX0_standOfLevel 94 = .ok (.aload_n 0, 1) := by decide +kernel
theorem dX0_standOfLevel_95 : decode cX0_standOfLevel 95 = .ok (.getfield 9, 3) := by decide +kernel
theorem dX0_standOfLevel_98 : decode cX0_standOfLevel 98 = .ok (.iload_n 3, 1) := by decide +kernel
theorem dX0_standOfLevel_99 : decode cX0_standOfLevel 99 = .ok (.baload, 1) := by decide +kernel
theorem dX0_standOfLevel_100 : decode cX0_standOfLevel 100 = .ok (.ifCond .ne 13, 3) := by decide +kernel
theorem dX0_standOfLevel_103 : decode cX0_standOfLevel 103 = .ok (.aload_n 0, 1) := by decide +kernel
theorem dX0_standOfLevel_104 : decode cX0_standOfLevel 104 = .ok (.getfield 9, 3) := by decide +kernel
theorem dX0_standOfLevel_107 : decode cX0_standOfLevel 107 = .ok (.iload 4, 2) := by decide +kernel
theorem dX0_standOfLevel_109 : decode cX0_standOfLevel 109 = .ok (.baload, 1) := by decide +kernel
theorem dX0_standOfLevel_110 : decode cX0_standOfLevel 110 = .ok (.ifCond .eq 8, 3) := by decide +kernel
theorem dX0_standOfLevel_113 : decode cX0_standOfLevel 113 = .ok (.bipush 6, 2) := by decide +kernel
theorem dX0_standOfLevel_115 : decode cX0_standOfLevel 115 = .ok (.goto 4, 3) := by decide +kernel
theorem dX0_standOfLevel_118 : decode cX0_standOfLevel 118 = .ok (.iconst 5, 1) := by decide +kernel
theorem dX0_standOfLevel_119 : decode cX0_standOfLevel 119 = .ok (.ireturn, 1) := by decide +kernel
set_option maxRecDepth 20000 in
theorem ggX0_standOfWind_X0_latestPlace : GoodIn wsX0_standOfWind wsX0_latestPlace := goodIn_r _ [6, 7, 8, 9, 5, 10, 11, 12, 13, 22, 23, 24, 25, 26] (by decide +kernel) (by decide +kernel)
set_option maxRecDepth 20000 in
theorem gX0_standOfWind_X0_latestPlace : GoodIn wsX0_standOfWind (wsV RX0 102 RX0 yX0_latestPlace wsX0_latestPlace) := goodIn_app (goodIn_of _ (by decide +kernel)) ggX0_standOfWind_X0_latestPlace
set_option maxRecDepth 20000 in
theorem ggX0_standOfWind_X0_markPlace : GoodIn wsX0_standOfWind wsX0_markPlace := goodIn_r _ [16] (by decide +kernel) (by decide +kernel)
set_option maxRecDepth 20000 in
theorem gX0_standOfWind_X0_markPlace : GoodIn wsX0_standOfWind (va_wsS RX0 66 yX0_markPlace wsX0_markPlace) := goodIn_app (goodIn_of _ (by decide +kernel)) ggX0_standOfWind_X0_markPlace
set_option maxRecDepth 20000 in
theorem ggX0_standOfWind_X0_isRelated : GoodIn wsX0_standOfWind wsX0_isRelated := goodIn_r _ [20, 1, 21, 22, 23, 24, 25, 26] (by decide +kernel) (by decide +kernel)
set_option maxRecDepth 20000 in
theorem gX0_standOfWind_X0_isRelated : GoodIn wsX0_standOfWind (wsV RX0 98 RX0 yX0_isRelated wsX0_isRelated) := goodIn_app (goodIn_of _ (by decide +kernel)) ggX0_standOfWind_X0_isRelated
theorem dX0_standOfWind_0 : decode cX0_standOfWind 0 = .ok (.aload_n 0, 1) := by decide +kernel
theorem dX0_standOfWind_1 : decode cX0_standOfWind 1 = .ok (.iload_n 1, 1) := by decide +kernel
theorem dX0_standOfWind_2 : decode cX0_standOfWind 2 = .ok (.iconst 1, 1) := by decide +kernel
theorem dX0_standOfWind_3 : decode cX0_standOfWind 3 = .ok (.invokevirtual 102, 3) := by decide +kernel
theorem dX0_standOfWind_6 : decode cX0_standOfWind 6 = .ok (.istore_n 2, 1) := by decide +kernel
theorem dX0_standOfWind_7 : decode cX0_standOfWind 7 = .ok (.iload_n 1, 1) := by decide +kernel
theorem dX0_standOfWind_8 : decode cX0_standOfWind 8 = .ok (.iconst 2, 1) := by decide +kernel
theorem dX0_standOfWind_9 : decode cX0_standOfWind 9 = .ok (.invokestatic 66, 3) := by decide +kernel
theorem dX0_standOfWind_12 : decode cX0_standOfWind 12 = .ok (.istore_n 3, 1) := by decide +kernel
theorem dX0_standOfWind_13 : decode cX0_standOfWind 13 = .ok (.aload_n 0, 1) := by decide +kernel
theorem dX0_standOfWind_14 : decode cX0_standOfWind 14 = .ok (.getfield 9, 3) := by decide +kernel
theorem dX0_standOfWind_17 : decode cX0_standOfWind 17 = .ok (.iload_n 3, 1) := by decide +kernel
theorem dX0_standOfWind_18 : decode cX0_standOfWind 18 = .ok (.baload, 1) := by decide +kernel
theorem dX0_standOfWind_19 : decode cX0_standOfWind 19 = .ok (.ifCond .ne 5, 3) := by decide +kernel
theorem dX0_standOfWind_22 : decode cX0_standOfWind 22 = .ok (.iconst 0, 1) := by decide +kernel
theorem dX0_standOfWind_23 : decode cX0_standOfWind 23 = .ok (.ireturn, 1) := by decide +kernel
theorem dX0_standOfWind_24 : decode cX0_standOfWind 24 = .ok (.aload_n 0, 1) := by decide +kernel
theorem dX0_standOfWind_25 : decode cX0_standOfWind 25 = .ok (.getfield 9, 3) := by decide +kernel
theorem dX0_standOfWind_28 : decode cX0_standOfWind 28 = .ok (.iload_n 2, 1) := by decide +kernel
theorem dX0_standOfWind_29 : decode cX0_standOfWind 29 = .ok (.baload, 1) := by decide +kernel
theorem dX0_standOfWind_30 : decode cX0_standOfWind 30 = .ok (.ifCond .ne 6, 3) := by decide +kernel
theorem dX0_standOfWind_33 : decode cX0_standOfWind 33 = .ok (.bipush 30, 2) := by decide +kernel
theorem dX0_standOfWind_35 : decode cX0_standOfWind 35 = .ok (.ireturn, 1) := by decide +kernel
theorem dX0_standOfWind_36 : decode cX0_standOfWind 36 = .ok (.aload_n 0, 1) := by decide +kernel
theorem dX0_standOfWind_37 : decode cX0_standOfWind 37 = .ok (.iload_n 2, 1) := by decide +kernel
theorem dX0_standOfWind_38 : decode cX0_standOfWind 38 = .ok (.iload_n 3, 1) := by decide +kernel
theorem dX0_standOfWind_39 : decode cX0_standOfWind 39 = .ok (.iconst 0, 1) := by decide +kernel
theorem dX0_standOfWind_40 : decode cX0_standOfWind 40 = .ok (.invokevirtual 98, 3) := by decide +kernel
theorem dX0_standOfWind_43 : decode cX0_standOfWind 43 = .ok (.ifCond .eq 8, 3) := by decide +kernel
theorem dX0_standOfWind_46 : decode cX0_standOfWind 46 = .ok (.bipush 10, 2) := by decide +kernel
theorem dX0_standOfWind_48 : decode cX0_standOfWind 48 = .ok (.goto 5, 3) := by decide +kernel
theorem dX0_standOfWind_51 : decode cX0_standOfWind 51 = .ok (.bipush 20, 2) := by decide +kernel
theorem dX0_standOfWind_53 : decode cX0_standOfWind 53 = .ok (.ireturn, 1) := by decide +kernel
set_option maxRecDepth 20000 in
theorem ggX0_gaugesAheadOf_X0_isAhead : GoodIn wsX0_gaugesAheadOf wsX0_isAhead := goodIn_r _ [5, 6, 7, 8, 9, 4, 10, 11, 12, 13, 14, 15, 16, 17, 18, 19, 20, 21, 22, 23, 24, 25, 26, 27, 28, 29, 30, 31] (by decide +kernel) (by decide +kernel)
set_option maxRecDepth 20000 in
theorem gX0_gaugesAheadOf_X0_isAhead : GoodIn wsX0_gaugesAheadOf (wsV RX0 172 RX0 yX0_isAhead wsX0_isAhead) := goodIn_app (goodIn_of _ (by decide +kernel)) ggX0_gaugesAheadOf_X0_isAhead
theorem dX0_gaugesAheadOf_0 : decode cX0_gaugesAheadOf 0 = .ok (.iconst 0, 1) := by decide +kernel
theorem dX0_gaugesAheadOf_1 : decode cX0_gaugesAheadOf 1 = .ok (.istore_n 2, 1) := by decide +kernel
theorem dX0_gaugesAheadOf_2 : decode cX0_gaugesAheadOf 2 = .ok (.iconst 0, 1) := by decide +kernel
theorem dX0_gaugesAheadOf_3 : decode cX0_gaugesAheadOf 3 = .ok (.istore_n 3, 1) := by decide +kernel
theorem dX0_gaugesAheadOf_4 : decode cX0_gaugesAheadOf 4 = .ok (.iload_n 3, 1) := by decide +kernel
theorem dX0_gaugesAheadOf_5 : decode cX0_gaugesAheadOf 5 = .ok (.bipush 6, 2) := by decide +kernel
theorem dX0_gaugesAheadOf_7 : decode cX0_gaugesAheadOf 7 = .ok (.if_icmp .ge 21, 3) := by decide +kernel
theorem dX0_gaugesAheadOf_10 : decode cX0_gaugesAheadOf 10 = .ok (.aload_n 0, 1) := by decide +kernel
theorem dX0_gaugesAheadOf_11 : decode cX0_gaugesAheadOf 11 = .ok (.iload_n 3, 1) := by decide +kernel
theorem dX0_gaugesAheadOf_12 : decode cX0_gaugesAheadOf 12 = .ok (.iload_n 1, 1) := by decide +kernel
theorem dX0_gaugesAheadOf_13 : decode cX0_gaugesAheadOf 13 = .ok (.invokevirtual 172, 3) := by decide +kernel
theorem dX0_gaugesAheadOf_16 : decode cX0_gaugesAheadOf 16 = .ok (.ifCond .eq 6, 3) := by decide +kernel
theorem dX0_gaugesAheadOf_19 : decode cX0_gaugesAheadOf 19 = .ok (.iinc 2 1, 3) := by decide +kernel
theorem dX0_gaugesAheadOf_22 : decode cX0_gaugesAheadOf 22 = .ok (.iinc 3 1, 3) := by decide +kernel
theorem dX0_gaugesAheadOf_25 : decode cX0_gaugesAheadOf 25 = .ok (.goto (-21), 3) := by decide +kernel
theorem dX0_gaugesAheadOf_28 : decode cX0_gaugesAheadOf 28 = .ok (.iload_n 2, 1) := by decide +kernel
theorem dX0_gaugesAheadOf_29 : decode cX0_gaugesAheadOf 29 = .ok (.ireturn, 1) := by decide +kernel
set_option maxRecDepth 20000 in
theorem ggX0_isAhead_X0_latestPlace : GoodIn wsX0_isAhead wsX0_latestPlace := goodIn_r _ [6, 7, 8, 9, 5, 10, 11, 12, 13, 23, 24, 25, 26, 27] (by decide +kernel) (by decide +kernel)
set_option maxRecDepth 20000 in
theorem gX0_isAhead_X0_latestPlace : GoodIn wsX0_isAhead (wsV RX0 102 RX0 yX0_latestPlace wsX0_latestPlace) := goodIn_app (goodIn_of _ (by decide +kernel)) ggX0_isAhead_X0_latestPlace
set_option maxRecDepth 20000 in
theorem ggX0_isAhead_X0_likenessOf : GoodIn wsX0_isAhead wsX0_likenessOf := goodIn_r _ [17, 1, 18, 19, 20, 5, 21, 22, 23, 24, 25, 26, 27] (by decide +kernel) (by decide +kernel)
set_option maxRecDepth 20000 in
theorem gX0_isAhead_X0_likenessOf : GoodIn wsX0_isAhead (wsV RX0 119 RX0 yX0_likenessOf wsX0_likenessOf) := goodIn_app (goodIn_of _ (by decide +kernel)) ggX0_isAhead_X0_likenessOf
set_option maxRecDepth 20000 in
theorem ggX0_isAhead_X0_isRelated : GoodIn wsX0_isAhead wsX0_isRelated := goodIn_r _ [21, 1, 22, 23, 24, 25, 26, 27] (by decide +kernel) (by decide +kernel)
set_option maxRecDepth 20000 in
theorem gX0_isAhead_X0_isRelated : GoodIn wsX0_isAhead (wsV RX0 98 RX0 yX0_isRelated wsX0_isRelated) := goodIn_app (goodIn_of _ (by decide +kernel)) ggX0_isAhead_X0_isRelated
theorem dX0_isAhead_0 : decode cX0_isAhead 0 = .ok (.aload_n 0, 1) := by decide +kernel
theorem dX0_isAhead_1 : decode cX0_isAhead 1 = .ok (.iload_n 1, 1) := by decide +kernel
theorem dX0_isAhead_2 : decode cX0_isAhead 2 = .ok (.iconst 0, 1) := by decide +kernel
theorem dX0_isAhead_3 : decode cX0_isAhead 3 = .ok (.invokevirtual 102, 3) := by decide +kernel
theorem dX0_isAhead_6 : decode cX0_isAhead 6 = .ok (.istore_n 3, 1) := by decide +kernel
theorem dX0_isAhead_7 : decode cX0_isAhead 7 = .ok (.aload_n 0, 1) := by decide +kernel
theorem dX0_isAhead_8 : decode cX0_isAhead 8 = .ok (.iload_n 2, 1) := by decide +kernel
theorem dX0_isAhead_9 : decode cX0_isAhead 9 = .ok (.iconst 0, 1) := by decide +kernel
theorem dX0_isAhead_10 : decode cX0_isAhead 10 = .ok (.invokevirtual 102, 3) := by decide +kernel
theorem dX0_isAhead_13 : decode cX0_isAhead 13 = .ok (.istore 4, 2) := by decide +kernel
theorem dX0_isAhead_15 : decode cX0_isAhead 15 = .ok (.aload_n 0, 1) := by decide +kernel
theorem dX0_isAhead_16 : decode cX0_isAhead 16 = .ok (.iload_n 3, 1) := by decide +kernel
theorem dX0_isAhead_17 : decode cX0_isAhead 17 = .ok (.iload 4, 2) := by decide +kernel
theorem dX0_isAhead_19 : decode cX0_isAhead 19 = .ok (.invokevirtual 119, 3) := by decide +kernel
theorem dX0_isAhead_22 : decode cX0_isAhead 22 = .ok (.ifCond .le 14, 3) := by decide +kernel
theorem dX0_isAhead_25 : decode cX0_isAhead 25 = .ok (.iload_n 1, 1) := by decide +kernel
theorem dX0_isAhead_26 : decode cX0_isAhead 26 = .ok (.iload_n 2, 1) := by decide +kernel
theorem dX0_isAhead_27 : decode cX0_isAhead 27 = .ok (.if_icmp .ge 7, 3) := by decide +kernel
theorem dX0_isAhead_30 : decode cX0_isAhead 30 = .ok (.iconst 1, 1) := by decide +kernel
theorem dX0_isAhead_31 : decode cX0_isAhead 31 = .ok (.goto 4, 3) := by decide +kernel
theorem dX0_isAhead_34 : decode cX0_isAhead 34 = .ok (.iconst 0, 1) := by decide +kernel
theorem dX0_isAhead_35 : decode cX0_isAhead 35 = .ok (.ireturn, 1) := by decide +kernel
theorem dX0_isAhead_36 : decode cX0_isAhead 36 = .ok (.aload_n 0, 1) := by decide +kernel
theorem dX0_isAhead_37 : decode cX0_isAhead 37 = .ok (.getfield 9, 3) := by decide +kernel
theorem dX0_isAhead_40 : decode cX0_isAhead 40 = .ok (.iload_n 3, 1) := by decide +kernel
theorem dX0_isAhead_41 : decode cX0_isAhead 41 = .ok (.baload, 1) := by decide +kernel
theorem dX0_isAhead_42 : decode cX0_isAhead 42 = .ok (.ifCond .eq 28, 3) := by decide +kernel
theorem dX0_isAhead_45 : decode cX0_isAhead 45 = .ok (.aload_n 0, 1) := by decide +kernel
theorem dX0_isAhead_46 : decode cX0_isAhead 46 = .ok (.getfield 9, 3) := by decide +kernel
theorem dX0_isAhead_49 : decode cX0_isAhead 49 = .ok (.iload 4, 2) := by decide +kernel
theorem dX0_isAhead_51 : decode cX0_isAhead 51 = .ok (.baload, 1) := by decide +kernel
theorem dX0_isAhead_52 : decode cX0_isAhead 52 = .ok (.ifCond .eq 14, 3) := by decide +kernel
theorem dX0_isAhead_55 : decode cX0_isAhead 55 = .ok (.aload_n 0, 1) := by decide +kernel
theorem dX0_isAhead_56 : decode cX0_isAhead 56 = .ok (.iload_n 3, 1) := by decide +kernel
theorem dX0_isAhead_57 : decode cX0_isAhead 57 = .ok (.iload 4, 2) := by decide +kernel
theorem dX0_isAhead_59 : decode cX0_isAhead 59 = .ok (.iconst 2, 1) := by decide +kernel
theorem dX0_isAhead_60 : decode cX0_isAhead 60 = .ok (.invokevirtual 98, 3) := by decide +kernel
theorem dX0_isAhead_63 : decode cX0_isAhead 63 = .ok (.ifCond .eq 7, 3) := by decide +kernel
theorem dX0_isAhead_66 : decode cX0_isAhead 66 = .ok (.iconst 1, 1) := by decide +kernel
theorem dX0_isAhead_67 : decode cX0_isAhead 67 = .ok (.goto 4, 3) := by decide +kernel
theorem dX0_isAhead_70 : decode cX0_isAhead 70 = .ok (.iconst 0, 1) := by decide +kernel
theorem dX0_isAhead_71 : decode cX0_isAhead 71 = .ok (.ireturn, 1) := by decide +kernel
set_option maxRecDepth 20000 in
theorem ggX0_likenessOf_X0_isRelated : GoodIn wsX0_likenessOf wsX0_isRelated := goodIn_r _ [6, 1, 7, 8, 9, 10, 11, 12] (by decide +kernel) (by decide +kernel)
set_option maxRecDepth 20000 in
theorem gX0_likenessOf_X0_isRelated : GoodIn wsX0_likenessOf (wsV RX0 98 RX0 yX0_isRelated wsX0_isRelated) := goodIn_app (goodIn_of _ (by decide +kernel)) ggX0_likenessOf_X0_isRelated
theorem dX0_likenessOf_0 : decode cX0_likenessOf 0 = .ok (.aload_n 0, 1) := by decide +kernel
theorem dX0_likenessOf_1 : decode cX0_likenessOf 1 = .ok (.getfield 9, 3) := by decide +kernel
theorem dX0_likenessOf_4 : decode cX0_likenessOf 4 = .ok (.iload_n 1, 1) := by decide +kernel
theorem dX0_likenessOf_5 : decode cX0_likenessOf 5 = .ok (.baload, 1) := by decide +kernel
theorem dX0_likenessOf_6 : decode cX0_likenessOf 6 = .ok (.ifCond .ne 14, 3) := by decide +kernel
theorem dX0_likenessOf_9 : decode cX0_likenessOf 9 = .ok (.aload_n 0, 1) := by decide +kernel
theorem dX0_likenessOf_10 : decode cX0_likenessOf 10 = .ok (.getfield 9, 3) := by decide +kernel
theorem dX0_likenessOf_13 : decode cX0_likenessOf 13 = .ok (.iload_n 2, 1) := by decide +kernel
theorem dX0_likenessOf_14 : decode cX0_likenessOf 14 = .ok (.baload, 1) := by decide +kernel
theorem dX0_likenessOf_15 : decode cX0_likenessOf 15 = .ok (.ifCond .ne 5, 3) := by decide +kernel
theorem dX0_likenessOf_18 : decode cX0_likenessOf 18 = .ok (.iconst 1, 1) := by decide +kernel
theorem dX0_likenessOf_19 : decode cX0_likenessOf 19 = .ok (.ireturn, 1) := by decide +kernel
theorem dX0_likenessOf_20 : decode cX0_likenessOf 20 = .ok (.aload_n 0, 1) := by decide +kernel
theorem dX0_likenessOf_21 : decode cX0_likenessOf 21 = .ok (.iload_n 1, 1) := by decide +kernel
theorem dX0_likenessOf_22 : decode cX0_likenessOf 22 = .ok (.iload_n 2, 1) := by decide +kernel
theorem dX0_likenessOf_23 : decode cX0_likenessOf 23 = .ok (.iconst 4, 1) := by decide +kernel
theorem dX0_likenessOf_24 : decode cX0_likenessOf 24 = .ok (.invokevirtual 98, 3) := by decide +kernel
theorem dX0_likenessOf_27 : decode cX0_likenessOf 27 = .ok (.ifCond .eq 7, 3) := by decide +kernel
theorem dX0_likenessOf_30 : decode cX0_likenessOf 30 = .ok (.iconst 2, 1) := by decide +kernel
theorem dX0_likenessOf_31 : decode cX0_likenessOf 31 = .ok (.goto 4, 3) := by decide +kernel
theorem dX0_likenessOf_34 : decode cX0_likenessOf 34 = .ok (.iconst 0, 1) := by decide +kernel
theorem dX0_likenessOf_35 : decode cX0_likenessOf 35 = .ok (.ireturn, 1) := by decide +kernel
set_option maxRecDepth 20000 in
theorem ggX0_extremePlace_X0_stripPlace : GoodIn wsX0_extremePlace wsX0_stripPlace := goodIn_r _ [8] (by decide +kernel) (by decide +kernel)
set_option maxRecDepth 20000 in
theorem gX0_extremePlace_X0_stripPlace : GoodIn wsX0_extremePlace (va_wsS RX0 95 yX0_stripPlace wsX0_stripPlace) := goodIn_app (goodIn_of _ (by decide +kernel)) ggX0_extremePlace_X0_stripPlace
set_option maxRecDepth 20000 in
theorem ggX0_extremePlace_X0_isRelated : GoodIn wsX0_extremePlace wsX0_isRelated := goodIn_r _ [12, 4, 13, 14, 15, 16, 17, 18] (by decide +kernel) (by decide +kernel)
set_option maxRecDepth 20000 in
theorem gX0_extremePlace_X0_isRelated : GoodIn wsX0_extremePlace (wsV RX0 98 RX0 yX0_isRelated wsX0_isRelated) := goodIn_app (goodIn_of _ (by decide +kernel)) ggX0_extremePlace_X0_isRelated
theorem dX0_extremePlace_0 : decode cX0_extremePlace 0 = .ok (.sipush 164, 3) := by decide +kernel
theorem dX0_extremePlace_3 : decode cX0_extremePlace 3 = .ok (.istore_n 3, 1) := by decide +kernel
theorem dX0_extremePlace_4 : decode cX0_extremePlace 4 = .ok (.iconst 0, 1) := by decide +kernel
theorem dX0_extremePlace_5 : decode cX0_extremePlace 5 = .ok (.istore 4, 2) := by decide +kernel
theorem dX0_extremePlace_7 : decode cX0_extremePlace 7 = .ok (.iload 4, 2) := by decide +kernel
theorem dX0_extremePlace_9 : decode cX0_extremePlace 9 = .ok (.aload_n 0, 1) := by decide +kernel
theorem dX0_extremePlace_10 : decode cX0_extremePlace 10 = .ok (.getfield 17, 3) := by decide +kernel
theorem dX0_extremePlace_13 : decode cX0_extremePlace 13 = .ok (.iload_n 1, 1) := by decide +kernel
theorem dX0_extremePlace_14 : decode cX0_extremePlace 14 = .ok (.iaload, 1) := by decide +kernel
theorem dX0_extremePlace_15 : decode cX0_extremePlace 15 = .ok (.if_icmp .ge 60, 3) := by decide +kernel
theorem dX0_extremePlace_18 : decode cX0_extremePlace 18 = .ok (.iload_n 1, 1) := by decide +kernel
theorem dX0_extremePlace_19 : decode cX0_extremePlace 19 = .ok (.iload 4, 2) := by decide +kernel
theorem dX0_extremePlace_21 : decode cX0_extremePlace 21 = .ok (.invokestatic 95, 3) := by decide +kernel
theorem dX0_extremePlace_24 : decode cX0_extremePlace 24 = .ok (.istore 5, 2) := by decide +kernel
theorem dX0_extremePlace_26 : decode cX0_extremePlace 26 = .ok (.aload_n 0, 1) := by decide +kernel
theorem dX0_extremePlace_27 : decode cX0_extremePlace 27 = .ok (.getfield 9, 3) := by decide +kernel
theorem dX0_extremePlace_30 : decode cX0_extremePlace 30 = .ok (.iload 5, 2) := by decide +kernel
theorem dX0_extremePlace_32 : decode cX0_extremePlace 32 = .ok (.baload, 1) := by decide +kernel
theorem dX0_extremePlace_33 : decode cX0_extremePlace 33 = .ok (.ifCond .eq 14, 3) := by decide +kernel
theorem dX0_extremePlace_36 : decode cX0_extremePlace 36 = .ok (.iload_n 3, 1) := by decide +kernel
theorem dX0_extremePlace_37 : decode cX0_extremePlace 37 = .ok (.sipush 164, 3) := by decide +kernel
theorem dX0_extremePlace_40 : decode cX0_extremePlace 40 = .ok (.if_icmp .ne 7, 3) := by decide +kernel
theorem dX0_extremePlace_43 : decode cX0_extremePlace 43 = .ok (.iconst 1, 1) := by decide +kernel
theorem dX0_extremePlace_44 : decode cX0_extremePlace 44 = .ok (.goto 4, 3) := by decide +kernel
theorem dX0_extremePlace_47 : decode cX0_extremePlace 47 = .ok (.iconst 0, 1) := by decide +kernel
theorem dX0_extremePlace_48 : decode cX0_extremePlace 48 = .ok (.istore 6, 2) := by decide +kernel
theorem dX0_extremePlace_50 : decode cX0_extremePlace 50 = .ok (.iload 6, 2) := by decide +kernel
theorem dX0_extremePlace_52 : decode cX0_extremePlace 52 = .ok (.ifCond .ne 14, 3) := by decide +kernel
theorem dX0_extremePlace_55 : decode cX0_extremePlace 55 = .ok (.aload_n 0, 1) := by decide +kernel
theorem dX0_extremePlace_56 : decode cX0_extremePlace 56 = .ok (.iload 5, 2) := by decide +kernel
theorem dX0_extremePlace_58 : decode cX0_extremePlace 58 = .ok (.iload_n 3, 1) := by decide +kernel
theorem dX0_extremePlace_59 : decode cX0_extremePlace 59 = .ok (.iload_n 2, 1) := by decide +kernel
theorem dX0_extremePlace_60 : decode cX0_extremePlace 60 = .ok (.invokevirtual 98, 3) := by decide +kernel
theorem dX0_extremePlace_63 : decode cX0_extremePlace 63 = .ok (.ifCond .eq 6, 3) := by decide +kernel
theorem dX0_extremePlace_66 : decode cX0_extremePlace 66 = .ok (.iload 5, 2) := by decide +kernel
theorem dX0_extremePlace_68 : decode cX0_extremePlace 68 = .ok (.istore_n 3, 1) := by decide +kernel
theorem dX0_extremePlace_69 : decode cX0_extremePlace 69 = .ok (.iinc 4 1, 3) := by decide +kernel
theorem dX0_extremePlace_72 : decode cX0_extremePlace 72 = .ok (.goto (-65), 3) := by decide +kernel
theorem dX0_extremePlace_75 : decode cX0_extremePlace 75 = .ok (.iload_n 3, 1) := by decide +kernel
theorem dX0_extremePlace_76 : decode cX0_extremePlace 76 = .ok (.sipush 164, 3) := by decide +kernel
theorem dX0_extremePlace_79 : decode cX0_extremePlace 79 = .ok (.if_icmp .ne 13, 3) := by decide +kernel
theorem dX0_extremePlace_82 : decode cX0_extremePlace 82 = .ok (.new 176, 3) := by decide +kernel
theorem dX0_extremePlace_85 : decode cX0_extremePlace 85 = .ok (.dup, 1) := by decide +kernel
theorem dX0_extremePlace_86 : decode cX0_extremePlace 86 = .ok (.ldc 178, 2) := by decide +kernel
theorem dX0_extremePlace_88 : decode cX0_extremePlace 88 = .ok (.invokespecial 180, 3) := by decide +kernel
theorem dX0_extremePlace_91 : decode cX0_extremePlace 91 = .ok (.athrow, 1) := by decide +kernel
theorem dX0_extremePlace_92 : decode cX0_extremePlace 92 = .ok (.iload_n 3, 1) := by decide +kernel
theorem dX0_extremePlace_93 : decode cX0_extremePlace 93 = .ok (.ireturn, 1) := by decide +kernel
theorem dX1_init_0 : decode cX1_init 0 = .ok (.aload_n 0, 1) := by decide +kernel
theorem dX1_init_1 : decode cX1_init 1 = .ok (.invokespecial 1, 3) := by decide +kernel
theorem dX1_init_4 : decode cX1_init 4 = .ok (.aload_n 0, 1) := by decide +kernel
theorem dX1_init_5 : decode cX1_init 5 = .ok (.sipush 144, 3) := by decide +kernel
theorem dX1_init_8 : decode cX1_init 8 = .ok (.newarray .double, 2) := by decide +kernel
theorem dX1_init_10 : decode cX1_init 10 = .ok (.putfield 7, 3) := by decide +kernel
theorem dX1_init_13 : decode cX1_init 13 = .ok (.aload_n 0, 1) := by decide +kernel
theorem dX1_init_14 : decode cX1_init 14 = .ok (.sipush 144, 3) := by decide +kernel
theorem dX1_init_17 : decode cX1_init 17 = .ok (.newarray .boolean, 2) := by decide +kernel
theorem dX1_init_19 : decode cX1_init 19 = .ok (.putfield 13, 3) := by decide +kernel
theorem dX1_init_22 : decode cX1_init 22 = .ok (.aload_n 0, 1) := by decide +kernel
theorem dX1_init_23 : decode cX1_init 23 = .ok (.bipush 12, 2) := by decide +kernel
theorem dX1_init_25 : decode cX1_init 25 = .ok (.newarray .int, 2) := by decide +kernel
theorem dX1_init_27 : decode cX1_init 27 = .ok (.putfield 17, 3) := by decide +kernel
theorem dX1_init_30 : decode cX1_init 30 = .ok (.aload_n 0, 1) := by decide +kernel
theorem dX1_init_31 : decode cX1_init 31 = .ok (.bipush 18, 2) := by decide +kernel
theorem dX1_init_33 : decode cX1_init 33 = .ok (.newarray .double, 2) := by decide +kernel
theorem dX1_init_35 : decode cX1_init 35 = .ok (.putfield 21, 3) := by decide +kernel
theorem dX1_init_38 : decode cX1_init 38 = .ok (.aload_n 0, 1) := by decide +kernel
theorem dX1_init_39 : decode cX1_init 39 = .ok (.bipush 18, 2) := by decide +kernel
theorem dX1_init_41 : decode cX1_init 41 = .ok (.newarray .boolean, 2) := by decide +kernel
theorem dX1_init_43 : decode cX1_init 43 = .ok (.putfield 24, 3) := by decide +kernel
theorem dX1_init_46 : decode cX1_init 46 = .ok (.aload_n 0, 1) := by decide +kernel
theorem dX1_init_47 : decode cX1_init 47 = .ok (.iconst 2, 1) := by decide +kernel
theorem dX1_init_48 : decode cX1_init 48 = .ok (.newarray .double, 2) := by decide +kernel
theorem dX1_init_50 : decode cX1_init 50 = .ok (.putfield 27, 3) := by decide +kernel
theorem dX1_init_53 : decode cX1_init 53 = .ok (.aload_n 0, 1) := by decide +kernel
theorem dX1_init_54 : decode cX1_init 54 = .ok (.iconst 2, 1) := by decide +kernel
theorem dX1_init_55 : decode cX1_init 55 = .ok (.newarray .boolean, 2) := by decide +kernel
theorem dX1_init_57 : decode cX1_init 57 = .ok (.putfield 30, 3) := by decide +kernel
theorem dX1_init_60 : decode cX1_init 60 = .ok (.return_, 1) := by decide +kernel
theorem dX1_thrown_0 : decode cX1_thrown 0 = .ok (.aload_n 0, 1) := by decide +kernel
theorem dX1_thrown_1 : decode cX1_thrown 1 = .ok (.getfield 33, 3) := by decide +kernel
theorem dX1_thrown_4 : decode cX1_thrown 4 = .ok (.ireturn, 1) := by decide +kernel
theorem dX1_throwing_0 : decode cX1_throwing 0 = .ok (.aload_n 0, 1) := by decide +kernel
theorem dX1_throwing_1 : decode cX1_throwing 1 = .ok (.iload_n 1, 1) := by decide +kernel
theorem dX1_throwing_2 : decode cX1_throwing 2 = .ok (.ifCond .eq 7, 3) := by decide +kernel
theorem dX1_throwing_5 : decode cX1_throwing 5 = .ok (.iconst 1, 1) := by decide +kernel
theorem dX1_throwing_6 : decode cX1_throwing 6 = .ok (.goto 20, 3) := by decide +kernel
theorem dX1_throwing_9 : decode cX1_throwing 9 = .ok (.iload_n 2, 1) := by decide +kernel
theorem dX1_throwing_10 : decode cX1_throwing 10 = .ok (.ifCond .eq 7, 3) := by decide +kernel
theorem dX1_throwing_13 : decode cX1_throwing 13 = .ok (.iconst 2, 1) := by decide +kernel
theorem dX1_throwing_14 : decode cX1_throwing 14 = .ok (.goto 12, 3) := by decide +kernel
theorem dX1_throwing_17 : decode cX1_throwing 17 = .ok (.iload_n 3, 1) := by decide +kernel
theorem dX1_throwing_18 : decode cX1_throwing 18 = .ok (.ifCond .eq 7, 3) := by decide +kernel
theorem dX1_throwing_21 : decode cX1_throwing 21 = .ok (.iconst 3, 1) := by decide +kernel
theorem dX1_throwing_22 : decode cX1_throwing 22 = .ok (.goto 4, 3) := by decide +kernel
theorem dX1_throwing_25 : decode cX1_throwing 25 = .ok (.iconst 0, 1) := by decide +kernel
theorem dX1_throwing_26 : decode cX1_throwing 26 = .ok (.putfield 33, 3) := by decide +kernel
theorem dX1_throwing_29 : decode cX1_throwing 29 = .ok (.aload_n 0, 1) := by decide +kernel
theorem dX1_throwing_30 : decode cX1_throwing 30 = .ok (.getfield 33, 3) := by decide +kernel
theorem dX1_throwing_33 : decode cX1_throwing 33 = .ok (.ifCond .le 7, 3) := by decide +kernel
theorem dX1_throwing_36 : decode cX1_throwing 36 = .ok (.iconst 1, 1) := by decide +kernel
theorem dX1_throwing_37 : decode cX1_throwing 37 = .ok (.goto 4, 3) := by decide +kernel
theorem dX1_throwing_40 : decode cX1_throwing 40 = .ok (.iconst 0, 1) := by decide +kernel
theorem dX1_throwing_41 : decode cX1_throwing 41 = .ok (.ireturn, 1) := by decide +kernel
theorem dX1_outside_0 : decode cX1_outside 0 = .ok (.iload_n 0, 1) := by decide +kernel
theorem dX1_outside_1 : decode cX1_outside 1 = .ok (.ifCond .lt 8, 3) := by decide +kernel
theorem dX1_outside_4 : decode cX1_outside 4 = .ok (.iload_n 0, 1) := by decide +kernel
theorem dX1_outside_5 : decode cX1_outside 5 = .ok (.iload_n 1, 1) := by decide +kernel
theorem dX1_outside_6 : decode cX1_outside 6 = .ok (.if_icmp .le 7, 3) := by decide +kernel
theorem dX1_outside_9 : decode cX1_outside 9 = .ok (.iconst 1, 1) := by decide +kernel
theorem dX1_outside_10 : decode cX1_outside 10 = .ok (.goto 4, 3) := by decide +kernel
theorem dX1_outside_13 : decode cX1_outside 13 = .ok (.iconst 0, 1) := by decide +kernel
theorem dX1_outside_14 : decode cX1_outside 14 = .ok (.ireturn, 1) := by decide +kernel
theorem dX1_isLevel_0 : decode cX1_isLevel 0 = .ok (.dload_n 0, 1) := by decide +kernel
theorem dX1_isLevel_1 : decode cX1_isLevel 1 = .ok (.ldc2_w 37, 3) := by decide +kernel
theorem dX1_isLevel_4 : decode cX1_isLevel 4 = .ok (.dcmp .l, 1) := by decide +kernel
theorem dX1_isLevel_5 : decode cX1_isLevel 5 = .ok (.ifCond .lt 15, 3) := by decide +kernel
theorem dX1_isLevel_8 : decode cX1_isLevel 8 = .ok (.dload_n 0, 1) := by decide +kernel
theorem dX1_isLevel_9 : decode cX1_isLevel 9 = .ok (.ldc2_w 39, 3) := by decide +kernel
theorem dX1_isLevel_12 : decode cX1_isLevel 12 = .ok (.dcmp .g, 1) := by decide +kernel
theorem dX1_isLevel_13 : decode cX1_isLevel 13 = .ok (.ifCond .gt 7, 3) := by decide +kernel
theorem dX1_isLevel_16 : decode cX1_isLevel 16 = .ok (.iconst 1, 1) := by decide +kernel
theorem dX1_isLevel_17 : decode cX1_isLevel 17 = .ok (.goto 4, 3) := by decide +kernel
theorem dX1_isLevel_20 : decode cX1_isLevel 20 = .ok (.iconst 0, 1) := by decide +kernel
theorem dX1_isLevel_21 : decode cX1_isLevel 21 = .ok (.ireturn, 1) := by decide +kernel
theorem dX1_isWind_0 : decode cX1_isWind 0 = .ok (.dload_n 0, 1) := by decide +kernel
theorem dX1_isWind_1 : decode cX1_isWind 1 = .ok (.dconst 0, 1) := by decide +kernel
theorem dX1_isWind_2 : decode cX1_isWind 2 = .ok (.dcmp .l, 1) := by decide +kernel
theorem dX1_isWind_3 : decode cX1_isWind 3 = .ok (.ifCond .lt 15, 3) := by decide +kernel
theorem dX1_isWind_6 : decode cX1_isWind 6 = .ok (.dload_n 0, 1) := by decide +kernel
theorem dX1_isWind_7 : decode cX1_isWind 7 = .ok (.ldc2_w 41, 3) := by decide +kernel
theorem dX1_isWind_10 : decode cX1_isWind 10 = .ok (.dcmp .g, 1) := by decide +kernel
theorem dX1_isWind_11 : decode cX1_isWind 11 = .ok (.ifCond .gt 7, 3) := by decide +kernel
theorem dX1_isWind_14 : decode cX1_isWind 14 = .ok (.iconst 1, 1) := by decide +kernel
theorem dX1_isWind_15 : decode cX1_isWind 15 = .ok (.goto 4, 3) := by decide +kernel
theorem dX1_isWind_18 : decode cX1_isWind 18 = .ok (.iconst 0, 1) := by decide +kernel
theorem dX1_isWind_19 : decode cX1_isWind 19 = .ok (.ireturn, 1) := by decide +kernel
theorem dX1_way_0 : decode cX1_way 0 = .ok (.iload_n 0, 1) := by decide +kernel
theorem dX1_way_1 : decode cX1_way 1 = .ok (.ifCond .eq 8, 3) := by decide +kernel
theorem dX1_way_4 : decode cX1_way 4 = .ok (.bipush 8, 2) := by decide +kernel
theorem dX1_way_6 : decode cX1_way 6 = .ok (.goto 24, 3) := by decide +kernel
theorem dX1_way_9 : decode cX1_way 9 = .ok (.dload_n 1, 1) := by decide +kernel
theorem dX1_way_10 : decode cX1_way 10 = .ok (.dload_n 3, 1) := by decide +kernel
theorem dX1_way_11 : decode cX1_way 11 = .ok (.dcmp .g, 1) := by decide +kernel
theorem dX1_way_12 : decode cX1_way 12 = .ok (.ifCond .ge 7, 3) := by decide +kernel
theorem dX1_way_15 : decode cX1_way 15 = .ok (.iconst 1, 1) := by decide +kernel
theorem dX1_way_16 : decode cX1_way 16 = .ok (.goto 14, 3) := by decide +kernel
theorem dX1_way_19 : decode cX1_way 19 = .ok (.dload_n 1, 1) := by decide +kernel
theorem dX1_way_20 : decode cX1_way 20 = .ok (.dload_n 3, 1) := by decide +kernel
theorem dX1_way_21 : decode cX1_way 21 = .ok (.dcmp .l, 1) := by decide +kernel
theorem dX1_way_22 : decode cX1_way 22 = .ok (.ifCond .le 7, 3) := by decide +kernel
theorem dX1_way_25 : decode cX1_way 25 = .ok (.iconst 4, 1) := by decide +kernel
theorem dX1_way_26 : decode cX1_way 26 = .ok (.goto 4, 3) := by decide +kernel
theorem dX1_way_29 : decode cX1_way 29 = .ok (.iconst 2, 1) := by decide +kernel
theorem dX1_way_30 : decode cX1_way 30 = .ok (.ireturn, 1) := by decide +kernel
theorem dX1_ways_0 : decode cX1_ways 0 = .ok (.iload_n 0, 1) := by decide +kernel
theorem dX1_ways_1 : decode cX1_ways 1 = .ok (.tableswitch 46 0 4 #[35, 37, 39, 41, 44], 35) := by decide +kernel
theorem dX1_ways_36 : decode cX1_ways 36 = .ok (.iconst 1, 1) := by decide +kernel
theorem dX1_ways_37 : decode cX1_ways 37 = .ok (.ireturn, 1) := by decide +kernel
theorem dX1_ways_38 : decode cX1_ways 38 = .ok (.iconst 3, 1) := by decide +kernel
theorem dX1_ways_39 : decode cX1_ways 39 = .ok (.ireturn, 1) := by decide +kernel
theorem dX1_ways_40 : decode cX1_ways 40 = .ok (.iconst 4, 1) := by decide +kernel
theorem dX1_ways_41 : decode cX1_ways 41 = .ok (.ireturn, 1) := by decide +kernel
theorem dX1_ways_42 : decode cX1_ways 42 = .ok (.bipush 6, 2) := by decide +kernel
theorem dX1_ways_44 : decode cX1_ways 44 = .ok (.ireturn, 1) := by decide +kernel
theorem dX1_ways_45 : decode cX1_ways 45 = .ok (.iconst 2, 1) := by decide +kernel
theorem dX1_ways_46 : decode cX1_ways 46 = .ok (.ireturn, 1) := by decide +kernel
theorem dX1_ways_47 : decode cX1_ways 47 = .ok (.bipush 13, 2) := by decide +kernel
theorem dX1_ways_49 : decode cX1_ways 49 = .ok (.ireturn, 1) := by decide +kernel
set_option maxRecDepth 20000 in
theorem ggX1_is_X1_ways : GoodIn wsX1_is wsX1_ways := goodIn_r _ [4] (by decide +kernel) (by decide +kernel)
set_option maxRecDepth 20000 in
theorem gX1_is_X1_ways : GoodIn wsX1_is (va_wsS RX1 43 yX1_ways wsX1_ways) := goodIn_app (goodIn_of _ (by decide +kernel)) ggX1_is_X1_ways
theorem dX1_is_0 : decode cX1_is 0 = .ok (.iload_n 0, 1) := by decide +kernel
theorem dX1_is_1 : decode cX1_is 1 = .ok (.invokestatic 43, 3) := by decide +kernel
theorem dX1_is_4 : decode cX1_is 4 = .ok (.iload_n 1, 1) := by decide +kernel
theorem dX1_is_5 : decode cX1_is 5 = .ok (.iand, 1) := by decide +kernel
theorem dX1_is_6 : decode cX1_is 6 = .ok (.ifCond .eq 7, 3) := by decide +kernel
theorem dX1_is_9 : decode cX1_is 9 = .ok (.iconst 1, 1) := by decide +kernel
theorem dX1_is_10 : decode cX1_is 10 = .ok (.goto 4, 3) := by decide +kernel
theorem dX1_is_13 : decode cX1_is 13 = .ok (.iconst 0, 1) := by decide +kernel
theorem dX1_is_14 : decode cX1_is 14 = .ok (.ireturn, 1) := by decide +kernel
theorem dX1_latest_0 : decode cX1_latest 0 = .ok (.aload_n 0, 1) := by decide +kernel
theorem dX1_latest_1 : decode cX1_latest 1 = .ok (.getfield 17, 3) := by decide +kernel
theorem dX1_latest_4 : decode cX1_latest 4 = .ok (.iload_n 1, 1) := by decide +kernel
theorem dX1_latest_5 : decode cX1_latest 5 = .ok (.iaload, 1) := by decide +kernel
theorem dX1_latest_6 : decode cX1_latest 6 = .ok (.ifCond .ne 7, 3) := by decide +kernel
theorem dX1_latest_9 : decode cX1_latest 9 = .ok (.iconst (-1), 1) := by decide +kernel
theorem dX1_latest_10 : decode cX1_latest 10 = .ok (.goto 16, 3) := by decide +kernel
theorem dX1_latest_13 : decode cX1_latest 13 = .ok (.bipush 12, 2) := by decide +kernel
theorem dX1_latest_15 : decode cX1_latest 15 = .ok (.iload_n 1, 1) := by decide +kernel
theorem dX1_latest_16 : decode cX1_latest 16 = .ok (.imul, 1) := by decide +kernel
theorem dX1_latest_17 : decode cX1_latest 17 = .ok (.aload_n 0, 1) := by decide +kernel
theorem dX1_latest_18 : decode cX1_latest 18 = .ok (.getfield 17, 3) := by decide +kernel
theorem dX1_latest_21 : decode cX1_latest 21 = .ok (.iload_n 1, 1) := by decide +kernel
theorem dX1_latest_22 : decode cX1_latest 22 = .ok (.iaload, 1) := by decide +kernel
theorem dX1_latest_23 : decode cX1_latest 23 = .ok (.iadd, 1) := by decide +kernel
theorem dX1_latest_24 : decode cX1_latest 24 = .ok (.iconst 1, 1) := by decide +kernel
theorem dX1_latest_25 : decode cX1_latest 25 = .ok (.isub, 1) := by decide +kernel
theorem dX1_latest_26 : decode cX1_latest 26 = .ok (.ireturn, 1) := by decide +kernel
set_option maxRecDepth 20000 in
theorem ggX1_latestOut_X1_latest : GoodIn wsX1_latestOut wsX1_latest := goodIn_r _ [7, 1, 8, 9, 10, 11, 12, 13, 14, 15, 16, 17] (by decide +kernel) (by decide +kernel)
set_option maxRecDepth 20000 in
theorem gX1_latestOut_X1_latest : GoodIn wsX1_latestOut (wsV RX1 47 RX1 yX1_latest wsX1_latest) := goodIn_app (goodIn_of _ (by decide +kernel)) ggX1_latestOut_X1_latest
theorem dX1_latestOut_0 : decode cX1_latestOut 0 = .ok (.aload_n 0, 1) := by decide +kernel
theorem dX1_latestOut_1 : decode cX1_latestOut 1 = .ok (.getfield 17, 3) := by decide +kernel
theorem dX1_latestOut_4 : decode cX1_latestOut 4 = .ok (.iload_n 1, 1) := by decide +kernel
theorem dX1_latestOut_5 : decode cX1_latestOut 5 = .ok (.iaload, 1) := by decide +kernel
theorem dX1_latestOut_6 : decode cX1_latestOut 6 = .ok (.ifCond .eq 16, 3) := by decide +kernel
theorem dX1_latestOut_9 : decode cX1_latestOut 9 = .ok (.aload_n 0, 1) := by decide +kernel
theorem dX1_latestOut_10 : decode cX1_latestOut 10 = .ok (.getfield 13, 3) := by decide +kernel
theorem dX1_latestOut_13 : decode cX1_latestOut 13 = .ok (.aload_n 0, 1) := by decide +kernel
theorem dX1_latestOut_14 : decode cX1_latestOut 14 = .ok (.iload_n 1, 1) := by decide +kernel
theorem dX1_latestOut_15 : decode cX1_latestOut 15 = .ok (.invokevirtual 47, 3) := by decide +kernel
theorem dX1_latestOut_18 : decode cX1_latestOut 18 = .ok (.baload, 1) := by decide +kernel
theorem dX1_latestOut_19 : decode cX1_latestOut 19 = .ok (.ifCond .eq 7, 3) := by decide +kernel
theorem dX1_latestOut_22 : decode cX1_latestOut 22 = .ok (.iconst 1, 1) := by decide +kernel
theorem dX1_latestOut_23 : decode cX1_latestOut 23 = .ok (.goto 4, 3) := by decide +kernel
theorem dX1_latestOut_26 : decode cX1_latestOut 26 = .ok (.iconst 0, 1) := by decide +kernel
theorem dX1_latestOut_27 : decode cX1_latestOut 27 = .ok (.ireturn, 1) := by decide +kernel
set_option maxRecDepth 20000 in
theorem ggX1_latestValue_X1_latest : GoodIn wsX1_latestValue wsX1_latest := goodIn_r _ [7, 1, 8, 9, 10, 11, 12, 13, 14, 15, 16, 17] (by decide +kernel) (by decide +kernel)
set_option maxRecDepth 20000 in
theorem gX1_latestValue_X1_latest : GoodIn wsX1_latestValue (wsV RX1 47 RX1 yX1_latest wsX1_latest) := goodIn_app (goodIn_of _ (by decide +kernel)) ggX1_latestValue_X1_latest
theorem dX1_latestValue_0 : decode cX1_latestValue 0 = .ok (.aload_n 0, 1) := by decide +kernel
theorem dX1_latestValue_1 : decode cX1_latestValue 1 = .ok (.getfield 17, 3) := by decide +kernel
theorem dX1_latestValue_4 : decode cX1_latestValue 4 = .ok (.iload_n 1, 1) := by decide +kernel
theorem dX1_latestValue_5 : decode cX1_latestValue 5 = .ok (.iaload, 1) := by decide +kernel
theorem dX1_latestValue_6 : decode cX1_latestValue 6 = .ok (.ifCond .ne 7, 3) := by decide +kernel
theorem dX1_latestValue_9 : decode cX1_latestValue 9 = .ok (.dconst 0, 1) := by decide +kernel
theorem dX1_latestValue_10 : decode cX1_latestValue 10 = .ok (.goto 13, 3) := by decide +kernel
theorem dX1_latestValue_13 : decode cX1_latestValue 13 = .ok (.aload_n 0, 1) := by decide +kernel
theorem dX1_latestValue_14 : decode cX1_latestValue 14 = .ok (.getfield 7, 3) := by decide +kernel
theorem dX1_latestValue_17 : decode cX1_latestValue 17 = .ok (.aload_n 0, 1) := by decide +kernel
theorem dX1_latestValue_18 : decode cX1_latestValue 18 = .ok (.iload_n 1, 1) := by decide +kernel
theorem dX1_latestValue_19 : decode cX1_latestValue 19 = .ok (.invokevirtual 47, 3) := by decide +kernel
theorem dX1_latestValue_22 : decode cX1_latestValue 22 = .ok (.daload, 1) := by decide +kernel
theorem dX1_latestValue_23 : decode cX1_latestValue 23 = .ok (.dreturn, 1) := by decide +kernel
set_option maxRecDepth 20000 in
theorem ggX1_latestWay_X1_latestOut : GoodIn wsX1_latestWay wsX1_latestOut := goodIn_r _ [5, 6, 7, 8, 9, 10, 4, 11, 20, 21, 22, 23, 24, 25, 26, 27, 28, 29] (by decide +kernel) (by decide +kernel)
set_option maxRecDepth 20000 in
theorem gX1_latestWay_X1_latestOut : GoodIn wsX1_latestWay (wsV RX1 50 RX1 yX1_latestOut wsX1_latestOut) := goodIn_app (goodIn_of _ (by decide +kernel)) ggX1_latestWay_X1_latestOut
set_option maxRecDepth 20000 in
theorem ggX1_latestWay_X1_latestValue : GoodIn wsX1_latestWay wsX1_latestValue := goodIn_r _ [15, 6, 16, 8, 9, 10, 4, 11, 20, 21, 22, 23, 24, 25, 26, 27, 28, 29] (by decide +kernel) (by decide +kernel)
set_option maxRecDepth 20000 in
theorem gX1_latestWay_X1_latestValue : GoodIn wsX1_latestWay (wsV RX1 54 RX1 yX1_latestValue wsX1_latestValue) := goodIn_app (goodIn_of _ (by decide +kernel)) ggX1_latestWay_X1_latestValue
set_option maxRecDepth 20000 in
theorem ggX1_latestWay_X1_way : GoodIn wsX1_latestWay wsX1_way := goodIn_r _ [19] (by decide +kernel) (by decide +kernel)
set_option maxRecDepth 20000 in
theorem gX1_latestWay_X1_way : GoodIn wsX1_latestWay (va_wsS RX1 58 yX1_way wsX1_way) := goodIn_app (goodIn_of _ (by decide +kernel)) ggX1_latestWay_X1_way
theorem dX1_latestWay_0 : decode cX1_latestWay 0 = .ok (.aload_n 0, 1) := by decide +kernel
theorem dX1_latestWay_1 : decode cX1_latestWay 1 = .ok (.iload_n 1, 1) := by decide +kernel
theorem dX1_latestWay_2 : decode cX1_latestWay 2 = .ok (.invokevirtual 50, 3) := by decide +kernel
theorem dX1_latestWay_5 : decode cX1_latestWay 5 = .ok (.ifCond .ne 11, 3) := by decide +kernel
theorem dX1_latestWay_8 : decode cX1_latestWay 8 = .ok (.aload_n 0, 1) := by decide +kernel
theorem dX1_latestWay_9 : decode cX1_latestWay 9 = .ok (.iload_n 2, 1) := by decide +kernel
theorem dX1_latestWay_10 : decode cX1_latestWay 10 = .ok (.invokevirtual 50, 3) := by decide +kernel
theorem dX1_latestWay_13 : decode cX1_latestWay 13 = .ok (.ifCond .eq 7, 3) := by decide +kernel
theorem dX1_latestWay_16 : decode cX1_latestWay 16 = .ok (.iconst 1, 1) := by decide +kernel
theorem dX1_latestWay_17 : decode cX1_latestWay 17 = .ok (.goto 4, 3) := by decide +kernel
theorem dX1_latestWay_20 : decode cX1_latestWay 20 = .ok (.iconst 0, 1) := by decide +kernel
theorem dX1_latestWay_21 : decode cX1_latestWay 21 = .ok (.aload_n 0, 1) := by decide +kernel
theorem dX1_latestWay_22 : decode cX1_latestWay 22 = .ok (.iload_n 1, 1) := by decide +kernel
theorem dX1_latestWay_23 : decode cX1_latestWay 23 = .ok (.invokevirtual 54, 3) := by decide +kernel
theorem dX1_latestWay_26 : decode cX1_latestWay 26 = .ok (.aload_n 0, 1) := by decide +kernel
theorem dX1_latestWay_27 : decode cX1_latestWay 27 = .ok (.iload_n 2, 1) := by decide +kernel
theorem dX1_latestWay_28 : decode cX1_latestWay 28 = .ok (.invokevirtual 54, 3) := by decide +kernel
theorem dX1_latestWay_31 : decode cX1_latestWay 31 = .ok (.invokestatic 58, 3) := by decide +kernel
theorem dX1_latestWay_34 : decode cX1_latestWay 34 = .ok (.ireturn, 1) := by decide +kernel
set_option maxRecDepth 20000 in
theorem ggX1_probeWay_X1_way : GoodIn wsX1_probeWay wsX1_way := goodIn_r _ [8] (by decide +kernel) (by decide +kernel)
set_option maxRecDepth 20000 in
theorem gX1_probeWay_X1_way : GoodIn wsX1_probeWay (va_wsS RX1 58 yX1_way wsX1_way) := goodIn_app (goodIn_of _ (by decide +kernel)) ggX1_probeWay_X1_way
theorem dX1_probeWay_0 : decode cX1_probeWay 0 = .ok (.aload_n 0, 1) := by decide +kernel
theorem dX1_probeWay_1 : decode cX1_probeWay 1 = .ok (.getfield 13, 3) := by decide +kernel
theorem dX1_probeWay_4 : decode cX1_probeWay 4 = .ok (.iload_n 1, 1) := by decide +kernel
theorem dX1_probeWay_5 : decode cX1_probeWay 5 = .ok (.baload, 1) := by decide +kernel
theorem dX1_probeWay_6 : decode cX1_probeWay 6 = .ok (.ifCond .ne 12, 3) := by decide +kernel
theorem dX1_probeWay_9 : decode cX1_probeWay 9 = .ok (.aload_n 0, 1) := by decide +kernel
theorem dX1_probeWay_10 : decode cX1_probeWay 10 = .ok (.getfield 30, 3) := by decide +kernel
theorem dX1_probeWay_13 : decode cX1_probeWay 13 = .ok (.iload_n 2, 1) := by decide +kernel
theorem dX1_probeWay_14 : decode cX1_probeWay 14 = .ok (.baload, 1) := by decide +kernel
theorem dX1_probeWay_15 : decode cX1_probeWay 15 = .ok (.ifCond .ne 7, 3) := by decide +kernel
theorem dX1_probeWay_18 : decode cX1_probeWay 18 = .ok (.iconst 1, 1) := by decide +kernel
theorem dX1_probeWay_19 : decode cX1_probeWay 19 = .ok (.goto 4, 3) := by decide +kernel
theorem dX1_probeWay_22 : decode cX1_probeWay 22 = .ok (.iconst 0, 1) := by decide +kernel
theorem dX1_probeWay_23 : decode cX1_probeWay 23 = .ok (.aload_n 0, 1) := by decide +kernel
end
section
theorem dX1_probeWay_24 : decode cX1_probeWay 24 = .ok (.getfield 7, 3) := by decide +kernel
theorem dX1_probeWay_27 : decode cX1_probeWay 27 = .ok (.iload_n 1, 1) := by decide +kernel
theorem dX1_probeWay_28 : decode cX1_probeWay 28 = .ok (.daload, 1) := by decide +kernel
theorem dX1_probeWay_29 : decode cX1_probeWay 29 = .ok (.aload_n 0, 1) := by decide +kernel
theorem dX1_probeWay_30 : decode cX1_probeWay 30 = .ok (.getfield 27, 3) := by decide +kernel
theorem dX1_probeWay_33 : decode cX1_probeWay 33 = .ok (.iload_n 2, 1) := by decide +kernel
theorem dX1_probeWay_34 : decode cX1_probeWay 34 = .ok (.daload, 1) := by decide +kernel
theorem dX1_probeWay_35 : decode cX1_probeWay 35 = .ok (.invokestatic 58, 3) := by decide +kernel
theorem dX1_probeWay_38 : decode cX1_probeWay 38 = .ok (.ireturn, 1) := by decide +kernel
set_option maxRecDepth 20000 in
theorem ggX1_markWay_X1_latestOut : GoodIn wsX1_markWay wsX1_latestOut := goodIn_r _ [7, 8, 9, 10, 11, 12, 6, 13, 22, 23, 24, 25, 26, 27, 28, 29, 30, 31] (by decide +kernel) (by decide +kernel)
set_option maxRecDepth 20000 in
theorem gX1_markWay_X1_latestOut : GoodIn wsX1_markWay (wsV RX1 50 RX1 yX1_latestOut wsX1_latestOut) := goodIn_app (goodIn_of _ (by decide +kernel)) ggX1_markWay_X1_latestOut
set_option maxRecDepth 20000 in
theorem ggX1_markWay_X1_latestValue : GoodIn wsX1_markWay wsX1_latestValue := goodIn_r _ [17, 8, 18, 10, 11, 12, 6, 13, 22, 23, 24, 25, 26, 27, 28, 29, 30, 31] (by decide +kernel) (by decide +kernel)
set_option maxRecDepth 20000 in
theorem gX1_markWay_X1_latestValue : GoodIn wsX1_markWay (wsV RX1 54 RX1 yX1_latestValue wsX1_latestValue) := goodIn_app (goodIn_of _ (by decide +kernel)) ggX1_markWay_X1_latestValue
set_option maxRecDepth 20000 in
theorem ggX1_markWay_X1_way : GoodIn wsX1_markWay wsX1_way := goodIn_r _ [21] (by decide +kernel) (by decide +kernel)
set_option maxRecDepth 20000 in
theorem gX1_markWay_X1_way : GoodIn wsX1_markWay (va_wsS RX1 58 yX1_way wsX1_way) := goodIn_app (goodIn_of _ (by decide +kernel)) ggX1_markWay_X1_way
theorem dX1_markWay_0 : decode cX1_markWay 0 = .ok (.aload_n 0, 1) := by decide +kernel
theorem dX1_markWay_1 : decode cX1_markWay 1 = .ok (.iload_n 1, 1) := by decide +kernel
theorem dX1_markWay_2 : decode cX1_markWay 2 = .ok (.invokevirtual 50, 3) := by decide +kernel
theorem dX1_markWay_5 : decode cX1_markWay 5 = .ok (.ifCond .ne 12, 3) := by decide +kernel
theorem dX1_markWay_8 : decode cX1_markWay 8 = .ok (.aload_n 0, 1) := by decide +kernel
theorem dX1_markWay_9 : decode cX1_markWay 9 = .ok (.getfield 24, 3) := by decide +kernel
theorem dX1_markWay_12 : decode cX1_markWay 12 = .ok (.iload_n 2, 1) := by decide +kernel
theorem dX1_markWay_13 : decode cX1_markWay 13 = .ok (.baload, 1) := by decide +kernel
theorem dX1_markWay_14 : decode cX1_markWay 14 = .ok (.ifCond .ne 7, 3) := by decide +kernel
theorem dX1_markWay_17 : decode cX1_markWay 17 = .ok (.iconst 1, 1) := by decide +kernel
theorem dX1_markWay_18 : decode cX1_markWay 18 = .ok (.goto 4, 3) := by decide +kernel
theorem dX1_markWay_21 : decode cX1_markWay 21 = .ok (.iconst 0, 1) := by decide +kernel
theorem dX1_markWay_22 : decode cX1_markWay 22 = .ok (.aload_n 0, 1) := by decide +kernel
theorem dX1_markWay_23 : decode cX1_markWay 23 = .ok (.iload_n 1, 1) := by decide +kernel
theorem dX1_markWay_24 : decode cX1_markWay 24 = .ok (.invokevirtual 54, 3) := by decide +kernel
theorem dX1_markWay_27 : decode cX1_markWay 27 = .ok (.aload_n 0, 1) := by decide +kernel
theorem dX1_markWay_28 : decode cX1_markWay 28 = .ok (.getfield 21, 3) := by decide +kernel
theorem dX1_markWay_31 : decode cX1_markWay 31 = .ok (.iload_n 2, 1) := by decide +kernel
theorem dX1_markWay_32 : decode cX1_markWay 32 = .ok (.daload, 1) := by decide +kernel
theorem dX1_markWay_33 : decode cX1_markWay 33 = .ok (.invokestatic 58, 3) := by decide +kernel
theorem dX1_markWay_36 : decode cX1_markWay 36 = .ok (.ireturn, 1) := by decide +kernel
theorem dX1_comes_0 : decode cX1_comes 0 = .ok (.bipush 12, 2) := by decide +kernel
theorem dX1_comes_2 : decode cX1_comes 2 = .ok (.iload_n 1, 1) := by decide +kernel
theorem dX1_comes_3 : decode cX1_comes 3 = .ok (.imul, 1) := by decide +kernel
theorem dX1_comes_4 : decode cX1_comes 4 = .ok (.aload_n 0, 1) := by decide +kernel
theorem dX1_comes_5 : decode cX1_comes 5 = .ok (.getfield 17, 3) := by decide +kernel
theorem dX1_comes_8 : decode cX1_comes 8 = .ok (.iload_n 1, 1) := by decide +kernel
theorem dX1_comes_9 : decode cX1_comes 9 = .ok (.iaload, 1) := by decide +kernel
theorem dX1_comes_10 : decode cX1_comes 10 = .ok (.iadd, 1) := by decide +kernel
theorem dX1_comes_11 : decode cX1_comes 11 = .ok (.istore 5, 2) := by decide +kernel
theorem dX1_comes_13 : decode cX1_comes 13 = .ok (.aload_n 0, 1) := by decide +kernel
theorem dX1_comes_14 : decode cX1_comes 14 = .ok (.getfield 7, 3) := by decide +kernel
theorem dX1_comes_17 : decode cX1_comes 17 = .ok (.iload 5, 2) := by decide +kernel
theorem dX1_comes_19 : decode cX1_comes 19 = .ok (.dload_n 3, 1) := by decide +kernel
theorem dX1_comes_20 : decode cX1_comes 20 = .ok (.dastore, 1) := by decide +kernel
theorem dX1_comes_21 : decode cX1_comes 21 = .ok (.aload_n 0, 1) := by decide +kernel
theorem dX1_comes_22 : decode cX1_comes 22 = .ok (.getfield 13, 3) := by decide +kernel
theorem dX1_comes_25 : decode cX1_comes 25 = .ok (.iload 5, 2) := by decide +kernel
theorem dX1_comes_27 : decode cX1_comes 27 = .ok (.iload_n 2, 1) := by decide +kernel
theorem dX1_comes_28 : decode cX1_comes 28 = .ok (.bastore, 1) := by decide +kernel
theorem dX1_comes_29 : decode cX1_comes 29 = .ok (.aload_n 0, 1) := by decide +kernel
theorem dX1_comes_30 : decode cX1_comes 30 = .ok (.getfield 17, 3) := by decide +kernel
theorem dX1_comes_33 : decode cX1_comes 33 = .ok (.iload_n 1, 1) := by decide +kernel
theorem dX1_comes_34 : decode cX1_comes 34 = .ok (.dup2, 1) := by decide +kernel
theorem dX1_comes_35 : decode cX1_comes 35 = .ok (.iaload, 1) := by decide +kernel
theorem dX1_comes_36 : decode cX1_comes 36 = .ok (.iconst 1, 1) := by decide +kernel
theorem dX1_comes_37 : decode cX1_comes 37 = .ok (.iadd, 1) := by decide +kernel
theorem dX1_comes_38 : decode cX1_comes 38 = .ok (.iastore, 1) := by decide +kernel
theorem dX1_comes_39 : decode cX1_comes 39 = .ok (.aload_n 0, 1) := by decide +kernel
theorem dX1_comes_40 : decode cX1_comes 40 = .ok (.getfield 17, 3) := by decide +kernel
theorem dX1_comes_43 : decode cX1_comes 43 = .ok (.iload_n 1, 1) := by decide +kernel
theorem dX1_comes_44 : decode cX1_comes 44 = .ok (.iaload, 1) := by decide +kernel
theorem dX1_comes_45 : decode cX1_comes 45 = .ok (.ireturn, 1) := by decide +kernel
set_option maxRecDepth 20000 in
theorem ggX1_level_X1_outside : GoodIn wsX1_level wsX1_outside := goodIn_r _ [5] (by decide +kernel) (by decide +kernel)
set_option maxRecDepth 20000 in
theorem gX1_level_X1_outside : GoodIn wsX1_level (va_wsS RX1 62 yX1_outside wsX1_outside) := goodIn_app (goodIn_of _ (by decide +kernel)) ggX1_level_X1_outside
set_option maxRecDepth 20000 in
theorem ggX1_level_X1_isLevel : GoodIn wsX1_level wsX1_isLevel := goodIn_r _ [8, 9, 10] (by decide +kernel) (by decide +kernel)
set_option maxRecDepth 20000 in
theorem gX1_level_X1_isLevel : GoodIn wsX1_level (va_wsS RX1 66 yX1_isLevel wsX1_isLevel) := goodIn_app (goodIn_of _ (by decide +kernel)) ggX1_level_X1_isLevel
set_option maxRecDepth 20000 in
theorem ggX1_level_X1_throwing : GoodIn wsX1_level wsX1_throwing := goodIn_r _ [14, 15, 22, 23, 24, 25, 26, 27, 28, 29, 30, 31] (by decide +kernel) (by decide +kernel)
set_option maxRecDepth 20000 in
theorem gX1_level_X1_throwing : GoodIn wsX1_level (wsV RX1 70 RX1 yX1_throwing wsX1_throwing) := goodIn_app (goodIn_of _ (by decide +kernel)) ggX1_level_X1_throwing
set_option maxRecDepth 20000 in
theorem ggX1_level_X1_comes : GoodIn wsX1_level wsX1_comes := goodIn_r _ [19, 1, 20, 21, 22, 23, 24, 25, 26, 27, 28, 29, 30, 31] (by decide +kernel) (by decide +kernel)
set_option maxRecDepth 20000 in
theorem gX1_level_X1_comes : GoodIn wsX1_level (wsV RX1 74 RX1 yX1_comes wsX1_comes) := goodIn_app (goodIn_of _ (by decide +kernel)) ggX1_level_X1_comes
theorem dX1_level_0 : decode cX1_level 0 = .ok (.iload_n 1, 1) := by decide +kernel
theorem dX1_level_1 : decode cX1_level 1 = .ok (.iconst 5, 1) := by decide +kernel
theorem dX1_level_2 : decode cX1_level 2 = .ok (.invokestatic 62, 3) := by decide +kernel
theorem dX1_level_5 : decode cX1_level 5 = .ok (.ifCond .ne 10, 3) := by decide +kernel
theorem dX1_level_8 : decode cX1_level 8 = .ok (.dload_n 2, 1) := by decide +kernel
theorem dX1_level_9 : decode cX1_level 9 = .ok (.invokestatic 66, 3) := by decide +kernel
theorem dX1_level_12 : decode cX1_level 12 = .ok (.ifCond .ne 7, 3) := by decide +kernel
theorem dX1_level_15 : decode cX1_level 15 = .ok (.iconst 1, 1) := by decide +kernel
theorem dX1_level_16 : decode cX1_level 16 = .ok (.goto 4, 3) := by decide +kernel
theorem dX1_level_19 : decode cX1_level 19 = .ok (.iconst 0, 1) := by decide +kernel
theorem dX1_level_20 : decode cX1_level 20 = .ok (.istore 4, 2) := by decide +kernel
theorem dX1_level_22 : decode cX1_level 22 = .ok (.aload_n 0, 1) := by decide +kernel
theorem dX1_level_23 : decode cX1_level 23 = .ok (.iload 4, 2) := by decide +kernel
theorem dX1_level_25 : decode cX1_level 25 = .ok (.iload 4, 2) := by decide +kernel
theorem dX1_level_27 : decode cX1_level 27 = .ok (.ifCond .ne 20, 3) := by decide +kernel
theorem dX1_level_30 : decode cX1_level 30 = .ok (.aload_n 0, 1) := by decide +kernel
theorem dX1_level_31 : decode cX1_level 31 = .ok (.getfield 17, 3) := by decide +kernel
theorem dX1_level_34 : decode cX1_level 34 = .ok (.iconst 2, 1) := by decide +kernel
theorem dX1_level_35 : decode cX1_level 35 = .ok (.iload_n 1, 1) := by decide +kernel
theorem dX1_level_36 : decode cX1_level 36 = .ok (.imul, 1) := by decide +kernel
theorem dX1_level_37 : decode cX1_level 37 = .ok (.iaload, 1) := by decide +kernel
theorem dX1_level_38 : decode cX1_level 38 = .ok (.bipush 12, 2) := by decide +kernel
theorem dX1_level_40 : decode cX1_level 40 = .ok (.if_icmp .ne 7, 3) := by decide +kernel
theorem dX1_level_43 : decode cX1_level 43 = .ok (.iconst 1, 1) := by decide +kernel
theorem dX1_level_44 : decode cX1_level 44 = .ok (.goto 4, 3) := by decide +kernel
theorem dX1_level_47 : decode cX1_level 47 = .ok (.iconst 0, 1) := by decide +kernel
theorem dX1_level_48 : decode cX1_level 48 = .ok (.iconst 0, 1) := by decide +kernel
theorem dX1_level_49 : decode cX1_level 49 = .ok (.invokevirtual 70, 3) := by decide +kernel
theorem dX1_level_52 : decode cX1_level 52 = .ok (.ifCond .eq 5, 3) := by decide +kernel
theorem dX1_level_55 : decode cX1_level 55 = .ok (.iconst 0, 1) := by decide +kernel
theorem dX1_level_56 : decode cX1_level 56 = .ok (.ireturn, 1) := by decide +kernel
theorem dX1_level_57 : decode cX1_level 57 = .ok (.aload_n 0, 1) := by decide +kernel
theorem dX1_level_58 : decode cX1_level 58 = .ok (.iconst 2, 1) := by decide +kernel
theorem dX1_level_59 : decode cX1_level 59 = .ok (.iload_n 1, 1) := by decide +kernel
theorem dX1_level_60 : decode cX1_level 60 = .ok (.imul, 1) := by decide +kernel
theorem dX1_level_61 : decode cX1_level 61 = .ok (.iconst 0, 1) := by decide +kernel
theorem dX1_level_62 : decode cX1_level 62 = .ok (.dload_n 2, 1) := by decide +kernel
theorem dX1_level_63 : decode cX1_level 63 = .ok (.invokevirtual 74, 3) := by decide +kernel
theorem dX1_level_66 : decode cX1_level 66 = .ok (.ireturn, 1) := by decide +kernel
set_option maxRecDepth 20000 in
theorem ggX1_wind_X1_outside : GoodIn wsX1_wind wsX1_outside := goodIn_r _ [5] (by decide +kernel) (by decide +kernel)
set_option maxRecDepth 20000 in
theorem gX1_wind_X1_outside : GoodIn wsX1_wind (va_wsS RX1 62 yX1_outside wsX1_outside) := goodIn_app (goodIn_of _ (by decide +kernel)) ggX1_wind_X1_outside
set_option maxRecDepth 20000 in
theorem ggX1_wind_X1_isWind : GoodIn wsX1_wind wsX1_isWind := goodIn_r _ [8, 9] (by decide +kernel) (by decide +kernel)
set_option maxRecDepth 20000 in
theorem gX1_wind_X1_isWind : GoodIn wsX1_wind (va_wsS RX1 78 yX1_isWind wsX1_isWind) := goodIn_app (goodIn_of _ (by decide +kernel)) ggX1_wind_X1_isWind
set_option maxRecDepth 20000 in
theorem ggX1_wind_X1_throwing : GoodIn wsX1_wind wsX1_throwing := goodIn_r _ [13, 14, 21, 22, 23, 24, 25, 26, 27, 28, 29, 30] (by decide +kernel) (by decide +kernel)
set_option maxRecDepth 20000 in
theorem gX1_wind_X1_throwing : GoodIn wsX1_wind (wsV RX1 70 RX1 yX1_throwing wsX1_throwing) := goodIn_app (goodIn_of _ (by decide +kernel)) ggX1_wind_X1_throwing
set_option maxRecDepth 20000 in
theorem ggX1_wind_X1_comes : GoodIn wsX1_wind wsX1_comes := goodIn_r _ [18, 1, 19, 20, 21, 22, 23, 24, 25, 26, 27, 28, 29, 30] (by decide +kernel) (by decide +kernel)
set_option maxRecDepth 20000 in
theorem gX1_wind_X1_comes : GoodIn wsX1_wind (wsV RX1 74 RX1 yX1_comes wsX1_comes) := goodIn_app (goodIn_of _ (by decide +kernel)) ggX1_wind_X1_comes
theorem dX1_wind_0 : decode cX1_wind 0 = .ok (.iload_n 1, 1) := by decide +kernel
theorem dX1_wind_1 : decode cX1_wind 1 = .ok (.iconst 5, 1) := by decide +kernel
theorem dX1_wind_2 : decode cX1_wind 2 = .ok (.invokestatic 62, 3) := by decide +kernel
theorem dX1_wind_5 : decode cX1_wind 5 = .ok (.ifCond .ne 11, 3) := by decide +kernel
theorem dX1_wind_8 : decode cX1_wind 8 = .ok (.fload_n 2, 1) := by decide +kernel
theorem dX1_wind_9 : decode cX1_wind 9 = .ok (.f2d, 1) := by decide +kernel
theorem dX1_wind_10 : decode cX1_wind 10 = .ok (.invokestatic 78, 3) := by decide +kernel
theorem dX1_wind_13 : decode cX1_wind 13 = .ok (.ifCond .ne 7, 3) := by decide +kernel
theorem dX1_wind_16 : decode cX1_wind 16 = .ok (.iconst 1, 1) := by decide +kernel
theorem dX1_wind_17 : decode cX1_wind 17 = .ok (.goto 4, 3) := by decide +kernel
theorem dX1_wind_20 : decode cX1_wind 20 = .ok (.iconst 0, 1) := by decide +kernel
theorem dX1_wind_21 : decode cX1_wind 21 = .ok (.istore_n 3, 1) := by decide +kernel
theorem dX1_wind_22 : decode cX1_wind 22 = .ok (.aload_n 0, 1) := by decide +kernel
theorem dX1_wind_23 : decode cX1_wind 23 = .ok (.iload_n 3, 1) := by decide +kernel
theorem dX1_wind_24 : decode cX1_wind 24 = .ok (.iload_n 3, 1) := by decide +kernel
theorem dX1_wind_25 : decode cX1_wind 25 = .ok (.ifCond .ne 22, 3) := by decide +kernel
theorem dX1_wind_28 : decode cX1_wind 28 = .ok (.aload_n 0, 1) := by decide +kernel
theorem dX1_wind_29 : decode cX1_wind 29 = .ok (.getfield 17, 3) := by decide +kernel
theorem dX1_wind_32 : decode cX1_wind 32 = .ok (.iconst 2, 1) := by decide +kernel
theorem dX1_wind_33 : decode cX1_wind 33 = .ok (.iload_n 1, 1) := by decide +kernel
theorem dX1_wind_34 : decode cX1_wind 34 = .ok (.imul, 1) := by decide +kernel
theorem dX1_wind_35 : decode cX1_wind 35 = .ok (.iconst 1, 1) := by decide +kernel
theorem dX1_wind_36 : decode cX1_wind 36 = .ok (.iadd, 1) := by decide +kernel
theorem dX1_wind_37 : decode cX1_wind 37 = .ok (.iaload, 1) := by decide +kernel
theorem dX1_wind_38 : decode cX1_wind 38 = .ok (.bipush 12, 2) := by decide +kernel
theorem dX1_wind_40 : decode cX1_wind 40 = .ok (.if_icmp .ne 7, 3) := by decide +kernel
theorem dX1_wind_43 : decode cX1_wind 43 = .ok (.iconst 1, 1) := by decide +kernel
theorem dX1_wind_44 : decode cX1_wind 44 = .ok (.goto 4, 3) := by decide +kernel
theorem dX1_wind_47 : decode cX1_wind 47 = .ok (.iconst 0, 1) := by decide +kernel
theorem dX1_wind_48 : decode cX1_wind 48 = .ok (.iconst 0, 1) := by decide +kernel
theorem dX1_wind_49 : decode cX1_wind 49 = .ok (.invokevirtual 70, 3) := by decide +kernel
theorem dX1_wind_52 : decode cX1_wind 52 = .ok (.ifCond .eq 5, 3) := by decide +kernel
theorem dX1_wind_55 : decode cX1_wind 55 = .ok (.iconst 0, 1) := by decide +kernel
theorem dX1_wind_56 : decode cX1_wind 56 = .ok (.ireturn, 1) := by decide +kernel
theorem dX1_wind_57 : decode cX1_wind 57 = .ok (.aload_n 0, 1) := by decide +kernel
theorem dX1_wind_58 : decode cX1_wind 58 = .ok (.iconst 2, 1) := by decide +kernel
theorem dX1_wind_59 : decode cX1_wind 59 = .ok (.iload_n 1, 1) := by decide +kernel
theorem dX1_wind_60 : decode cX1_wind 60 = .ok (.imul, 1) := by decide +kernel
theorem dX1_wind_61 : decode cX1_wind 61 = .ok (.iconst 1, 1) := by decide +kernel
theorem dX1_wind_62 : decode cX1_wind 62 = .ok (.iadd, 1) := by decide +kernel
theorem dX1_wind_63 : decode cX1_wind 63 = .ok (.iconst 0, 1) := by decide +kernel
theorem dX1_wind_64 : decode cX1_wind 64 = .ok (.fload_n 2, 1) := by decide +kernel
theorem dX1_wind_65 : decode cX1_wind 65 = .ok (.f2d, 1) := by decide +kernel
theorem dX1_wind_66 : decode cX1_wind 66 = .ok (.invokevirtual 74, 3) := by decide +kernel
theorem dX1_wind_69 : decode cX1_wind 69 = .ok (.ireturn, 1) := by decide +kernel
set_option maxRecDepth 20000 in
theorem ggX1_out_X1_outside : GoodIn wsX1_out wsX1_outside := goodIn_r _ [5] (by decide +kernel) (by decide +kernel)
set_option maxRecDepth 20000 in
theorem gX1_out_X1_outside : GoodIn wsX1_out (va_wsS RX1 62 yX1_outside wsX1_outside) := goodIn_app (goodIn_of _ (by decide +kernel)) ggX1_out_X1_outside
set_option maxRecDepth 20000 in
theorem ggX1_out_X1_throwing : GoodIn wsX1_out wsX1_throwing := goodIn_r _ [9, 10, 17, 18, 19, 20, 21, 22, 23, 24, 25, 26] (by decide +kernel) (by decide +kernel)
set_option maxRecDepth 20000 in
theorem gX1_out_X1_throwing : GoodIn wsX1_out (wsV RX1 70 RX1 yX1_throwing wsX1_throwing) := goodIn_app (goodIn_of _ (by decide +kernel)) ggX1_out_X1_throwing
set_option maxRecDepth 20000 in
theorem ggX1_out_X1_comes : GoodIn wsX1_out wsX1_comes := goodIn_r _ [14, 1, 15, 16, 17, 18, 19, 20, 21, 22, 23, 24, 25, 26] (by decide +kernel) (by decide +kernel)
set_option maxRecDepth 20000 in
theorem gX1_out_X1_comes : GoodIn wsX1_out (wsV RX1 74 RX1 yX1_comes wsX1_comes) := goodIn_app (goodIn_of _ (by decide +kernel)) ggX1_out_X1_comes
theorem dX1_out_0 : decode cX1_out 0 = .ok (.iload_n 1, 1) := by decide +kernel
theorem dX1_out_1 : decode cX1_out 1 = .ok (.iconst 5, 1) := by decide +kernel
theorem dX1_out_2 : decode cX1_out 2 = .ok (.invokestatic 62, 3) := by decide +kernel
theorem dX1_out_5 : decode cX1_out 5 = .ok (.ifCond .ne 11, 3) := by decide +kernel
theorem dX1_out_8 : decode cX1_out 8 = .ok (.iload_n 2, 1) := by decide +kernel
theorem dX1_out_9 : decode cX1_out 9 = .ok (.iconst 1, 1) := by decide +kernel
theorem dX1_out_10 : decode cX1_out 10 = .ok (.invokestatic 62, 3) := by decide +kernel
theorem dX1_out_13 : decode cX1_out 13 = .ok (.ifCond .eq 7, 3) := by decide +kernel
theorem dX1_out_16 : decode cX1_out 16 = .ok (.iconst 1, 1) := by decide +kernel
theorem dX1_out_17 : decode cX1_out 17 = .ok (.goto 4, 3) := by decide +kernel
theorem dX1_out_20 : decode cX1_out 20 = .ok (.iconst 0, 1) := by decide +kernel
theorem dX1_out_21 : decode cX1_out 21 = .ok (.istore_n 3, 1) := by decide +kernel
theorem dX1_out_22 : decode cX1_out 22 = .ok (.aload_n 0, 1) := by decide +kernel
theorem dX1_out_23 : decode cX1_out 23 = .ok (.iload_n 3, 1) := by decide +kernel
theorem dX1_out_24 : decode cX1_out 24 = .ok (.iload_n 3, 1) := by decide +kernel
theorem dX1_out_25 : decode cX1_out 25 = .ok (.ifCond .ne 22, 3) := by decide +kernel
theorem dX1_out_28 : decode cX1_out 28 = .ok (.aload_n 0, 1) := by decide +kernel
theorem dX1_out_29 : decode cX1_out 29 = .ok (.getfield 17, 3) := by decide +kernel
theorem dX1_out_32 : decode cX1_out 32 = .ok (.iconst 2, 1) := by decide +kernel
theorem dX1_out_33 : decode cX1_out 33 = .ok (.iload_n 1, 1) := by decide +kernel
theorem dX1_out_34 : decode cX1_out 34 = .ok (.imul, 1) := by decide +kernel
theorem dX1_out_35 : decode cX1_out 35 = .ok (.iload_n 2, 1) := by decide +kernel
theorem dX1_out_36 : decode cX1_out 36 = .ok (.iadd, 1) := by decide +kernel
theorem dX1_out_37 : decode cX1_out 37 = .ok (.iaload, 1) := by decide +kernel
theorem dX1_out_38 : decode cX1_out 38 = .ok (.bipush 12, 2) := by decide +kernel
theorem dX1_out_40 : decode cX1_out 40 = .ok (.if_icmp .ne 7, 3) := by decide +kernel
theorem dX1_out_43 : decode cX1_out 43 = .ok (.iconst 1, 1) := by decide +kernel
theorem dX1_out_44 : decode cX1_out 44 = .ok (.goto 4, 3) := by decide +kernel
theorem dX1_out_47 : decode cX1_out 47 = .ok (.iconst 0, 1) := by decide +kernel
theorem dX1_out_48 : decode cX1_out 48 = .ok (.iconst 0, 1) := by decide +kernel
theorem dX1_out_49 : decode cX1_out 49 = .ok (.invokevirtual 70, 3) := by decide +kernel
theorem dX1_out_52 : decode cX1_out 52 = .ok (.ifCond .eq 5, 3) := by decide +kernel
theorem dX1_out_55 : decode cX1_out 55 = .ok (.iconst 0, 1) := by decide +kernel
theorem dX1_out_56 : decode cX1_out 56 = .ok (.ireturn, 1) := by decide +kernel
theorem dX1_out_57 : decode cX1_out 57 = .ok (.aload_n 0, 1) := by decide +kernel
theorem dX1_out_58 : decode cX1_out 58 = .ok (.iconst 2, 1) := by decide +kernel
theorem dX1_out_59 : decode cX1_out 59 = .ok (.iload_n 1, 1) := by decide +kernel
theorem dX1_out_60 : decode cX1_out 60 = .ok (.imul, 1) := by decide +kernel
theorem dX1_out_61 : decode cX1_out 61 = .ok (.iload_n 2, 1) := by decide +kernel
theorem dX1_out_62 : decode cX1_out 62 = .ok (.iadd, 1) := by decide +kernel
theorem dX1_out_63 : decode cX1_out 63 = .ok (.iconst 1, 1) := by decide +kernel
theorem dX1_out_64 : decode cX1_out 64 = .ok (.dconst 0, 1) := by decide +kernel
theorem dX1_out_65 : decode cX1_out 65 = .ok (.invokevirtual 74, 3) := by decide +kernel
theorem dX1_out_68 : decode cX1_out 68 = .ok (.ireturn, 1) := by decide +kernel
set_option maxRecDepth 20000 in
theorem ggX1_clear_X1_outside : GoodIn wsX1_clear wsX1_outside := goodIn_r _ [5] (by decide +kernel) (by decide +kernel)
set_option maxRecDepth 20000 in
theorem gX1_clear_X1_outside : GoodIn wsX1_clear (va_wsS RX1 62 yX1_outside wsX1_outside) := goodIn_app (goodIn_of _ (by decide +kernel)) ggX1_clear_X1_outside
set_option maxRecDepth 20000 in
theorem ggX1_clear_X1_throwing : GoodIn wsX1_clear wsX1_throwing := goodIn_r _ [9, 10, 11, 12, 13, 14, 15, 16, 17, 18, 19, 20] (by decide +kernel) (by decide +kernel)
set_option maxRecDepth 20000 in
theorem gX1_clear_X1_throwing : GoodIn wsX1_clear (wsV RX1 70 RX1 yX1_throwing wsX1_throwing) := goodIn_app (goodIn_of _ (by decide +kernel)) ggX1_clear_X1_throwing
theorem dX1_clear_0 : decode cX1_clear 0 = .ok (.aload_n 0, 1) := by decide +kernel
theorem dX1_clear_1 : decode cX1_clear 1 = .ok (.iload_n 1, 1) := by decide +kernel
theorem dX1_clear_2 : decode cX1_clear 2 = .ok (.iconst 5, 1) := by decide +kernel
theorem dX1_clear_3 : decode cX1_clear 3 = .ok (.invokestatic 62, 3) := by decide +kernel
theorem dX1_clear_6 : decode cX1_clear 6 = .ok (.iconst 0, 1) := by decide +kernel
theorem dX1_clear_7 : decode cX1_clear 7 = .ok (.iconst 0, 1) := by decide +kernel
theorem dX1_clear_8 : decode cX1_clear 8 = .ok (.invokevirtual 70, 3) := by decide +kernel
theorem dX1_clear_11 : decode cX1_clear 11 = .ok (.ifCond .eq 5, 3) := by decide +kernel
theorem dX1_clear_14 : decode cX1_clear 14 = .ok (.iconst 0, 1) := by decide +kernel
theorem dX1_clear_15 : decode cX1_clear 15 = .ok (.ireturn, 1) := by decide +kernel
theorem dX1_clear_16 : decode cX1_clear 16 = .ok (.aload_n 0, 1) := by decide +kernel
theorem dX1_clear_17 : decode cX1_clear 17 = .ok (.getfield 17, 3) := by decide +kernel
theorem dX1_clear_20 : decode cX1_clear 20 = .ok (.iconst 2, 1) := by decide +kernel
theorem dX1_clear_21 : decode cX1_clear 21 = .ok (.iload_n 1, 1) := by decide +kernel
theorem dX1_clear_22 : decode cX1_clear 22 = .ok (.imul, 1) := by decide +kernel
theorem dX1_clear_23 : decode cX1_clear 23 = .ok (.iaload, 1) := by decide +kernel
theorem dX1_clear_24 : decode cX1_clear 24 = .ok (.aload_n 0, 1) := by decide +kernel
theorem dX1_clear_25 : decode cX1_clear 25 = .ok (.getfield 17, 3) := by decide +kernel
theorem dX1_clear_28 : decode cX1_clear 28 = .ok (.iconst 2, 1) := by decide +kernel
theorem dX1_clear_29 : decode cX1_clear 29 = .ok (.iload_n 1, 1) := by decide +kernel
theorem dX1_clear_30 : decode cX1_clear 30 = .ok (.imul, 1) := by decide +kernel
theorem dX1_clear_31 : decode cX1_clear 31 = .ok (.iconst 1, 1) := by decide +kernel
theorem dX1_clear_32 : decode cX1_clear 32 = .ok (.iadd, 1) := by decide +kernel
theorem dX1_clear_33 : decode cX1_clear 33 = .ok (.iaload, 1) := by decide +kernel
theorem dX1_clear_34 : decode cX1_clear 34 = .ok (.iadd, 1) := by decide +kernel
theorem dX1_clear_35 : decode cX1_clear 35 = .ok (.istore_n 2, 1) := by decide +kernel
theorem dX1_clear_36 : decode cX1_clear 36 = .ok (.aload_n 0, 1) := by decide +kernel
theorem dX1_clear_37 : decode cX1_clear 37 = .ok (.getfield 17, 3) := by decide +kernel
theorem dX1_clear_40 : decode cX1_clear 40 = .ok (.iconst 2, 1) := by decide +kernel
theorem dX1_clear_41 : decode cX1_clear 41 = .ok (.iload_n 1, 1) := by decide +kernel
theorem dX1_clear_42 : decode cX1_clear 42 = .ok (.imul, 1) := by decide +kernel
theorem dX1_clear_43 : decode cX1_clear 43 = .ok (.iconst 0, 1) := by decide +kernel
theorem dX1_clear_44 : decode cX1_clear 44 = .ok (.iastore, 1) := by decide +kernel
theorem dX1_clear_45 : decode cX1_clear 45 = .ok (.aload_n 0, 1) := by decide +kernel
theorem dX1_clear_46 : decode cX1_clear 46 = .ok (.getfield 17, 3) := by decide +kernel
theorem dX1_clear_49 : decode cX1_clear 49 = .ok (.iconst 2, 1) := by decide +kernel
theorem dX1_clear_50 : decode cX1_clear 50 = .ok (.iload_n 1, 1) := by decide +kernel
theorem dX1_clear_51 : decode cX1_clear 51 = .ok (.imul, 1) := by decide +kernel
theorem dX1_clear_52 : decode cX1_clear 52 = .ok (.iconst 1, 1) := by decide +kernel
theorem dX1_clear_53 : decode cX1_clear 53 = .ok (.iadd, 1) := by decide +kernel
theorem dX1_clear_54 : decode cX1_clear 54 = .ok (.iconst 0, 1) := by decide +kernel
theorem dX1_clear_55 : decode cX1_clear 55 = .ok (.iastore, 1) := by decide +kernel
theorem dX1_clear_56 : decode cX1_clear 56 = .ok (.iload_n 2, 1) := by decide +kernel
theorem dX1_clear_57 : decode cX1_clear 57 = .ok (.ireturn, 1) := by decide +kernel
theorem dX1_marks_0 : decode cX1_marks 0 = .ok (.aload_n 0, 1) := by decide +kernel
theorem dX1_marks_1 : decode cX1_marks 1 = .ok (.getfield 24, 3) := by decide +kernel
theorem dX1_marks_4 : decode cX1_marks 4 = .ok (.iload_n 1, 1) := by decide +kernel
theorem dX1_marks_5 : decode cX1_marks 5 = .ok (.baload, 1) := by decide +kernel
theorem dX1_marks_6 : decode cX1_marks 6 = .ok (.istore 5, 2) := by decide +kernel
theorem dX1_marks_8 : decode cX1_marks 8 = .ok (.aload_n 0, 1) := by decide +kernel
theorem dX1_marks_9 : decode cX1_marks 9 = .ok (.getfield 24, 3) := by decide +kernel
theorem dX1_marks_12 : decode cX1_marks 12 = .ok (.iload_n 1, 1) := by decide +kernel
theorem dX1_marks_13 : decode cX1_marks 13 = .ok (.iload_n 2, 1) := by decide +kernel
theorem dX1_marks_14 : decode cX1_marks 14 = .ok (.bastore, 1) := by decide +kernel
theorem dX1_marks_15 : decode cX1_marks 15 = .ok (.aload_n 0, 1) := by decide +kernel
theorem dX1_marks_16 : decode cX1_marks 16 = .ok (.getfield 21, 3) := by decide +kernel
theorem dX1_marks_19 : decode cX1_marks 19 = .ok (.iload_n 1, 1) := by decide +kernel
theorem dX1_marks_20 : decode cX1_marks 20 = .ok (.dload_n 3, 1) := by decide +kernel
theorem dX1_marks_21 : decode cX1_marks 21 = .ok (.dastore, 1) := by decide +kernel
theorem dX1_marks_22 : decode cX1_marks 22 = .ok (.iload 5, 2) := by decide +kernel
theorem dX1_marks_24 : decode cX1_marks 24 = .ok (.ireturn, 1) := by decide +kernel
set_option maxRecDepth 20000 in
theorem ggX1_mark_X1_outside : GoodIn wsX1_mark wsX1_outside := goodIn_r _ [4] (by decide +kernel) (by decide +kernel)
set_option maxRecDepth 20000 in
theorem gX1_mark_X1_outside : GoodIn wsX1_mark (va_wsS RX1 62 yX1_outside wsX1_outside) := goodIn_app (goodIn_of _ (by decide +kernel)) ggX1_mark_X1_outside
set_option maxRecDepth 20000 in
theorem ggX1_mark_X1_isLevel : GoodIn wsX1_mark wsX1_isLevel := goodIn_r _ [7, 8, 9] (by decide +kernel) (by decide +kernel)
set_option maxRecDepth 20000 in
theorem gX1_mark_X1_isLevel : GoodIn wsX1_mark (va_wsS RX1 66 yX1_isLevel wsX1_isLevel) := goodIn_app (goodIn_of _ (by decide +kernel)) ggX1_mark_X1_isLevel
set_option maxRecDepth 20000 in
theorem ggX1_mark_X1_throwing : GoodIn wsX1_mark wsX1_throwing := goodIn_r _ [13, 14, 21, 22, 23, 24, 25, 26, 27, 28, 29, 30] (by decide +kernel) (by decide +kernel)
set_option maxRecDepth 20000 in
theorem gX1_mark_X1_throwing : GoodIn wsX1_mark (wsV RX1 70 RX1 yX1_throwing wsX1_throwing) := goodIn_app (goodIn_of _ (by decide +kernel)) ggX1_mark_X1_throwing
set_option maxRecDepth 20000 in
theorem ggX1_mark_X1_marks : GoodIn wsX1_mark wsX1_marks := goodIn_r _ [18, 19, 20, 21, 22, 23, 24, 25, 26, 27, 28, 29, 30] (by decide +kernel) (by decide +kernel)
set_option maxRecDepth 20000 in
theorem gX1_mark_X1_marks : GoodIn wsX1_mark (wsV RX1 81 RX1 yX1_marks wsX1_marks) := goodIn_app (goodIn_of _ (by decide +kernel)) ggX1_mark_X1_marks
theorem dX1_mark_0 : decode cX1_mark 0 = .ok (.aload_n 0, 1) := by decide +kernel
theorem dX1_mark_1 : decode cX1_mark 1 = .ok (.iload_n 1, 1) := by decide +kernel
theorem dX1_mark_2 : decode cX1_mark 2 = .ok (.iconst 5, 1) := by decide +kernel
theorem dX1_mark_3 : decode cX1_mark 3 = .ok (.invokestatic 62, 3) := by decide +kernel
theorem dX1_mark_6 : decode cX1_mark 6 = .ok (.ifCond .ne 18, 3) := by decide +kernel
theorem dX1_mark_9 : decode cX1_mark 9 = .ok (.iload_n 2, 1) := by decide +kernel
theorem dX1_mark_10 : decode cX1_mark 10 = .ok (.iconst 1, 1) := by decide +kernel
theorem dX1_mark_11 : decode cX1_mark 11 = .ok (.invokestatic 62, 3) := by decide +kernel
theorem dX1_mark_14 : decode cX1_mark 14 = .ok (.ifCond .ne 10, 3) := by decide +kernel
theorem dX1_mark_17 : decode cX1_mark 17 = .ok (.dload_n 3, 1) := by decide +kernel
theorem dX1_mark_18 : decode cX1_mark 18 = .ok (.invokestatic 66, 3) := by decide +kernel
theorem dX1_mark_21 : decode cX1_mark 21 = .ok (.ifCond .ne 7, 3) := by decide +kernel
theorem dX1_mark_24 : decode cX1_mark 24 = .ok (.iconst 1, 1) := by decide +kernel
theorem dX1_mark_25 : decode cX1_mark 25 = .ok (.goto 4, 3) := by decide +kernel
theorem dX1_mark_28 : decode cX1_mark 28 = .ok (.iconst 0, 1) := by decide +kernel
theorem dX1_mark_29 : decode cX1_mark 29 = .ok (.iconst 0, 1) := by decide +kernel
theorem dX1_mark_30 : decode cX1_mark 30 = .ok (.iconst 0, 1) := by decide +kernel
theorem dX1_mark_31 : decode cX1_mark 31 = .ok (.invokevirtual 70, 3) := by decide +kernel
theorem dX1_mark_34 : decode cX1_mark 34 = .ok (.ifCond .eq 5, 3) := by decide +kernel
theorem dX1_mark_37 : decode cX1_mark 37 = .ok (.iconst 0, 1) := by decide +kernel
theorem dX1_mark_38 : decode cX1_mark 38 = .ok (.ireturn, 1) := by decide +kernel
theorem dX1_mark_39 : decode cX1_mark 39 = .ok (.aload_n 0, 1) := by decide +kernel
theorem dX1_mark_40 : decode cX1_mark 40 = .ok (.iconst 3, 1) := by decide +kernel
theorem dX1_mark_41 : decode cX1_mark 41 = .ok (.iload_n 1, 1) := by decide +kernel
theorem dX1_mark_42 : decode cX1_mark 42 = .ok (.imul, 1) := by decide +kernel
theorem dX1_mark_43 : decode cX1_mark 43 = .ok (.iload_n 2, 1) := by decide +kernel
theorem dX1_mark_44 : decode cX1_mark 44 = .ok (.iadd, 1) := by decide +kernel
theorem dX1_mark_45 : decode cX1_mark 45 = .ok (.iconst 1, 1) := by decide +kernel
theorem dX1_mark_46 : decode cX1_mark 46 = .ok (.dload_n 3, 1) := by decide +kernel
theorem dX1_mark_47 : decode cX1_mark 47 = .ok (.invokevirtual 81, 3) := by decide +kernel
theorem dX1_mark_50 : decode cX1_mark 50 = .ok (.ireturn, 1) := by decide +kernel
set_option maxRecDepth 20000 in
theorem ggX1_gale_X1_outside : GoodIn wsX1_gale wsX1_outside := goodIn_r _ [4] (by decide +kernel) (by decide +kernel)
set_option maxRecDepth 20000 in
theorem gX1_gale_X1_outside : GoodIn wsX1_gale (va_wsS RX1 62 yX1_outside wsX1_outside) := goodIn_app (goodIn_of _ (by decide +kernel)) ggX1_gale_X1_outside
set_option maxRecDepth 20000 in
theorem ggX1_gale_X1_isWind : GoodIn wsX1_gale wsX1_isWind := goodIn_r _ [7, 8] (by decide +kernel) (by decide +kernel)
set_option maxRecDepth 20000 in
theorem gX1_gale_X1_isWind : GoodIn wsX1_gale (va_wsS RX1 78 yX1_isWind wsX1_isWind) := goodIn_app (goodIn_of _ (by decide +kernel)) ggX1_gale_X1_isWind
set_option maxRecDepth 20000 in
theorem ggX1_gale_X1_throwing : GoodIn wsX1_gale wsX1_throwing := goodIn_r _ [12, 13, 20, 21, 22, 23, 24, 25, 26, 27, 28, 29] (by decide +kernel) (by decide +kernel)
set_option maxRecDepth 20000 in
theorem gX1_gale_X1_throwing : GoodIn wsX1_gale (wsV RX1 70 RX1 yX1_throwing wsX1_throwing) := goodIn_app (goodIn_of _ (by decide +kernel)) ggX1_gale_X1_throwing
set_option maxRecDepth 20000 in
theorem ggX1_gale_X1_marks : GoodIn wsX1_gale wsX1_marks := goodIn_r _ [17, 18, 19, 20, 21, 22, 23, 24, 25, 26, 27, 28, 29] (by decide +kernel) (by decide +kernel)
set_option maxRecDepth 20000 in
theorem gX1_gale_X1_marks : GoodIn wsX1_gale (wsV RX1 81 RX1 yX1_marks wsX1_marks) := goodIn_app (goodIn_of _ (by decide +kernel)) ggX1_gale_X1_marks
theorem dX1_gale_0 : decode cX1_gale 0 = .ok (.aload_n 0, 1) := by decide +kernel
theorem dX1_gale_1 : decode cX1_gale 1 = .ok (.iload_n 1, 1) := by decide +kernel
theorem dX1_gale_2 : decode cX1_gale 2 = .ok (.iconst 5, 1) := by decide +kernel
theorem dX1_gale_3 : decode cX1_gale 3 = .ok (.invokestatic 62, 3) := by decide +kernel
theorem dX1_gale_6 : decode cX1_gale 6 = .ok (.ifCond .ne 11, 3) := by decide +kernel
theorem dX1_gale_9 : decode cX1_gale 9 = .ok (.fload_n 2, 1) := by decide +kernel
theorem dX1_gale_10 : decode cX1_gale 10 = .ok (.f2d, 1) := by decide +kernel
theorem dX1_gale_11 : decode cX1_gale 11 = .ok (.invokestatic 78, 3) := by decide +kernel
theorem dX1_gale_14 : decode cX1_gale 14 = .ok (.ifCond .ne 7, 3) := by decide +kernel
theorem dX1_gale_17 : decode cX1_gale 17 = .ok (.iconst 1, 1) := by decide +kernel
theorem dX1_gale_18 : decode cX1_gale 18 = .ok (.goto 4, 3) := by decide +kernel
theorem dX1_gale_21 : decode cX1_gale 21 = .ok (.iconst 0, 1) := by decide +kernel
theorem dX1_gale_22 : decode cX1_gale 22 = .ok (.iconst 0, 1) := by decide +kernel
theorem dX1_gale_23 : decode cX1_gale 23 = .ok (.iconst 0, 1) := by decide +kernel
theorem dX1_gale_24 : decode cX1_gale 24 = .ok (.invokevirtual 70, 3) := by decide +kernel
theorem dX1_gale_27 : decode cX1_gale 27 = .ok (.ifCond .eq 5, 3) := by decide +kernel
theorem dX1_gale_30 : decode cX1_gale 30 = .ok (.iconst 0, 1) := by decide +kernel
theorem dX1_gale_31 : decode cX1_gale 31 = .ok (.ireturn, 1) := by decide +kernel
theorem dX1_gale_32 : decode cX1_gale 32 = .ok (.aload_n 0, 1) := by decide +kernel
theorem dX1_gale_33 : decode cX1_gale 33 = .ok (.iconst 3, 1) := by decide +kernel
theorem dX1_gale_34 : decode cX1_gale 34 = .ok (.iload_n 1, 1) := by decide +kernel
theorem dX1_gale_35 : decode cX1_gale 35 = .ok (.imul, 1) := by decide +kernel
theorem dX1_gale_36 : decode cX1_gale 36 = .ok (.iconst 2, 1) := by decide +kernel
theorem dX1_gale_37 : decode cX1_gale 37 = .ok (.iadd, 1) := by decide +kernel
theorem dX1_gale_38 : decode cX1_gale 38 = .ok (.iconst 1, 1) := by decide +kernel
theorem dX1_gale_39 : decode cX1_gale 39 = .ok (.fload_n 2, 1) := by decide +kernel
theorem dX1_gale_40 : decode cX1_gale 40 = .ok (.f2d, 1) := by decide +kernel
theorem dX1_gale_41 : decode cX1_gale 41 = .ok (.invokevirtual 81, 3) := by decide +kernel
theorem dX1_gale_44 : decode cX1_gale 44 = .ok (.ireturn, 1) := by decide +kernel
set_option maxRecDepth 20000 in
theorem ggX1_lift_X1_outside : GoodIn wsX1_lift wsX1_outside := goodIn_r _ [4] (by decide +kernel) (by decide +kernel)
set_option maxRecDepth 20000 in
theorem gX1_lift_X1_outside : GoodIn wsX1_lift (va_wsS RX1 62 yX1_outside wsX1_outside) := goodIn_app (goodIn_of _ (by decide +kernel)) ggX1_lift_X1_outside
set_option maxRecDepth 20000 in
theorem ggX1_lift_X1_throwing : GoodIn wsX1_lift wsX1_throwing := goodIn_r _ [8, 9, 16, 17, 18, 19, 20, 21, 22, 23, 24, 25] (by decide +kernel) (by decide +kernel)
set_option maxRecDepth 20000 in
theorem gX1_lift_X1_throwing : GoodIn wsX1_lift (wsV RX1 70 RX1 yX1_throwing wsX1_throwing) := goodIn_app (goodIn_of _ (by decide +kernel)) ggX1_lift_X1_throwing
set_option maxRecDepth 20000 in
theorem ggX1_lift_X1_marks : GoodIn wsX1_lift wsX1_marks := goodIn_r _ [13, 14, 15, 16, 17, 18, 19, 20, 21, 22, 23, 24, 25] (by decide +kernel) (by decide +kernel)
set_option maxRecDepth 20000 in
theorem gX1_lift_X1_marks : GoodIn wsX1_lift (wsV RX1 81 RX1 yX1_marks wsX1_marks) := goodIn_app (goodIn_of _ (by decide +kernel)) ggX1_lift_X1_marks
theorem dX1_lift_0 : decode cX1_lift 0 = .ok (.aload_n 0, 1) := by decide +kernel
theorem dX1_lift_1 : decode cX1_lift 1 = .ok (.iload_n 1, 1) := by decide +kernel
theorem dX1_lift_2 : decode cX1_lift 2 = .ok (.iconst 5, 1) := by decide +kernel
theorem dX1_lift_3 : decode cX1_lift 3 = .ok (.invokestatic 62, 3) := by decide +kernel
theorem dX1_lift_6 : decode cX1_lift 6 = .ok (.ifCond .ne 11, 3) := by decide +kernel
theorem dX1_lift_9 : decode cX1_lift 9 = .ok (.iload_n 2, 1) := by decide +kernel
theorem dX1_lift_10 : decode cX1_lift 10 = .ok (.iconst 2, 1) := by decide +kernel
theorem dX1_lift_11 : decode cX1_lift 11 = .ok (.invokestatic 62, 3) := by decide +kernel
theorem dX1_lift_14 : decode cX1_lift 14 = .ok (.ifCond .eq 7, 3) := by decide +kernel
theorem dX1_lift_17 : decode cX1_lift 17 = .ok (.iconst 1, 1) := by decide +kernel
theorem dX1_lift_18 : decode cX1_lift 18 = .ok (.goto 4, 3) := by decide +kernel
theorem dX1_lift_21 : decode cX1_lift 21 = .ok (.iconst 0, 1) := by decide +kernel
theorem dX1_lift_22 : decode cX1_lift 22 = .ok (.iconst 0, 1) := by decide +kernel
theorem dX1_lift_23 : decode cX1_lift 23 = .ok (.iconst 0, 1) := by decide +kernel
theorem dX1_lift_24 : decode cX1_lift 24 = .ok (.invokevirtual 70, 3) := by decide +kernel
theorem dX1_lift_27 : decode cX1_lift 27 = .ok (.ifCond .eq 5, 3) := by decide +kernel
theorem dX1_lift_30 : decode cX1_lift 30 = .ok (.iconst 0, 1) := by decide +kernel
theorem dX1_lift_31 : decode cX1_lift 31 = .ok (.ireturn, 1) := by decide +kernel
theorem dX1_lift_32 : decode cX1_lift 32 = .ok (.aload_n 0, 1) := by decide +kernel
theorem dX1_lift_33 : decode cX1_lift 33 = .ok (.iconst 3, 1) := by decide +kernel
theorem dX1_lift_34 : decode cX1_lift 34 = .ok (.iload_n 1, 1) := by decide +kernel
theorem dX1_lift_35 : decode cX1_lift 35 = .ok (.imul, 1) := by decide +kernel
theorem dX1_lift_36 : decode cX1_lift 36 = .ok (.iload_n 2, 1) := by decide +kernel
theorem dX1_lift_37 : decode cX1_lift 37 = .ok (.iadd, 1) := by decide +kernel
theorem dX1_lift_38 : decode cX1_lift 38 = .ok (.iconst 0, 1) := by decide +kernel
theorem dX1_lift_39 : decode cX1_lift 39 = .ok (.dconst 0, 1) := by decide +kernel
theorem dX1_lift_40 : decode cX1_lift 40 = .ok (.invokevirtual 81, 3) := by decide +kernel
theorem dX1_lift_43 : decode cX1_lift 43 = .ok (.ireturn, 1) := by decide +kernel
set_option maxRecDepth 20000 in
theorem ggX1_probes_X1_latestOut : GoodIn wsX1_probes wsX1_latestOut := goodIn_r _ [7, 8, 9, 10, 11, 12, 6, 13, 28, 29, 30, 31, 32, 33, 34, 35, 36, 37] (by decide +kernel) (by decide +kernel)
set_option maxRecDepth 20000 in
theorem gX1_probes_X1_latestOut : GoodIn wsX1_probes (wsV RX1 50 RX1 yX1_latestOut wsX1_latestOut) := goodIn_app (goodIn_of _ (by decide +kernel)) ggX1_probes_X1_latestOut
set_option maxRecDepth 20000 in
theorem ggX1_probes_X1_latestValue : GoodIn wsX1_probes wsX1_latestValue := goodIn_r _ [17, 8, 18, 10, 11, 12, 6, 13, 28, 29, 30, 31, 32, 33, 34, 35, 36, 37] (by decide +kernel) (by decide +kernel)
set_option maxRecDepth 20000 in
theorem gX1_probes_X1_latestValue : GoodIn wsX1_probes (wsV RX1 54 RX1 yX1_latestValue wsX1_latestValue) := goodIn_app (goodIn_of _ (by decide +kernel)) ggX1_probes_X1_latestValue
set_option maxRecDepth 20000 in
theorem ggX1_probes_X1_way : GoodIn wsX1_probes wsX1_way := goodIn_r _ [21] (by decide +kernel) (by decide +kernel)
set_option maxRecDepth 20000 in
theorem gX1_probes_X1_way : GoodIn wsX1_probes (va_wsS RX1 58 yX1_way wsX1_way) := goodIn_app (goodIn_of _ (by decide +kernel)) ggX1_probes_X1_way
set_option maxRecDepth 20000 in
theorem ggX1_probes_X1_is : GoodIn wsX1_probes wsX1_is := goodIn_r _ [24, 25, 26, 6, 27] (by decide +kernel) (by decide +kernel)
set_option maxRecDepth 20000 in
theorem gX1_probes_X1_is : GoodIn wsX1_probes (va_wsS RX1 85 yX1_is wsX1_is) := goodIn_app (goodIn_of _ (by decide +kernel)) ggX1_probes_X1_is
theorem dX1_probes_0 : decode cX1_probes 0 = .ok (.aload_n 0, 1) := by decide +kernel
theorem dX1_probes_1 : decode cX1_probes 1 = .ok (.getfield 30, 3) := by decide +kernel
theorem dX1_probes_4 : decode cX1_probes 4 = .ok (.iload_n 1, 1) := by decide +kernel
theorem dX1_probes_5 : decode cX1_probes 5 = .ok (.iload_n 2, 1) := by decide +kernel
theorem dX1_probes_6 : decode cX1_probes 6 = .ok (.bastore, 1) := by decide +kernel
theorem dX1_probes_7 : decode cX1_probes 7 = .ok (.aload_n 0, 1) := by decide +kernel
theorem dX1_probes_8 : decode cX1_probes 8 = .ok (.getfield 27, 3) := by decide +kernel
theorem dX1_probes_11 : decode cX1_probes 11 = .ok (.iload_n 1, 1) := by decide +kernel
theorem dX1_probes_12 : decode cX1_probes 12 = .ok (.dload_n 3, 1) := by decide +kernel
theorem dX1_probes_13 : decode cX1_probes 13 = .ok (.dastore, 1) := by decide +kernel
theorem dX1_probes_14 : decode cX1_probes 14 = .ok (.iconst 0, 1) := by decide +kernel
theorem dX1_probes_15 : decode cX1_probes 15 = .ok (.istore 6, 2) := by decide +kernel
theorem dX1_probes_17 : decode cX1_probes 17 = .ok (.iconst 0, 1) := by decide +kernel
theorem dX1_probes_18 : decode cX1_probes 18 = .ok (.istore 7, 2) := by decide +kernel
theorem dX1_probes_20 : decode cX1_probes 20 = .ok (.iload 7, 2) := by decide +kernel
theorem dX1_probes_22 : decode cX1_probes 22 = .ok (.bipush 6, 2) := by decide +kernel
theorem dX1_probes_24 : decode cX1_probes 24 = .ok (.if_icmp .ge 64, 3) := by decide +kernel
theorem dX1_probes_27 : decode cX1_probes 27 = .ok (.iconst 2, 1) := by decide +kernel
theorem dX1_probes_28 : decode cX1_probes 28 = .ok (.iload 7, 2) := by decide +kernel
theorem dX1_probes_30 : decode cX1_probes 30 = .ok (.imul, 1) := by decide +kernel
theorem dX1_probes_31 : decode cX1_probes 31 = .ok (.iload_n 1, 1) := by decide +kernel
theorem dX1_probes_32 : decode cX1_probes 32 = .ok (.iadd, 1) := by decide +kernel
theorem dX1_probes_33 : decode cX1_probes 33 = .ok (.istore 8, 2) := by decide +kernel
theorem dX1_probes_35 : decode cX1_probes 35 = .ok (.iload 5, 2) := by decide +kernel
theorem dX1_probes_37 : decode cX1_probes 37 = .ok (.aload_n 0, 1) := by decide +kernel
theorem dX1_probes_38 : decode cX1_probes 38 = .ok (.iload 8, 2) := by decide +kernel
theorem dX1_probes_40 : decode cX1_probes 40 = .ok (.invokevirtual 50, 3) := by decide +kernel
theorem dX1_probes_43 : decode cX1_probes 43 = .ok (.ifCond .ne 7, 3) := by decide +kernel
theorem dX1_probes_46 : decode cX1_probes 46 = .ok (.iload_n 2, 1) := by decide +kernel
theorem dX1_probes_47 : decode cX1_probes 47 = .ok (.ifCond .ne 7, 3) := by decide +kernel
theorem dX1_probes_50 : decode cX1_probes 50 = .ok (.iconst 1, 1) := by decide +kernel
theorem dX1_probes_51 : decode cX1_probes 51 = .ok (.goto 4, 3) := by decide +kernel
theorem dX1_probes_54 : decode cX1_probes 54 = .ok (.iconst 0, 1) := by decide +kernel
theorem dX1_probes_55 : decode cX1_probes 55 = .ok (.aload_n 0, 1) := by decide +kernel
theorem dX1_probes_56 : decode cX1_probes 56 = .ok (.iload 8, 2) := by decide +kernel
theorem dX1_probes_58 : decode cX1_probes 58 = .ok (.invokevirtual 54, 3) := by decide +kernel
theorem dX1_probes_61 : decode cX1_probes 61 = .ok (.dload_n 3, 1) := by decide +kernel
theorem dX1_probes_62 : decode cX1_probes 62 = .ok (.invokestatic 58, 3) := by decide +kernel
theorem dX1_probes_65 : decode cX1_probes 65 = .ok (.invokestatic 85, 3) := by decide +kernel
theorem dX1_probes_68 : decode cX1_probes 68 = .ok (.ifCond .eq 10, 3) := by decide +kernel
theorem dX1_probes_71 : decode cX1_probes 71 = .ok (.iload 6, 2) := by decide +kernel
theorem dX1_probes_73 : decode cX1_probes 73 = .ok (.iconst 1, 1) := by decide +kernel
theorem dX1_probes_74 : decode cX1_probes 74 = .ok (.iadd, 1) := by decide +kernel
theorem dX1_probes_75 : decode cX1_probes 75 = .ok (.goto 5, 3) := by decide +kernel
theorem dX1_probes_78 : decode cX1_probes 78 = .ok (.iload 6, 2) := by decide +kernel
theorem dX1_probes_80 : decode cX1_probes 80 = .ok (.istore 6, 2) := by decide +kernel
theorem dX1_probes_82 : decode cX1_probes 82 = .ok (.iinc 7 1, 3) := by decide +kernel
theorem dX1_probes_85 : decode cX1_probes 85 = .ok (.goto (-65), 3) := by decide +kernel
theorem dX1_probes_88 : decode cX1_probes 88 = .ok (.iload 6, 2) := by decide +kernel
theorem dX1_probes_90 : decode cX1_probes 90 = .ok (.ireturn, 1) := by decide +kernel
set_option maxRecDepth 20000 in
theorem ggX1_probe_X1_isLevel : GoodIn wsX1_probe wsX1_isLevel := goodIn_r _ [4, 5, 6] (by decide +kernel) (by decide +kernel)
set_option maxRecDepth 20000 in
theorem gX1_probe_X1_isLevel : GoodIn wsX1_probe (va_wsS RX1 66 yX1_isLevel wsX1_isLevel) := goodIn_app (goodIn_of _ (by decide +kernel)) ggX1_probe_X1_isLevel
set_option maxRecDepth 20000 in
theorem ggX1_probe_X1_throwing : GoodIn wsX1_probe wsX1_throwing := goodIn_r _ [10, 11, 42, 43, 44, 45, 46, 47, 48, 49, 50, 51] (by decide +kernel) (by decide +kernel)
set_option maxRecDepth 20000 in
theorem gX1_probe_X1_throwing : GoodIn wsX1_probe (wsV RX1 70 RX1 yX1_throwing wsX1_throwing) := goodIn_app (goodIn_of _ (by decide +kernel)) ggX1_probe_X1_throwing
set_option maxRecDepth 20000 in
theorem ggX1_probe_X1_probes : GoodIn wsX1_probe wsX1_probes := goodIn_r _ [15, 16, 17, 18, 19, 20, 3, 21, 22, 23, 24, 25, 26, 27, 28, 29, 30, 31, 32, 33, 34, 35, 36, 37, 38, 39, 40, 41, 42, 43, 44, 45, 46, 47, 48, 49, 50, 51] (by decide +kernel) (by decide +kernel)
set_option maxRecDepth 20000 in
theorem gX1_probe_X1_probes : GoodIn wsX1_probe (wsV RX1 88 RX1 yX1_probes wsX1_probes) := goodIn_app (goodIn_of _ (by decide +kernel)) ggX1_probe_X1_probes
theorem dX1_probe_0 : decode cX1_probe 0 = .ok (.aload_n 0, 1) := by decide +kernel
theorem dX1_probe_1 : decode cX1_probe 1 = .ok (.dload_n 1, 1) := by decide +kernel
theorem dX1_probe_2 : decode cX1_probe 2 = .ok (.invokestatic 66, 3) := by decide +kernel
theorem dX1_probe_5 : decode cX1_probe 5 = .ok (.ifCond .ne 7, 3) := by decide +kernel
theorem dX1_probe_8 : decode cX1_probe 8 = .ok (.iconst 1, 1) := by decide +kernel
theorem dX1_probe_9 : decode cX1_probe 9 = .ok (.goto 4, 3) := by decide +kernel
theorem dX1_probe_12 : decode cX1_probe 12 = .ok (.iconst 0, 1) := by decide +kernel
theorem dX1_probe_13 : decode cX1_probe 13 = .ok (.iconst 0, 1) := by decide +kernel
theorem dX1_probe_14 : decode cX1_probe 14 = .ok (.iconst 0, 1) := by decide +kernel
theorem dX1_probe_15 : decode cX1_probe 15 = .ok (.invokevirtual 70, 3) := by decide +kernel
theorem dX1_probe_18 : decode cX1_probe 18 = .ok (.ifCond .eq 5, 3) := by decide +kernel
theorem dX1_probe_21 : decode cX1_probe 21 = .ok (.iconst 0, 1) := by decide +kernel
theorem dX1_probe_22 : decode cX1_probe 22 = .ok (.ireturn, 1) := by decide +kernel
theorem dX1_probe_23 : decode cX1_probe 23 = .ok (.aload_n 0, 1) := by decide +kernel
theorem dX1_probe_24 : decode cX1_probe 24 = .ok (.iconst 0, 1) := by decide +kernel
theorem dX1_probe_25 : decode cX1_probe 25 = .ok (.iconst 1, 1) := by decide +kernel
theorem dX1_probe_26 : decode cX1_probe 26 = .ok (.dload_n 1, 1) := by decide +kernel
theorem dX1_probe_27 : decode cX1_probe 27 = .ok (.iconst 4, 1) := by decide +kernel
theorem dX1_probe_28 : decode cX1_probe 28 = .ok (.invokevirtual 88, 3) := by decide +kernel
theorem dX1_probe_31 : decode cX1_probe 31 = .ok (.ireturn, 1) := by decide +kernel
set_option maxRecDepth 20000 in
theorem ggX1_probeWind_X1_isWind : GoodIn wsX1_probeWind wsX1_isWind := goodIn_r _ [4, 5] (by decide +kernel) (by decide +kernel)
set_option maxRecDepth 20000 in
theorem gX1_probeWind_X1_isWind : GoodIn wsX1_probeWind (va_wsS RX1 78 yX1_isWind wsX1_isWind) := goodIn_app (goodIn_of _ (by decide +kernel)) ggX1_probeWind_X1_isWind
set_option maxRecDepth 20000 in
theorem ggX1_probeWind_X1_throwing : GoodIn wsX1_probeWind wsX1_throwing := goodIn_r _ [9, 10, 41, 42, 43, 44, 45, 46, 47, 48, 49, 50] (by decide +kernel) (by decide +kernel)
set_option maxRecDepth 20000 in
theorem gX1_probeWind_X1_throwing : GoodIn wsX1_probeWind (wsV RX1 70 RX1 yX1_throwing wsX1_throwing) := goodIn_app (goodIn_of _ (by decide +kernel)) ggX1_probeWind_X1_throwing
set_option maxRecDepth 20000 in
theorem ggX1_probeWind_X1_probes : GoodIn wsX1_probeWind wsX1_probes := goodIn_r _ [14, 15, 16, 17, 18, 19, 3, 20, 21, 22, 23, 24, 25, 26, 27, 28, 29, 30, 31, 32, 33, 34, 35, 36, 37, 38, 39, 40, 41, 42, 43, 44, 45, 46, 47, 48, 49, 50] (by decide +kernel) (by decide +kernel)
set_option maxRecDepth 20000 in
theorem gX1_probeWind_X1_probes : GoodIn wsX1_probeWind (wsV RX1 88 RX1 yX1_probes wsX1_probes) := goodIn_app (goodIn_of _ (by decide +kernel)) ggX1_probeWind_X1_probes
theorem dX1_probeWind_0 : decode cX1_probeWind 0 = .ok (.aload_n 0, 1) := by decide +kernel
theorem dX1_probeWind_1 : decode cX1_probeWind 1 = .ok (.fload_n 1, 1) := by decide +kernel
theorem dX1_probeWind_2 : decode cX1_probeWind 2 = .ok (.f2d, 1) := by decide +kernel
theorem dX1_probeWind_3 : decode cX1_probeWind 3 = .ok (.invokestatic 78, 3) := by decide +kernel
theorem dX1_probeWind_6 : decode cX1_probeWind 6 = .ok (.ifCond .ne 7, 3) := by decide +kernel
theorem dX1_probeWind_9 : decode cX1_probeWind 9 = .ok (.iconst 1, 1) := by decide +kernel
theorem dX1_probeWind_10 : decode cX1_probeWind 10 = .ok (.goto 4, 3) := by decide +kernel
theorem dX1_probeWind_13 : decode cX1_probeWind 13 = .ok (.iconst 0, 1) := by decide +kernel
theorem dX1_probeWind_14 : decode cX1_probeWind 14 = .ok (.iconst 0, 1) := by decide +kernel
theorem dX1_probeWind_15 : decode cX1_probeWind 15 = .ok (.iconst 0, 1) := by decide +kernel
theorem dX1_probeWind_16 : decode cX1_probeWind 16 = .ok (.invokevirtual 70, 3) := by decide +kernel
theorem dX1_probeWind_19 : decode cX1_probeWind 19 = .ok (.ifCond .eq 5, 3) := by decide +kernel
theorem dX1_probeWind_22 : decode cX1_probeWind 22 = .ok (.iconst 0, 1) := by decide +kernel
theorem dX1_probeWind_23 : decode cX1_probeWind 23 = .ok (.ireturn, 1) := by decide +kernel
theorem dX1_probeWind_24 : decode cX1_probeWind 24 = .ok (.aload_n 0, 1) := by decide +kernel
theorem dX1_probeWind_25 : decode cX1_probeWind 25 = .ok (.iconst 1, 1) := by decide +kernel
theorem dX1_probeWind_26 : decode cX1_probeWind 26 = .ok (.iconst 1, 1) := by decide +kernel
theorem dX1_probeWind_27 : decode cX1_probeWind 27 = .ok (.fload_n 1, 1) := by decide +kernel
theorem dX1_probeWind_28 : decode cX1_probeWind 28 = .ok (.f2d, 1) := by decide +kernel
theorem dX1_probeWind_29 : decode cX1_probeWind 29 = .ok (.iconst 4, 1) := by decide +kernel
theorem dX1_probeWind_30 : decode cX1_probeWind 30 = .ok (.invokevirtual 88, 3) := by decide +kernel
theorem dX1_probeWind_33 : decode cX1_probeWind 33 = .ok (.ireturn, 1) := by decide +kernel
set_option maxRecDepth 20000 in
theorem ggX1_probeOut_X1_outside : GoodIn wsX1_probeOut wsX1_outside := goodIn_r _ [4] (by decide +kernel) (by decide +kernel)
set_option maxRecDepth 20000 in
theorem gX1_probeOut_X1_outside : GoodIn wsX1_probeOut (va_wsS RX1 62 yX1_outside wsX1_outside) := goodIn_app (goodIn_of _ (by decide +kernel)) ggX1_probeOut_X1_outside
set_option maxRecDepth 20000 in
theorem ggX1_probeOut_X1_throwing : GoodIn wsX1_probeOut wsX1_throwing := goodIn_r _ [8, 9, 40, 41, 42, 43, 44, 45, 46, 47, 48, 49] (by decide +kernel) (by decide +kernel)
set_option maxRecDepth 20000 in
theorem gX1_probeOut_X1_throwing : GoodIn wsX1_probeOut (wsV RX1 70 RX1 yX1_throwing wsX1_throwing) := goodIn_app (goodIn_of _ (by decide +kernel)) ggX1_probeOut_X1_throwing
set_option maxRecDepth 20000 in
theorem ggX1_probeOut_X1_probes : GoodIn wsX1_probeOut wsX1_probes := goodIn_r _ [13, 14, 15, 16, 17, 18, 3, 19, 20, 21, 22, 23, 24, 25, 26, 27, 28, 29, 30, 31, 32, 33, 34, 35, 36, 37, 38, 39, 40, 41, 42, 43, 44, 45, 46, 47, 48, 49] (by decide +kernel) (by decide +kernel)
set_option maxRecDepth 20000 in
theorem gX1_probeOut_X1_probes : GoodIn wsX1_probeOut (wsV RX1 88 RX1 yX1_probes wsX1_probes) := goodIn_app (goodIn_of _ (by decide +kernel)) ggX1_probeOut_X1_probes
theorem dX1_probeOut_0 : decode cX1_probeOut 0 = .ok (.aload_n 0, 1) := by decide +kernel
theorem dX1_probeOut_1 : decode cX1_probeOut 1 = .ok (.iload_n 1, 1) := by decide +kernel
theorem dX1_probeOut_2 : decode cX1_probeOut 2 = .ok (.iconst 1, 1) := by decide +kernel
theorem dX1_probeOut_3 : decode cX1_probeOut 3 = .ok (.invokestatic 62, 3) := by decide +kernel
theorem dX1_probeOut_6 : decode cX1_probeOut 6 = .ok (.iconst 0, 1) := by decide +kernel
theorem dX1_probeOut_7 : decode cX1_probeOut 7 = .ok (.iconst 0, 1) := by decide +kernel
theorem dX1_probeOut_8 : decode cX1_probeOut 8 = .ok (.invokevirtual 70, 3) := by decide +kernel
theorem dX1_probeOut_11 : decode cX1_probeOut 11 = .ok (.ifCond .eq 5, 3) := by decide +kernel
theorem dX1_probeOut_14 : decode cX1_probeOut 14 = .ok (.iconst 0, 1) := by decide +kernel
theorem dX1_probeOut_15 : decode cX1_probeOut 15 = .ok (.ireturn, 1) := by decide +kernel
theorem dX1_probeOut_16 : decode cX1_probeOut 16 = .ok (.aload_n 0, 1) := by decide +kernel
theorem dX1_probeOut_17 : decode cX1_probeOut 17 = .ok (.iload_n 1, 1) := by decide +kernel
theorem dX1_probeOut_18 : decode cX1_probeOut 18 = .ok (.iconst 0, 1) := by decide +kernel
theorem dX1_probeOut_19 : decode cX1_probeOut 19 = .ok (.dconst 0, 1) := by decide +kernel
theorem dX1_probeOut_20 : decode cX1_probeOut 20 = .ok (.iconst 5, 1) := by decide +kernel
theorem dX1_probeOut_21 : decode cX1_probeOut 21 = .ok (.invokevirtual 88, 3) := by decide +kernel
theorem dX1_probeOut_24 : decode cX1_probeOut 24 = .ok (.ireturn, 1) := by decide +kernel
set_option maxRecDepth 20000 in
theorem ggX1_run_X1_outside : GoodIn wsX1_run wsX1_outside := goodIn_r _ [5] (by decide +kernel) (by decide +kernel)
set_option maxRecDepth 20000 in
theorem gX1_run_X1_outside : GoodIn wsX1_run (va_wsS RX1 62 yX1_outside wsX1_outside) := goodIn_app (goodIn_of _ (by decide +kernel)) ggX1_run_X1_outside
set_option maxRecDepth 20000 in
theorem ggX1_run_X1_throwing : GoodIn wsX1_run wsX1_throwing := goodIn_r _ [9, 10, 28, 29, 30, 31, 32, 33, 34, 35, 36, 37] (by decide +kernel) (by decide +kernel)
set_option maxRecDepth 20000 in
theorem gX1_run_X1_throwing : GoodIn wsX1_run (wsV RX1 70 RX1 yX1_throwing wsX1_throwing) := goodIn_app (goodIn_of _ (by decide +kernel)) ggX1_run_X1_throwing
set_option maxRecDepth 20000 in
theorem ggX1_run_X1_probeWay : GoodIn wsX1_run wsX1_probeWay := goodIn_r _ [14, 15, 16, 17, 18, 19, 20, 4, 21, 28, 29, 30, 31, 32, 33, 34, 35, 36, 37] (by decide +kernel) (by decide +kernel)
set_option maxRecDepth 20000 in
theorem gX1_run_X1_probeWay : GoodIn wsX1_run (wsV RX1 92 RX1 yX1_probeWay wsX1_probeWay) := goodIn_app (goodIn_of _ (by decide +kernel)) ggX1_run_X1_probeWay
set_option maxRecDepth 20000 in
theorem ggX1_run_X1_is : GoodIn wsX1_run wsX1_is := goodIn_r _ [24, 25, 26, 4, 27] (by decide +kernel) (by decide +kernel)
set_option maxRecDepth 20000 in
theorem gX1_run_X1_is : GoodIn wsX1_run (va_wsS RX1 85 yX1_is wsX1_is) := goodIn_app (goodIn_of _ (by decide +kernel)) ggX1_run_X1_is
theorem dX1_run_0 : decode cX1_run 0 = .ok (.aload_n 0, 1) := by decide +kernel
theorem dX1_run_1 : decode cX1_run 1 = .ok (.iload_n 1, 1) := by decide +kernel
theorem dX1_run_2 : decode cX1_run 2 = .ok (.iconst 5, 1) := by decide +kernel
theorem dX1_run_3 : decode cX1_run 3 = .ok (.invokestatic 62, 3) := by decide +kernel
theorem dX1_run_6 : decode cX1_run 6 = .ok (.ifCond .ne 19, 3) := by decide +kernel
theorem dX1_run_9 : decode cX1_run 9 = .ok (.iload_n 2, 1) := by decide +kernel
theorem dX1_run_10 : decode cX1_run 10 = .ok (.iconst 1, 1) := by decide +kernel
theorem dX1_run_11 : decode cX1_run 11 = .ok (.invokestatic 62, 3) := by decide +kernel
theorem dX1_run_14 : decode cX1_run 14 = .ok (.ifCond .ne 11, 3) := by decide +kernel
theorem dX1_run_17 : decode cX1_run 17 = .ok (.iload_n 3, 1) := by decide +kernel
theorem dX1_run_18 : decode cX1_run 18 = .ok (.iconst 5, 1) := by decide +kernel
theorem dX1_run_19 : decode cX1_run 19 = .ok (.invokestatic 62, 3) := by decide +kernel
theorem dX1_run_22 : decode cX1_run 22 = .ok (.ifCond .eq 7, 3) := by decide +kernel
theorem dX1_run_25 : decode cX1_run 25 = .ok (.iconst 1, 1) := by decide +kernel
theorem dX1_run_26 : decode cX1_run 26 = .ok (.goto 4, 3) := by decide +kernel
theorem dX1_run_29 : decode cX1_run 29 = .ok (.iconst 0, 1) := by decide +kernel
theorem dX1_run_30 : decode cX1_run 30 = .ok (.iconst 0, 1) := by decide +kernel
theorem dX1_run_31 : decode cX1_run 31 = .ok (.iconst 0, 1) := by decide +kernel
theorem dX1_run_32 : decode cX1_run 32 = .ok (.invokevirtual 70, 3) := by decide +kernel
theorem dX1_run_35 : decode cX1_run 35 = .ok (.ifCond .eq 5, 3) := by decide +kernel
theorem dX1_run_38 : decode cX1_run 38 = .ok (.iconst 0, 1) := by decide +kernel
theorem dX1_run_39 : decode cX1_run 39 = .ok (.ireturn, 1) := by decide +kernel
theorem dX1_run_40 : decode cX1_run 40 = .ok (.iconst 2, 1) := by decide +kernel
theorem dX1_run_41 : decode cX1_run 41 = .ok (.iload_n 1, 1) := by decide +kernel
theorem dX1_run_42 : decode cX1_run 42 = .ok (.imul, 1) := by decide +kernel
theorem dX1_run_43 : decode cX1_run 43 = .ok (.iload_n 2, 1) := by decide +kernel
theorem dX1_run_44 : decode cX1_run 44 = .ok (.iadd, 1) := by decide +kernel
theorem dX1_run_45 : decode cX1_run 45 = .ok (.istore 5, 2) := by decide +kernel
theorem dX1_run_47 : decode cX1_run 47 = .ok (.iconst 0, 1) := by decide +kernel
theorem dX1_run_48 : decode cX1_run 48 = .ok (.istore 6, 2) := by decide +kernel
theorem dX1_run_50 : decode cX1_run 50 = .ok (.iconst 1, 1) := by decide +kernel
theorem dX1_run_51 : decode cX1_run 51 = .ok (.istore 7, 2) := by decide +kernel
theorem dX1_run_53 : decode cX1_run 53 = .ok (.iconst 0, 1) := by decide +kernel
theorem dX1_run_54 : decode cX1_run 54 = .ok (.istore 8, 2) := by decide +kernel
theorem dX1_run_56 : decode cX1_run 56 = .ok (.iload 8, 2) := by decide +kernel
theorem dX1_run_58 : decode cX1_run 58 = .ok (.aload_n 0, 1) := by decide +kernel
theorem dX1_run_59 : decode cX1_run 59 = .ok (.getfield 17, 3) := by decide +kernel
theorem dX1_run_62 : decode cX1_run 62 = .ok (.iload 5, 2) := by decide +kernel
theorem dX1_run_64 : decode cX1_run 64 = .ok (.iaload, 1) := by decide +kernel
theorem dX1_run_65 : decode cX1_run 65 = .ok (.if_icmp .ge 83, 3) := by decide +kernel
theorem dX1_run_68 : decode cX1_run 68 = .ok (.bipush 12, 2) := by decide +kernel
theorem dX1_run_70 : decode cX1_run 70 = .ok (.iload 5, 2) := by decide +kernel
theorem dX1_run_72 : decode cX1_run 72 = .ok (.imul, 1) := by decide +kernel
theorem dX1_run_73 : decode cX1_run 73 = .ok (.iload 4, 2) := by decide +kernel
theorem dX1_run_75 : decode cX1_run 75 = .ok (.ifCond .eq 18, 3) := by decide +kernel
theorem dX1_run_78 : decode cX1_run 78 = .ok (.aload_n 0, 1) := by decide +kernel
theorem dX1_run_79 : decode cX1_run 79 = .ok (.getfield 17, 3) := by decide +kernel
theorem dX1_run_82 : decode cX1_run 82 = .ok (.iload 5, 2) := by decide +kernel
theorem dX1_run_84 : decode cX1_run 84 = .ok (.iaload, 1) := by decide +kernel
theorem dX1_run_85 : decode cX1_run 85 = .ok (.iconst 1, 1) := by decide +kernel
theorem dX1_run_86 : decode cX1_run 86 = .ok (.isub, 1) := by decide +kernel
theorem dX1_run_87 : decode cX1_run 87 = .ok (.iload 8, 2) := by decide +kernel
theorem dX1_run_89 : decode cX1_run 89 = .ok (.isub, 1) := by decide +kernel
theorem dX1_run_90 : decode cX1_run 90 = .ok (.goto 5, 3) := by decide +kernel
theorem dX1_run_93 : decode cX1_run 93 = .ok (.iload 8, 2) := by decide +kernel
theorem dX1_run_95 : decode cX1_run 95 = .ok (.iadd, 1) := by decide +kernel
theorem dX1_run_96 : decode cX1_run 96 = .ok (.istore 9, 2) := by decide +kernel
theorem dX1_run_98 : decode cX1_run 98 = .ok (.iload 7, 2) := by decide +kernel
theorem dX1_run_100 : decode cX1_run 100 = .ok (.ifCond .eq 23, 3) := by decide +kernel
theorem dX1_run_103 : decode cX1_run 103 = .ok (.iload_n 3, 1) := by decide +kernel
theorem dX1_run_104 : decode cX1_run 104 = .ok (.aload_n 0, 1) := by decide +kernel
theorem dX1_run_105 : decode cX1_run 105 = .ok (.iload 9, 2) := by decide +kernel
theorem dX1_run_107 : decode cX1_run 107 = .ok (.iload_n 2, 1) := by decide +kernel
theorem dX1_run_108 : decode cX1_run 108 = .ok (.invokevirtual 92, 3) := by decide +kernel
theorem dX1_run_111 : decode cX1_run 111 = .ok (.invokestatic 85, 3) := by decide +kernel
theorem dX1_run_114 : decode cX1_run 114 = .ok (.iload 4, 2) := by decide +kernel
theorem dX1_run_116 : decode cX1_run 116 = .ok (.if_icmp .eq 7, 3) := by decide +kernel
theorem dX1_run_119 : decode cX1_run 119 = .ok (.iconst 1, 1) := by decide +kernel
theorem dX1_run_120 : decode cX1_run 120 = .ok (.goto 4, 3) := by decide +kernel
theorem dX1_run_123 : decode cX1_run 123 = .ok (.iconst 0, 1) := by decide +kernel
theorem dX1_run_124 : decode cX1_run 124 = .ok (.istore 7, 2) := by decide +kernel
theorem dX1_run_126 : decode cX1_run 126 = .ok (.iload 7, 2) := by decide +kernel
theorem dX1_run_128 : decode cX1_run 128 = .ok (.ifCond .eq 10, 3) := by decide +kernel
theorem dX1_run_131 : decode cX1_run 131 = .ok (.iload 6, 2) := by decide +kernel
theorem dX1_run_133 : decode cX1_run 133 = .ok (.iconst 1, 1) := by decide +kernel
theorem dX1_run_134 : decode cX1_run 134 = .ok (.iadd, 1) := by decide +kernel
theorem dX1_run_135 : decode cX1_run 135 = .ok (.goto 5, 3) := by decide +kernel
theorem dX1_run_138 : decode cX1_run 138 = .ok (.iload 6, 2) := by decide +kernel
theorem dX1_run_140 : decode cX1_run 140 = .ok (.istore 6, 2) := by decide +kernel
theorem dX1_run_142 : decode cX1_run 142 = .ok (.iinc 8 1, 3) := by decide +kernel
theorem dX1_run_145 : decode cX1_run 145 = .ok (.goto (-89), 3) := by decide +kernel
theorem dX1_run_148 : decode cX1_run 148 = .ok (.iload 6, 2) := by decide +kernel
theorem dX1_run_150 : decode cX1_run 150 = .ok (.ireturn, 1) := by decide +kernel
set_option maxRecDepth 20000 in
theorem ggX1_count_X1_outside : GoodIn wsX1_count wsX1_outside := goodIn_r _ [5] (by decide +kernel) (by decide +kernel)
set_option maxRecDepth 20000 in
theorem gX1_count_X1_outside : GoodIn wsX1_count (va_wsS RX1 62 yX1_outside wsX1_outside) := goodIn_app (goodIn_of _ (by decide +kernel)) ggX1_count_X1_outside
set_option maxRecDepth 20000 in
theorem ggX1_count_X1_throwing : GoodIn wsX1_count wsX1_throwing := goodIn_r _ [9, 10, 28, 29, 30, 31, 32, 33, 34, 35, 36, 37] (by decide +kernel) (by decide +kernel)
set_option maxRecDepth 20000 in
theorem gX1_count_X1_throwing : GoodIn wsX1_count (wsV RX1 70 RX1 yX1_throwing wsX1_throwing) := goodIn_app (goodIn_of _ (by decide +kernel)) ggX1_count_X1_throwing
set_option maxRecDepth 20000 in
theorem ggX1_count_X1_probeWay : GoodIn wsX1_count wsX1_probeWay := goodIn_r _ [14, 15, 16, 17, 18, 19, 20, 4, 21, 28, 29, 30, 31, 32, 33, 34, 35, 36, 37] (by decide +kernel) (by decide +kernel)
set_option maxRecDepth 20000 in
theorem gX1_count_X1_probeWay : GoodIn wsX1_count (wsV RX1 92 RX1 yX1_probeWay wsX1_probeWay) := goodIn_app (goodIn_of _ (by decide +kernel)) ggX1_count_X1_probeWay
set_option maxRecDepth 20000 in
theorem ggX1_count_X1_is : GoodIn wsX1_count wsX1_is := goodIn_r _ [24, 25, 26, 4, 27] (by decide +kernel) (by decide +kernel)
set_option maxRecDepth 20000 in
theorem gX1_count_X1_is : GoodIn wsX1_count (va_wsS RX1 85 yX1_is wsX1_is) := goodIn_app (goodIn_of _ (by decide +kernel)) ggX1_count_X1_is
theorem dX1_count_0 : decode cX1_count 0 = .ok (.aload_n 0, 1) := by decide +kernel
theorem dX1_count_1 : decode cX1_count 1 = .ok (.iload_n 1, 1) := by decide +kernel
theorem dX1_count_2 : decode cX1_count 2 = .ok (.iconst 5, 1) := by decide +kernel
theorem dX1_count_3 : decode cX1_count 3 = .ok (.invokestatic 62, 3) := by decide +kernel
theorem dX1_count_6 : decode cX1_count 6 = .ok (.ifCond .ne 19, 3) := by decide +kernel
theorem dX1_count_9 : decode cX1_count 9 = .ok (.iload_n 2, 1) := by decide +kernel
theorem dX1_count_10 : decode cX1_count 10 = .ok (.iconst 1, 1) := by decide +kernel
theorem dX1_count_11 : decode cX1_count 11 = .ok (.invokestatic 62, 3) := by decide +kernel
theorem dX1_count_14 : decode cX1_count 14 = .ok (.ifCond .ne 11, 3) := by decide +kernel
theorem dX1_count_17 : decode cX1_count 17 = .ok (.iload_n 3, 1) := by decide +kernel
theorem dX1_count_18 : decode cX1_count 18 = .ok (.iconst 5, 1) := by decide +kernel
theorem dX1_count_19 : decode cX1_count 19 = .ok (.invokestatic 62, 3) := by decide +kernel
theorem dX1_count_22 : decode cX1_count 22 = .ok (.ifCond .eq 7, 3) := by decide +kernel
theorem dX1_count_25 : decode cX1_count 25 = .ok (.iconst 1, 1) := by decide +kernel
theorem dX1_count_26 : decode cX1_count 26 = .ok (.goto 4, 3) := by decide +kernel
theorem dX1_count_29 : decode cX1_count 29 = .ok (.iconst 0, 1) := by decide +kernel
theorem dX1_count_30 : decode cX1_count 30 = .ok (.iconst 0, 1) := by decide +kernel
theorem dX1_count_31 : decode cX1_count 31 = .ok (.iconst 0, 1) := by decide +kernel
theorem dX1_count_32 : decode cX1_count 32 = .ok (.invokevirtual 70, 3) := by decide +kernel
theorem dX1_count_35 : decode cX1_count 35 = .ok (.ifCond .eq 5, 3) := by decide +kernel
theorem dX1_count_38 : decode cX1_count 38 = .ok (.iconst 0, 1) := by decide +kernel
theorem dX1_count_39 : decode cX1_count 39 = .ok (.ireturn, 1) := by decide +kernel
theorem dX1_count_40 : decode cX1_count 40 = .ok (.iconst 2, 1) := by decide +kernel
theorem dX1_count_41 : decode cX1_count 41 = .ok (.iload_n 1, 1) := by decide +kernel
theorem dX1_count_42 : decode cX1_count 42 = .ok (.imul, 1) := by decide +kernel
theorem dX1_count_43 : decode cX1_count 43 = .ok (.iload_n 2, 1) := by decide +kernel
theorem dX1_count_44 : decode cX1_count 44 = .ok (.iadd, 1) := by decide +kernel
theorem dX1_count_45 : decode cX1_count 45 = .ok (.istore 5, 2) := by decide +kernel
theorem dX1_count_47 : decode cX1_count 47 = .ok (.iconst 0, 1) := by decide +kernel
theorem dX1_count_48 : decode cX1_count 48 = .ok (.istore 6, 2) := by decide +kernel
theorem dX1_count_50 : decode cX1_count 50 = .ok (.iconst 0, 1) := by decide +kernel
theorem dX1_count_51 : decode cX1_count 51 = .ok (.istore 7, 2) := by decide +kernel
theorem dX1_count_53 : decode cX1_count 53 = .ok (.iload 7, 2) := by decide +kernel
theorem dX1_count_55 : decode cX1_count 55 = .ok (.aload_n 0, 1) := by decide +kernel
theorem dX1_count_56 : decode cX1_count 56 = .ok (.getfield 17, 3) := by decide +kernel
theorem dX1_count_59 : decode cX1_count 59 = .ok (.iload 5, 2) := by decide +kernel
theorem dX1_count_61 : decode cX1_count 61 = .ok (.iaload, 1) := by decide +kernel
theorem dX1_count_62 : decode cX1_count 62 = .ok (.if_icmp .ge 40, 3) := by decide +kernel
theorem dX1_count_65 : decode cX1_count 65 = .ok (.iload_n 3, 1) := by decide +kernel
theorem dX1_count_66 : decode cX1_count 66 = .ok (.aload_n 0, 1) := by decide +kernel
theorem dX1_count_67 : decode cX1_count 67 = .ok (.bipush 12, 2) := by decide +kernel
theorem dX1_count_69 : decode cX1_count 69 = .ok (.iload 5, 2) := by decide +kernel
theorem dX1_count_71 : decode cX1_count 71 = .ok (.imul, 1) := by decide +kernel
theorem dX1_count_72 : decode cX1_count 72 = .ok (.iload 7, 2) := by decide +kernel
theorem dX1_count_74 : decode cX1_count 74 = .ok (.iadd, 1) := by decide +kernel
theorem dX1_count_75 : decode cX1_count 75 = .ok (.iload_n 2, 1) := by decide +kernel
theorem dX1_count_76 : decode cX1_count 76 = .ok (.invokevirtual 92, 3) := by decide +kernel
theorem dX1_count_79 : decode cX1_count 79 = .ok (.invokestatic 85, 3) := by decide +kernel
theorem dX1_count_82 : decode cX1_count 82 = .ok (.ifCond .eq 10, 3) := by decide +kernel
theorem dX1_count_85 : decode cX1_count 85 = .ok (.iload 6, 2) := by decide +kernel
theorem dX1_count_87 : decode cX1_count 87 = .ok (.iconst 1, 1) := by decide +kernel
theorem dX1_count_88 : decode cX1_count 88 = .ok (.iadd, 1) := by decide +kernel
theorem dX1_count_89 : decode cX1_count 89 = .ok (.goto 5, 3) := by decide +kernel
theorem dX1_count_92 : decode cX1_count 92 = .ok (.iload 6, 2) := by decide +kernel
theorem dX1_count_94 : decode cX1_count 94 = .ok (.istore 6, 2) := by decide +kernel
theorem dX1_count_96 : decode cX1_count 96 = .ok (.iinc 7 1, 3) := by decide +kernel
theorem dX1_count_99 : decode cX1_count 99 = .ok (.goto (-46), 3) := by decide +kernel
theorem dX1_count_102 : decode cX1_count 102 = .ok (.iload 4, 2) := by decide +kernel
theorem dX1_count_104 : decode cX1_count 104 = .ok (.ifCond .eq 16, 3) := by decide +kernel
theorem dX1_count_107 : decode cX1_count 107 = .ok (.aload_n 0, 1) := by decide +kernel
theorem dX1_count_108 : decode cX1_count 108 = .ok (.getfield 17, 3) := by decide +kernel
theorem dX1_count_111 : decode cX1_count 111 = .ok (.iload 5, 2) := by decide +kernel
theorem dX1_count_113 : decode cX1_count 113 = .ok (.iaload, 1) := by decide +kernel
theorem dX1_count_114 : decode cX1_count 114 = .ok (.iload 6, 2) := by decide +kernel
theorem dX1_count_116 : decode cX1_count 116 = .ok (.isub, 1) := by decide +kernel
theorem dX1_count_117 : decode cX1_count 117 = .ok (.goto 5, 3) := by decide +kernel
theorem dX1_count_120 : decode cX1_count 120 = .ok (.iload 6, 2) := by decide +kernel
theorem dX1_count_122 : decode cX1_count 122 = .ok (.ireturn, 1) := by decide +kernel
set_option maxRecDepth 20000 in
theorem ggX1_holds_X1_outside : GoodIn wsX1_holds wsX1_outside := goodIn_r _ [4] (by decide +kernel) (by decide +kernel)
set_option maxRecDepth 20000 in
theorem gX1_holds_X1_outside : GoodIn wsX1_holds (va_wsS RX1 62 yX1_outside wsX1_outside) := goodIn_app (goodIn_of _ (by decide +kernel)) ggX1_holds_X1_outside
set_option maxRecDepth 20000 in
theorem ggX1_holds_X1_throwing : GoodIn wsX1_holds wsX1_throwing := goodIn_r _ [8, 9, 38, 39, 40, 41, 42, 43, 44, 45, 46, 47] (by decide +kernel) (by decide +kernel)
set_option maxRecDepth 20000 in
theorem gX1_holds_X1_throwing : GoodIn wsX1_holds (wsV RX1 70 RX1 yX1_throwing wsX1_throwing) := goodIn_app (goodIn_of _ (by decide +kernel)) ggX1_holds_X1_throwing
set_option maxRecDepth 20000 in
theorem ggX1_holds_X1_latestWay : GoodIn wsX1_holds wsX1_latestWay := goodIn_r _ [13, 14, 15, 16, 3, 17, 18, 19, 20, 21, 22, 23, 24, 25, 26, 27, 28, 29, 30, 31, 38, 39, 40, 41, 42, 43, 44, 45, 46, 47] (by decide +kernel) (by decide +kernel)
set_option maxRecDepth 20000 in
theorem gX1_holds_X1_latestWay : GoodIn wsX1_holds (wsV RX1 96 RX1 yX1_latestWay wsX1_latestWay) := goodIn_app (goodIn_of _ (by decide +kernel)) ggX1_holds_X1_latestWay
set_option maxRecDepth 20000 in
theorem ggX1_holds_X1_is : GoodIn wsX1_holds wsX1_is := goodIn_r _ [34, 35, 36, 3, 37] (by decide +kernel) (by decide +kernel)
set_option maxRecDepth 20000 in
theorem gX1_holds_X1_is : GoodIn wsX1_holds (va_wsS RX1 85 yX1_is wsX1_is) := goodIn_app (goodIn_of _ (by decide +kernel)) ggX1_holds_X1_is
theorem dX1_holds_0 : decode cX1_holds 0 = .ok (.aload_n 0, 1) := by decide +kernel
theorem dX1_holds_1 : decode cX1_holds 1 = .ok (.iload_n 1, 1) := by decide +kernel
theorem dX1_holds_2 : decode cX1_holds 2 = .ok (.iconst 5, 1) := by decide +kernel
theorem dX1_holds_3 : decode cX1_holds 3 = .ok (.invokestatic 62, 3) := by decide +kernel
theorem dX1_holds_6 : decode cX1_holds 6 = .ok (.ifCond .ne 28, 3) := by decide +kernel
theorem dX1_holds_9 : decode cX1_holds 9 = .ok (.iload_n 2, 1) := by decide +kernel
theorem dX1_holds_10 : decode cX1_holds 10 = .ok (.iconst 5, 1) := by decide +kernel
theorem dX1_holds_11 : decode cX1_holds 11 = .ok (.invokestatic 62, 3) := by decide +kernel
theorem dX1_holds_14 : decode cX1_holds 14 = .ok (.ifCond .ne 20, 3) := by decide +kernel
theorem dX1_holds_17 : decode cX1_holds 17 = .ok (.iload_n 3, 1) := by decide +kernel
theorem dX1_holds_18 : decode cX1_holds 18 = .ok (.iconst 1, 1) := by decide +kernel
theorem dX1_holds_19 : decode cX1_holds 19 = .ok (.invokestatic 62, 3) := by decide +kernel
theorem dX1_holds_22 : decode cX1_holds 22 = .ok (.ifCond .ne 12, 3) := by decide +kernel
theorem dX1_holds_25 : decode cX1_holds 25 = .ok (.iload 4, 2) := by decide +kernel
theorem dX1_holds_27 : decode cX1_holds 27 = .ok (.iconst 5, 1) := by decide +kernel
theorem dX1_holds_28 : decode cX1_holds 28 = .ok (.invokestatic 62, 3) := by decide +kernel
theorem dX1_holds_31 : decode cX1_holds 31 = .ok (.ifCond .eq 7, 3) := by decide +kernel
theorem dX1_holds_34 : decode cX1_holds 34 = .ok (.iconst 1, 1) := by decide +kernel
theorem dX1_holds_35 : decode cX1_holds 35 = .ok (.goto 4, 3) := by decide +kernel
theorem dX1_holds_38 : decode cX1_holds 38 = .ok (.iconst 0, 1) := by decide +kernel
theorem dX1_holds_39 : decode cX1_holds 39 = .ok (.iconst 0, 1) := by decide +kernel
theorem dX1_holds_40 : decode cX1_holds 40 = .ok (.iconst 0, 1) := by decide +kernel
theorem dX1_holds_41 : decode cX1_holds 41 = .ok (.invokevirtual 70, 3) := by decide +kernel
theorem dX1_holds_44 : decode cX1_holds 44 = .ok (.ifCond .eq 5, 3) := by decide +kernel
theorem dX1_holds_47 : decode cX1_holds 47 = .ok (.iconst 0, 1) := by decide +kernel
theorem dX1_holds_48 : decode cX1_holds 48 = .ok (.ireturn, 1) := by decide +kernel
theorem dX1_holds_49 : decode cX1_holds 49 = .ok (.iload 4, 2) := by decide +kernel
theorem dX1_holds_51 : decode cX1_holds 51 = .ok (.aload_n 0, 1) := by decide +kernel
theorem dX1_holds_52 : decode cX1_holds 52 = .ok (.iconst 2, 1) := by decide +kernel
theorem dX1_holds_53 : decode cX1_holds 53 = .ok (.iload_n 1, 1) := by decide +kernel
theorem dX1_holds_54 : decode cX1_holds 54 = .ok (.imul, 1) := by decide +kernel
theorem dX1_holds_55 : decode cX1_holds 55 = .ok (.iload_n 3, 1) := by decide +kernel
theorem dX1_holds_56 : decode cX1_holds 56 = .ok (.iadd, 1) := by decide +kernel
theorem dX1_holds_57 : decode cX1_holds 57 = .ok (.iconst 2, 1) := by decide +kernel
theorem dX1_holds_58 : decode cX1_holds 58 = .ok (.iload_n 2, 1) := by decide +kernel
theorem dX1_holds_59 : decode cX1_holds 59 = .ok (.imul, 1) := by decide +kernel
theorem dX1_holds_60 : decode cX1_holds 60 = .ok (.iload_n 3, 1) := by decide +kernel
theorem dX1_holds_61 : decode cX1_holds 61 = .ok (.iadd, 1) := by decide +kernel
theorem dX1_holds_62 : decode cX1_holds 62 = .ok (.invokevirtual 96, 3) := by decide +kernel
theorem dX1_holds_65 : decode cX1_holds 65 = .ok (.invokestatic 85, 3) := by decide +kernel
theorem dX1_holds_68 : decode cX1_holds 68 = .ok (.ireturn, 1) := by decide +kernel
set_option maxRecDepth 20000 in
theorem ggX1_pick_X1_outside : GoodIn wsX1_pick wsX1_outside := goodIn_r _ [4] (by decide +kernel) (by decide +kernel)
set_option maxRecDepth 20000 in
theorem gX1_pick_X1_outside : GoodIn wsX1_pick (va_wsS RX1 62 yX1_outside wsX1_outside) := goodIn_app (goodIn_of _ (by decide +kernel)) ggX1_pick_X1_outside
set_option maxRecDepth 20000 in
theorem ggX1_pick_X1_throwing : GoodIn wsX1_pick wsX1_throwing := goodIn_r _ [8, 9, 38, 39, 40, 41, 42, 43, 44, 45, 46, 47] (by decide +kernel) (by decide +kernel)
set_option maxRecDepth 20000 in
theorem gX1_pick_X1_throwing : GoodIn wsX1_pick (wsV RX1 70 RX1 yX1_throwing wsX1_throwing) := goodIn_app (goodIn_of _ (by decide +kernel)) ggX1_pick_X1_throwing
set_option maxRecDepth 20000 in
theorem ggX1_pick_X1_latestWay : GoodIn wsX1_pick wsX1_latestWay := goodIn_r _ [13, 14, 15, 16, 3, 17, 18, 19, 20, 21, 22, 23, 24, 25, 26, 27, 28, 29, 30, 31, 38, 39, 40, 41, 42, 43, 44, 45, 46, 47] (by decide +kernel) (by decide +kernel)
set_option maxRecDepth 20000 in
theorem gX1_pick_X1_latestWay : GoodIn wsX1_pick (wsV RX1 96 RX1 yX1_latestWay wsX1_latestWay) := goodIn_app (goodIn_of _ (by decide +kernel)) ggX1_pick_X1_latestWay
set_option maxRecDepth 20000 in
theorem ggX1_pick_X1_is : GoodIn wsX1_pick wsX1_is := goodIn_r _ [34, 35, 36, 3, 37] (by decide +kernel) (by decide +kernel)
set_option maxRecDepth 20000 in
theorem gX1_pick_X1_is : GoodIn wsX1_pick (va_wsS RX1 85 yX1_is wsX1_is) := goodIn_app (goodIn_of _ (by decide +kernel)) ggX1_pick_X1_is
theorem dX1_pick_0 : decode cX1_pick 0 = .ok (.aload_n 0, 1) := by decide +kernel
theorem dX1_pick_1 : decode cX1_pick 1 = .ok (.iload_n 1, 1) := by decide +kernel
theorem dX1_pick_2 : decode cX1_pick 2 = .ok (.iconst 5, 1) := by decide +kernel
theorem dX1_pick_3 : decode cX1_pick 3 = .ok (.invokestatic 62, 3) := by decide +kernel
theorem dX1_pick_6 : decode cX1_pick 6 = .ok (.ifCond .ne 28, 3) := by decide +kernel
theorem dX1_pick_9 : decode cX1_pick 9 = .ok (.iload_n 2, 1) := by decide +kernel
theorem dX1_pick_10 : decode cX1_pick 10 = .ok (.iconst 5, 1) := by decide +kernel
theorem dX1_pick_11 : decode cX1_pick 11 = .ok (.invokestatic 62, 3) := by decide +kernel
theorem dX1_pick_14 : decode cX1_pick 14 = .ok (.ifCond .ne 20, 3) := by decide +kernel
theorem dX1_pick_17 : decode cX1_pick 17 = .ok (.iload_n 3, 1) := by decide +kernel
theorem dX1_pick_18 : decode cX1_pick 18 = .ok (.iconst 1, 1) := by decide +kernel
theorem dX1_pick_19 : decode cX1_pick 19 = .ok (.invokestatic 62, 3) := by decide +kernel
theorem dX1_pick_22 : decode cX1_pick 22 = .ok (.ifCond .ne 12, 3) := by decide +kernel
theorem dX1_pick_25 : decode cX1_pick 25 = .ok (.iload 4, 2) := by decide +kernel
theorem dX1_pick_27 : decode cX1_pick 27 = .ok (.iconst 5, 1) := by decide +kernel
theorem dX1_pick_28 : decode cX1_pick 28 = .ok (.invokestatic 62, 3) := by decide +kernel
theorem dX1_pick_31 : decode cX1_pick 31 = .ok (.ifCond .eq 7, 3) := by decide +kernel
theorem dX1_pick_34 : decode cX1_pick 34 = .ok (.iconst 1, 1) := by decide +kernel
theorem dX1_pick_35 : decode cX1_pick 35 = .ok (.goto 4, 3) := by decide +kernel
theorem dX1_pick_38 : decode cX1_pick 38 = .ok (.iconst 0, 1) := by decide +kernel
theorem dX1_pick_39 : decode cX1_pick 39 = .ok (.iconst 0, 1) := by decide +kernel
theorem dX1_pick_40 : decode cX1_pick 40 = .ok (.iconst 0, 1) := by decide +kernel
theorem dX1_pick_41 : decode cX1_pick 41 = .ok (.invokevirtual 70, 3) := by decide +kernel
theorem dX1_pick_44 : decode cX1_pick 44 = .ok (.ifCond .eq 5, 3) := by decide +kernel
theorem dX1_pick_47 : decode cX1_pick 47 = .ok (.iconst 0, 1) := by decide +kernel
theorem dX1_pick_48 : decode cX1_pick 48 = .ok (.ireturn, 1) := by decide +kernel
theorem dX1_pick_49 : decode cX1_pick 49 = .ok (.iload 4, 2) := by decide +kernel
theorem dX1_pick_51 : decode cX1_pick 51 = .ok (.aload_n 0, 1) := by decide +kernel
theorem dX1_pick_52 : decode cX1_pick 52 = .ok (.iconst 2, 1) := by decide +kernel
theorem dX1_pick_53 : decode cX1_pick 53 = .ok (.iload_n 1, 1) := by decide +kernel
theorem dX1_pick_54 : decode cX1_pick 54 = .ok (.imul, 1) := by decide +kernel
theorem dX1_pick_55 : decode cX1_pick 55 = .ok (.iload_n 3, 1) := by decide +kernel
theorem dX1_pick_56 : decode cX1_pick 56 = .ok (.iadd, 1) := by decide +kernel
theorem dX1_pick_57 : decode cX1_pick 57 = .ok (.iconst 2, 1) := by decide +kernel
theorem dX1_pick_58 : decode cX1_pick 58 = .ok (.iload_n 2, 1) := by decide +kernel
theorem dX1_pick_59 : decode cX1_pick 59 = .ok (.imul, 1) := by decide +kernel
end
section
theorem dX1_pick_60 : decode cX1_pick 60 = .ok (.iload_n 3, 1) := by decide +kernel
theorem dX1_pick_61 : decode cX1_pick 61 = .ok (.iadd, 1) := by decide +kernel
theorem dX1_pick_62 : decode cX1_pick 62 = .ok (.invokevirtual 96, 3) := by decide +kernel
theorem dX1_pick_65 : decode cX1_pick 65 = .ok (.invokestatic 85, 3) := by decide +kernel
theorem dX1_pick_68 : decode cX1_pick 68 = .ok (.istore 5, 2) := by decide +kernel
theorem dX1_pick_70 : decode cX1_pick 70 = .ok (.iload 4, 2) := by decide +kernel
theorem dX1_pick_72 : decode cX1_pick 72 = .ok (.aload_n 0, 1) := by decide +kernel
theorem dX1_pick_73 : decode cX1_pick 73 = .ok (.iconst 2, 1) := by decide +kernel
theorem dX1_pick_74 : decode cX1_pick 74 = .ok (.iload_n 2, 1) := by decide +kernel
theorem dX1_pick_75 : decode cX1_pick 75 = .ok (.imul, 1) := by decide +kernel
theorem dX1_pick_76 : decode cX1_pick 76 = .ok (.iload_n 3, 1) := by decide +kernel
theorem dX1_pick_77 : decode cX1_pick 77 = .ok (.iadd, 1) := by decide +kernel
theorem dX1_pick_78 : decode cX1_pick 78 = .ok (.iconst 2, 1) := by decide +kernel
theorem dX1_pick_79 : decode cX1_pick 79 = .ok (.iload_n 1, 1) := by decide +kernel
theorem dX1_pick_80 : decode cX1_pick 80 = .ok (.imul, 1) := by decide +kernel
theorem dX1_pick_81 : decode cX1_pick 81 = .ok (.iload_n 3, 1) := by decide +kernel
theorem dX1_pick_82 : decode cX1_pick 82 = .ok (.iadd, 1) := by decide +kernel
theorem dX1_pick_83 : decode cX1_pick 83 = .ok (.invokevirtual 96, 3) := by decide +kernel
theorem dX1_pick_86 : decode cX1_pick 86 = .ok (.invokestatic 85, 3) := by decide +kernel
theorem dX1_pick_89 : decode cX1_pick 89 = .ok (.istore 6, 2) := by decide +kernel
theorem dX1_pick_91 : decode cX1_pick 91 = .ok (.iload 5, 2) := by decide +kernel
theorem dX1_pick_93 : decode cX1_pick 93 = .ok (.ifCond .eq 7, 3) := by decide +kernel
theorem dX1_pick_96 : decode cX1_pick 96 = .ok (.iload_n 1, 1) := by decide +kernel
theorem dX1_pick_97 : decode cX1_pick 97 = .ok (.goto 13, 3) := by decide +kernel
theorem dX1_pick_100 : decode cX1_pick 100 = .ok (.iload 6, 2) := by decide +kernel
theorem dX1_pick_102 : decode cX1_pick 102 = .ok (.ifCond .eq 7, 3) := by decide +kernel
theorem dX1_pick_105 : decode cX1_pick 105 = .ok (.iload_n 2, 1) := by decide +kernel
theorem dX1_pick_106 : decode cX1_pick 106 = .ok (.goto 4, 3) := by decide +kernel
theorem dX1_pick_109 : decode cX1_pick 109 = .ok (.iconst (-1), 1) := by decide +kernel
theorem dX1_pick_110 : decode cX1_pick 110 = .ok (.ireturn, 1) := by decide +kernel
set_option maxRecDepth 20000 in
theorem ggX1_levelStand_X1_markWay : GoodIn wsX1_levelStand wsX1_markWay := goodIn_r _ [7, 2, 8, 9, 10, 11, 6, 12, 1, 13, 14, 15, 16, 17, 18, 19, 20, 21, 22, 23, 24, 25, 26, 27, 28, 29, 30, 31, 32, 33, 34, 35] (by decide +kernel) (by decide +kernel)
set_option maxRecDepth 20000 in
theorem gX1_levelStand_X1_markWay : GoodIn wsX1_levelStand (wsV RX1 99 RX1 yX1_markWay wsX1_markWay) := goodIn_app (goodIn_of _ (by decide +kernel)) ggX1_levelStand_X1_markWay
set_option maxRecDepth 20000 in
theorem ggX1_levelStand_X1_latestOut : GoodIn wsX1_levelStand wsX1_latestOut := goodIn_r _ [12, 1, 13, 14, 15, 16, 6, 17, 26, 27, 28, 29, 30, 31, 32, 33, 34, 35] (by decide +kernel) (by decide +kernel)
set_option maxRecDepth 20000 in
theorem gX1_levelStand_X1_latestOut : GoodIn wsX1_levelStand (wsV RX1 50 RX1 yX1_latestOut wsX1_latestOut) := goodIn_app (goodIn_of _ (by decide +kernel)) ggX1_levelStand_X1_latestOut
theorem dX1_levelStand_0 : decode cX1_levelStand 0 = .ok (.aload_n 0, 1) := by decide +kernel
theorem dX1_levelStand_1 : decode cX1_levelStand 1 = .ok (.iconst 2, 1) := by decide +kernel
theorem dX1_levelStand_2 : decode cX1_levelStand 2 = .ok (.iload_n 1, 1) := by decide +kernel
theorem dX1_levelStand_3 : decode cX1_levelStand 3 = .ok (.imul, 1) := by decide +kernel
theorem dX1_levelStand_4 : decode cX1_levelStand 4 = .ok (.iconst 3, 1) := by decide +kernel
theorem dX1_levelStand_5 : decode cX1_levelStand 5 = .ok (.iload_n 1, 1) := by decide +kernel
theorem dX1_levelStand_6 : decode cX1_levelStand 6 = .ok (.imul, 1) := by decide +kernel
theorem dX1_levelStand_7 : decode cX1_levelStand 7 = .ok (.invokevirtual 99, 3) := by decide +kernel
theorem dX1_levelStand_10 : decode cX1_levelStand 10 = .ok (.istore_n 2, 1) := by decide +kernel
theorem dX1_levelStand_11 : decode cX1_levelStand 11 = .ok (.aload_n 0, 1) := by decide +kernel
theorem dX1_levelStand_12 : decode cX1_levelStand 12 = .ok (.iconst 2, 1) := by decide +kernel
theorem dX1_levelStand_13 : decode cX1_levelStand 13 = .ok (.iload_n 1, 1) := by decide +kernel
theorem dX1_levelStand_14 : decode cX1_levelStand 14 = .ok (.imul, 1) := by decide +kernel
theorem dX1_levelStand_15 : decode cX1_levelStand 15 = .ok (.iconst 3, 1) := by decide +kernel
theorem dX1_levelStand_16 : decode cX1_levelStand 16 = .ok (.iload_n 1, 1) := by decide +kernel
theorem dX1_levelStand_17 : decode cX1_levelStand 17 = .ok (.imul, 1) := by decide +kernel
theorem dX1_levelStand_18 : decode cX1_levelStand 18 = .ok (.iconst 1, 1) := by decide +kernel
theorem dX1_levelStand_19 : decode cX1_levelStand 19 = .ok (.iadd, 1) := by decide +kernel
theorem dX1_levelStand_20 : decode cX1_levelStand 20 = .ok (.invokevirtual 99, 3) := by decide +kernel
theorem dX1_levelStand_23 : decode cX1_levelStand 23 = .ok (.istore_n 3, 1) := by decide +kernel
theorem dX1_levelStand_24 : decode cX1_levelStand 24 = .ok (.aload_n 0, 1) := by decide +kernel
theorem dX1_levelStand_25 : decode cX1_levelStand 25 = .ok (.getfield 17, 3) := by decide +kernel
theorem dX1_levelStand_28 : decode cX1_levelStand 28 = .ok (.iconst 2, 1) := by decide +kernel
theorem dX1_levelStand_29 : decode cX1_levelStand 29 = .ok (.iload_n 1, 1) := by decide +kernel
theorem dX1_levelStand_30 : decode cX1_levelStand 30 = .ok (.imul, 1) := by decide +kernel
theorem dX1_levelStand_31 : decode cX1_levelStand 31 = .ok (.iaload, 1) := by decide +kernel
theorem dX1_levelStand_32 : decode cX1_levelStand 32 = .ok (.ifCond .ne 5, 3) := by decide +kernel
theorem dX1_levelStand_35 : decode cX1_levelStand 35 = .ok (.iconst 0, 1) := by decide +kernel
theorem dX1_levelStand_36 : decode cX1_levelStand 36 = .ok (.ireturn, 1) := by decide +kernel
theorem dX1_levelStand_37 : decode cX1_levelStand 37 = .ok (.aload_n 0, 1) := by decide +kernel
theorem dX1_levelStand_38 : decode cX1_levelStand 38 = .ok (.iconst 2, 1) := by decide +kernel
theorem dX1_levelStand_39 : decode cX1_levelStand 39 = .ok (.iload_n 1, 1) := by decide +kernel
theorem dX1_levelStand_40 : decode cX1_levelStand 40 = .ok (.imul, 1) := by decide +kernel
theorem dX1_levelStand_41 : decode cX1_levelStand 41 = .ok (.invokevirtual 50, 3) := by decide +kernel
theorem dX1_levelStand_44 : decode cX1_levelStand 44 = .ok (.ifCond .eq 5, 3) := by decide +kernel
theorem dX1_levelStand_47 : decode cX1_levelStand 47 = .ok (.iconst 1, 1) := by decide +kernel
theorem dX1_levelStand_48 : decode cX1_levelStand 48 = .ok (.ireturn, 1) := by decide +kernel
theorem dX1_levelStand_49 : decode cX1_levelStand 49 = .ok (.iload_n 2, 1) := by decide +kernel
theorem dX1_levelStand_50 : decode cX1_levelStand 50 = .ok (.iconst 1, 1) := by decide +kernel
theorem dX1_levelStand_51 : decode cX1_levelStand 51 = .ok (.if_icmp .ne 5, 3) := by decide +kernel
theorem dX1_levelStand_54 : decode cX1_levelStand 54 = .ok (.iconst 2, 1) := by decide +kernel
theorem dX1_levelStand_55 : decode cX1_levelStand 55 = .ok (.ireturn, 1) := by decide +kernel
theorem dX1_levelStand_56 : decode cX1_levelStand 56 = .ok (.iload_n 3, 1) := by decide +kernel
theorem dX1_levelStand_57 : decode cX1_levelStand 57 = .ok (.iconst 4, 1) := by decide +kernel
theorem dX1_levelStand_58 : decode cX1_levelStand 58 = .ok (.if_icmp .ne 5, 3) := by decide +kernel
theorem dX1_levelStand_61 : decode cX1_levelStand 61 = .ok (.iconst 3, 1) := by decide +kernel
theorem dX1_levelStand_62 : decode cX1_levelStand 62 = .ok (.ireturn, 1) := by decide +kernel
theorem dX1_levelStand_63 : decode cX1_levelStand 63 = .ok (.iload_n 2, 1) := by decide +kernel
theorem dX1_levelStand_64 : decode cX1_levelStand 64 = .ok (.iconst 2, 1) := by decide +kernel
theorem dX1_levelStand_65 : decode cX1_levelStand 65 = .ok (.if_icmp .eq 8, 3) := by decide +kernel
theorem dX1_levelStand_68 : decode cX1_levelStand 68 = .ok (.iload_n 3, 1) := by decide +kernel
theorem dX1_levelStand_69 : decode cX1_levelStand 69 = .ok (.iconst 2, 1) := by decide +kernel
theorem dX1_levelStand_70 : decode cX1_levelStand 70 = .ok (.if_icmp .ne 5, 3) := by decide +kernel
theorem dX1_levelStand_73 : decode cX1_levelStand 73 = .ok (.iconst 4, 1) := by decide +kernel
theorem dX1_levelStand_74 : decode cX1_levelStand 74 = .ok (.ireturn, 1) := by decide +kernel
theorem dX1_levelStand_75 : decode cX1_levelStand 75 = .ok (.aload_n 0, 1) := by decide +kernel
theorem dX1_levelStand_76 : decode cX1_levelStand 76 = .ok (.getfield 24, 3) := by decide +kernel
theorem dX1_levelStand_79 : decode cX1_levelStand 79 = .ok (.iconst 3, 1) := by decide +kernel
theorem dX1_levelStand_80 : decode cX1_levelStand 80 = .ok (.iload_n 1, 1) := by decide +kernel
theorem dX1_levelStand_81 : decode cX1_levelStand 81 = .ok (.imul, 1) := by decide +kernel
theorem dX1_levelStand_82 : decode cX1_levelStand 82 = .ok (.baload, 1) := by decide +kernel
theorem dX1_levelStand_83 : decode cX1_levelStand 83 = .ok (.ifCond .ne 20, 3) := by decide +kernel
theorem dX1_levelStand_86 : decode cX1_levelStand 86 = .ok (.aload_n 0, 1) := by decide +kernel
theorem dX1_levelStand_87 : decode cX1_levelStand 87 = .ok (.getfield 24, 3) := by decide +kernel
theorem dX1_levelStand_90 : decode cX1_levelStand 90 = .ok (.iconst 3, 1) := by decide +kernel
theorem dX1_levelStand_91 : decode cX1_levelStand 91 = .ok (.iload_n 1, 1) := by decide +kernel
theorem dX1_levelStand_92 : decode cX1_levelStand 92 = .ok (.imul, 1) := by decide +kernel
theorem dX1_levelStand_93 : decode cX1_levelStand 93 = .ok (.iconst 1, 1) := by decide +kernel
theorem dX1_levelStand_94 : decode cX1_levelStand 94 = .ok (.iadd, 1) := by decide +kernel
theorem dX1_levelStand_95 : decode cX1_levelStand 95 = .ok (.baload, 1) := by decide +kernel
theorem dX1_levelStand_96 : decode cX1_levelStand 96 = .ok (.ifCond .ne 7, 3) := by decide +kernel
theorem dX1_levelStand_99 : decode cX1_levelStand 99 = .ok (.iconst 5, 1) := by decide +kernel
theorem dX1_levelStand_100 : decode cX1_levelStand 100 = .ok (.goto 5, 3) := by decide +kernel
theorem dX1_levelStand_103 : decode cX1_levelStand 103 = .ok (.bipush 6, 2) := by decide +kernel
theorem dX1_levelStand_105 : decode cX1_levelStand 105 = .ok (.ireturn, 1) := by decide +kernel
set_option maxRecDepth 20000 in
theorem ggX1_stand_X1_outside : GoodIn wsX1_stand wsX1_outside := goodIn_r _ [5] (by decide +kernel) (by decide +kernel)
set_option maxRecDepth 20000 in
theorem gX1_stand_X1_outside : GoodIn wsX1_stand (va_wsS RX1 62 yX1_outside wsX1_outside) := goodIn_app (goodIn_of _ (by decide +kernel)) ggX1_stand_X1_outside
set_option maxRecDepth 20000 in
theorem ggX1_stand_X1_throwing : GoodIn wsX1_stand wsX1_throwing := goodIn_r _ [9, 10, 38, 39, 40, 41, 42, 43, 44, 45, 46, 47] (by decide +kernel) (by decide +kernel)
set_option maxRecDepth 20000 in
theorem gX1_stand_X1_throwing : GoodIn wsX1_stand (wsV RX1 70 RX1 yX1_throwing wsX1_throwing) := goodIn_app (goodIn_of _ (by decide +kernel)) ggX1_stand_X1_throwing
set_option maxRecDepth 20000 in
theorem ggX1_stand_X1_markWay : GoodIn wsX1_stand wsX1_markWay := goodIn_r _ [14, 1, 15, 16, 17, 18, 4, 19, 20, 21, 22, 23, 24, 25, 26, 27, 28, 29, 30, 31, 32, 33, 38, 39, 40, 41, 42, 43, 44, 45, 46, 47] (by decide +kernel) (by decide +kernel)
set_option maxRecDepth 20000 in
theorem gX1_stand_X1_markWay : GoodIn wsX1_stand (wsV RX1 99 RX1 yX1_markWay wsX1_markWay) := goodIn_app (goodIn_of _ (by decide +kernel)) ggX1_stand_X1_markWay
set_option maxRecDepth 20000 in
theorem ggX1_stand_X1_levelStand : GoodIn wsX1_stand wsX1_levelStand := goodIn_r _ [37, 20, 1, 11, 12, 13, 4, 14, 15, 16, 17, 18, 19, 21, 22, 23, 24, 25, 26, 27, 28, 29, 30, 31, 32, 33, 38, 39, 40, 41, 42, 43, 44, 45, 46, 47] (by decide +kernel) (by decide +kernel)
set_option maxRecDepth 20000 in
theorem gX1_stand_X1_levelStand : GoodIn wsX1_stand (wsV RX1 102 RX1 yX1_levelStand wsX1_levelStand) := goodIn_app (goodIn_of _ (by decide +kernel)) ggX1_stand_X1_levelStand
theorem dX1_stand_0 : decode cX1_stand 0 = .ok (.aload_n 0, 1) := by decide +kernel
theorem dX1_stand_1 : decode cX1_stand 1 = .ok (.iload_n 1, 1) := by decide +kernel
theorem dX1_stand_2 : decode cX1_stand 2 = .ok (.iconst 5, 1) := by decide +kernel
theorem dX1_stand_3 : decode cX1_stand 3 = .ok (.invokestatic 62, 3) := by decide +kernel
theorem dX1_stand_6 : decode cX1_stand 6 = .ok (.iconst 0, 1) := by decide +kernel
theorem dX1_stand_7 : decode cX1_stand 7 = .ok (.iconst 0, 1) := by decide +kernel
theorem dX1_stand_8 : decode cX1_stand 8 = .ok (.invokevirtual 70, 3) := by decide +kernel
theorem dX1_stand_11 : decode cX1_stand 11 = .ok (.ifCond .eq 5, 3) := by decide +kernel
theorem dX1_stand_14 : decode cX1_stand 14 = .ok (.iconst 0, 1) := by decide +kernel
theorem dX1_stand_15 : decode cX1_stand 15 = .ok (.ireturn, 1) := by decide +kernel
theorem dX1_stand_16 : decode cX1_stand 16 = .ok (.aload_n 0, 1) := by decide +kernel
theorem dX1_stand_17 : decode cX1_stand 17 = .ok (.iconst 2, 1) := by decide +kernel
theorem dX1_stand_18 : decode cX1_stand 18 = .ok (.iload_n 1, 1) := by decide +kernel
theorem dX1_stand_19 : decode cX1_stand 19 = .ok (.imul, 1) := by decide +kernel
theorem dX1_stand_20 : decode cX1_stand 20 = .ok (.iconst 1, 1) := by decide +kernel
theorem dX1_stand_21 : decode cX1_stand 21 = .ok (.iadd, 1) := by decide +kernel
theorem dX1_stand_22 : decode cX1_stand 22 = .ok (.iconst 3, 1) := by decide +kernel
theorem dX1_stand_23 : decode cX1_stand 23 = .ok (.iload_n 1, 1) := by decide +kernel
theorem dX1_stand_24 : decode cX1_stand 24 = .ok (.imul, 1) := by decide +kernel
theorem dX1_stand_25 : decode cX1_stand 25 = .ok (.iconst 2, 1) := by decide +kernel
theorem dX1_stand_26 : decode cX1_stand 26 = .ok (.iadd, 1) := by decide +kernel
theorem dX1_stand_27 : decode cX1_stand 27 = .ok (.invokevirtual 99, 3) := by decide +kernel
theorem dX1_stand_30 : decode cX1_stand 30 = .ok (.istore_n 2, 1) := by decide +kernel
theorem dX1_stand_31 : decode cX1_stand 31 = .ok (.iload_n 2, 1) := by decide +kernel
theorem dX1_stand_32 : decode cX1_stand 32 = .ok (.iconst 1, 1) := by decide +kernel
theorem dX1_stand_33 : decode cX1_stand 33 = .ok (.if_icmp .ne 8, 3) := by decide +kernel
theorem dX1_stand_36 : decode cX1_stand 36 = .ok (.bipush 10, 2) := by decide +kernel
theorem dX1_stand_38 : decode cX1_stand 38 = .ok (.goto 33, 3) := by decide +kernel
theorem dX1_stand_41 : decode cX1_stand 41 = .ok (.iload_n 2, 1) := by decide +kernel
theorem dX1_stand_42 : decode cX1_stand 42 = .ok (.bipush 8, 2) := by decide +kernel
theorem dX1_stand_44 : decode cX1_stand 44 = .ok (.if_icmp .ge 8, 3) := by decide +kernel
theorem dX1_stand_47 : decode cX1_stand 47 = .ok (.bipush 20, 2) := by decide +kernel
theorem dX1_stand_49 : decode cX1_stand 49 = .ok (.goto 22, 3) := by decide +kernel
theorem dX1_stand_52 : decode cX1_stand 52 = .ok (.aload_n 0, 1) := by decide +kernel
theorem dX1_stand_53 : decode cX1_stand 53 = .ok (.getfield 24, 3) := by decide +kernel
theorem dX1_stand_56 : decode cX1_stand 56 = .ok (.iconst 3, 1) := by decide +kernel
theorem dX1_stand_57 : decode cX1_stand 57 = .ok (.iload_n 1, 1) := by decide +kernel
theorem dX1_stand_58 : decode cX1_stand 58 = .ok (.imul, 1) := by decide +kernel
theorem dX1_stand_59 : decode cX1_stand 59 = .ok (.iconst 2, 1) := by decide +kernel
theorem dX1_stand_60 : decode cX1_stand 60 = .ok (.iadd, 1) := by decide +kernel
theorem dX1_stand_61 : decode cX1_stand 61 = .ok (.baload, 1) := by decide +kernel
theorem dX1_stand_62 : decode cX1_stand 62 = .ok (.ifCond .eq 8, 3) := by decide +kernel
theorem dX1_stand_65 : decode cX1_stand 65 = .ok (.bipush 30, 2) := by decide +kernel
theorem dX1_stand_67 : decode cX1_stand 67 = .ok (.goto 4, 3) := by decide +kernel
theorem dX1_stand_70 : decode cX1_stand 70 = .ok (.iconst 0, 1) := by decide +kernel
theorem dX1_stand_71 : decode cX1_stand 71 = .ok (.istore_n 3, 1) := by decide +kernel
theorem dX1_stand_72 : decode cX1_stand 72 = .ok (.aload_n 0, 1) := by decide +kernel
theorem dX1_stand_73 : decode cX1_stand 73 = .ok (.iload_n 1, 1) := by decide +kernel
theorem dX1_stand_74 : decode cX1_stand 74 = .ok (.invokevirtual 102, 3) := by decide +kernel
theorem dX1_stand_77 : decode cX1_stand 77 = .ok (.iload_n 3, 1) := by decide +kernel
theorem dX1_stand_78 : decode cX1_stand 78 = .ok (.iadd, 1) := by decide +kernel
theorem dX1_stand_79 : decode cX1_stand 79 = .ok (.ireturn, 1) := by decide +kernel
set_option maxRecDepth 20000 in
theorem ggX1_isAhead_X1_latestOut : GoodIn wsX1_isAhead wsX1_latestOut := goodIn_r _ [5, 6, 7, 8, 9, 10, 4, 11, 24, 25, 26, 27, 28, 29, 30, 31, 32, 33] (by decide +kernel) (by decide +kernel)
set_option maxRecDepth 20000 in
theorem gX1_isAhead_X1_latestOut : GoodIn wsX1_isAhead (wsV RX1 50 RX1 yX1_latestOut wsX1_latestOut) := goodIn_app (goodIn_of _ (by decide +kernel)) ggX1_isAhead_X1_latestOut
set_option maxRecDepth 20000 in
theorem ggX1_isAhead_X1_latestWay : GoodIn wsX1_isAhead wsX1_latestWay := goodIn_r _ [15, 1, 2, 3, 4, 5, 6, 7, 8, 9, 10, 11, 16, 17, 18, 19, 20, 21, 22, 23, 24, 25, 26, 27, 28, 29, 30, 31, 32, 33] (by decide +kernel) (by decide +kernel)
set_option maxRecDepth 20000 in
theorem gX1_isAhead_X1_latestWay : GoodIn wsX1_isAhead (wsV RX1 96 RX1 yX1_latestWay wsX1_latestWay) := goodIn_app (goodIn_of _ (by decide +kernel)) ggX1_isAhead_X1_latestWay
theorem dX1_isAhead_0 : decode cX1_isAhead 0 = .ok (.aload_n 0, 1) := by decide +kernel
theorem dX1_isAhead_1 : decode cX1_isAhead 1 = .ok (.iconst 2, 1) := by decide +kernel
theorem dX1_isAhead_2 : decode cX1_isAhead 2 = .ok (.iload_n 1, 1) := by decide +kernel
theorem dX1_isAhead_3 : decode cX1_isAhead 3 = .ok (.imul, 1) := by decide +kernel
theorem dX1_isAhead_4 : decode cX1_isAhead 4 = .ok (.invokevirtual 50, 3) := by decide +kernel
theorem dX1_isAhead_7 : decode cX1_isAhead 7 = .ok (.istore_n 3, 1) := by decide +kernel
theorem dX1_isAhead_8 : decode cX1_isAhead 8 = .ok (.aload_n 0, 1) := by decide +kernel
theorem dX1_isAhead_9 : decode cX1_isAhead 9 = .ok (.iconst 2, 1) := by decide +kernel
theorem dX1_isAhead_10 : decode cX1_isAhead 10 = .ok (.iload_n 2, 1) := by decide +kernel
theorem dX1_isAhead_11 : decode cX1_isAhead 11 = .ok (.imul, 1) := by decide +kernel
theorem dX1_isAhead_12 : decode cX1_isAhead 12 = .ok (.invokevirtual 50, 3) := by decide +kernel
theorem dX1_isAhead_15 : decode cX1_isAhead 15 = .ok (.istore 4, 2) := by decide +kernel
theorem dX1_isAhead_17 : decode cX1_isAhead 17 = .ok (.iload_n 3, 1) := by decide +kernel
theorem dX1_isAhead_18 : decode cX1_isAhead 18 = .ok (.iload 4, 2) := by decide +kernel
theorem dX1_isAhead_20 : decode cX1_isAhead 20 = .ok (.if_icmp .eq 6, 3) := by decide +kernel
theorem dX1_isAhead_23 : decode cX1_isAhead 23 = .ok (.iload 4, 2) := by decide +kernel
theorem dX1_isAhead_25 : decode cX1_isAhead 25 = .ok (.ireturn, 1) := by decide +kernel
theorem dX1_isAhead_26 : decode cX1_isAhead 26 = .ok (.aload_n 0, 1) := by decide +kernel
theorem dX1_isAhead_27 : decode cX1_isAhead 27 = .ok (.iconst 2, 1) := by decide +kernel
theorem dX1_isAhead_28 : decode cX1_isAhead 28 = .ok (.iload_n 1, 1) := by decide +kernel
theorem dX1_isAhead_29 : decode cX1_isAhead 29 = .ok (.imul, 1) := by decide +kernel
theorem dX1_isAhead_30 : decode cX1_isAhead 30 = .ok (.iconst 2, 1) := by decide +kernel
theorem dX1_isAhead_31 : decode cX1_isAhead 31 = .ok (.iload_n 2, 1) := by decide +kernel
theorem dX1_isAhead_32 : decode cX1_isAhead 32 = .ok (.imul, 1) := by decide +kernel
theorem dX1_isAhead_33 : decode cX1_isAhead 33 = .ok (.invokevirtual 96, 3) := by decide +kernel
theorem dX1_isAhead_36 : decode cX1_isAhead 36 = .ok (.istore 5, 2) := by decide +kernel
theorem dX1_isAhead_38 : decode cX1_isAhead 38 = .ok (.iload 5, 2) := by decide +kernel
theorem dX1_isAhead_40 : decode cX1_isAhead 40 = .ok (.iconst 4, 1) := by decide +kernel
theorem dX1_isAhead_41 : decode cX1_isAhead 41 = .ok (.if_icmp .eq 14, 3) := by decide +kernel
theorem dX1_isAhead_44 : decode cX1_isAhead 44 = .ok (.iload 5, 2) := by decide +kernel
theorem dX1_isAhead_46 : decode cX1_isAhead 46 = .ok (.iconst 1, 1) := by decide +kernel
theorem dX1_isAhead_47 : decode cX1_isAhead 47 = .ok (.if_icmp .eq 12, 3) := by decide +kernel
theorem dX1_isAhead_50 : decode cX1_isAhead 50 = .ok (.iload_n 1, 1) := by decide +kernel
theorem dX1_isAhead_51 : decode cX1_isAhead 51 = .ok (.iload_n 2, 1) := by decide +kernel
theorem dX1_isAhead_52 : decode cX1_isAhead 52 = .ok (.if_icmp .ge 7, 3) := by decide +kernel
theorem dX1_isAhead_55 : decode cX1_isAhead 55 = .ok (.iconst 1, 1) := by decide +kernel
theorem dX1_isAhead_56 : decode cX1_isAhead 56 = .ok (.goto 4, 3) := by decide +kernel
theorem dX1_isAhead_59 : decode cX1_isAhead 59 = .ok (.iconst 0, 1) := by decide +kernel
theorem dX1_isAhead_60 : decode cX1_isAhead 60 = .ok (.ireturn, 1) := by decide +kernel
set_option maxRecDepth 20000 in
theorem ggX1_order_X1_outside : GoodIn wsX1_order wsX1_outside := goodIn_r _ [4] (by decide +kernel) (by decide +kernel)
set_option maxRecDepth 20000 in
theorem gX1_order_X1_outside : GoodIn wsX1_order (va_wsS RX1 62 yX1_outside wsX1_outside) := goodIn_app (goodIn_of _ (by decide +kernel)) ggX1_order_X1_outside
set_option maxRecDepth 20000 in
theorem ggX1_order_X1_throwing : GoodIn wsX1_order wsX1_throwing := goodIn_r _ [8, 9, 36, 37, 38, 39, 40, 41, 42, 43, 44, 45] (by decide +kernel) (by decide +kernel)
set_option maxRecDepth 20000 in
theorem gX1_order_X1_throwing : GoodIn wsX1_order (wsV RX1 70 RX1 yX1_throwing wsX1_throwing) := goodIn_app (goodIn_of _ (by decide +kernel)) ggX1_order_X1_throwing
set_option maxRecDepth 20000 in
theorem ggX1_order_X1_isAhead : GoodIn wsX1_order wsX1_isAhead := goodIn_r _ [13, 14, 15, 16, 3, 17, 18, 19, 20, 21, 22, 23, 24, 25, 26, 27, 28, 29, 30, 31, 32, 33, 34, 35, 36, 37, 38, 39, 40, 41, 42, 43, 44, 45] (by decide +kernel) (by decide +kernel)
set_option maxRecDepth 20000 in
theorem gX1_order_X1_isAhead : GoodIn wsX1_order (wsV RX1 105 RX1 yX1_isAhead wsX1_isAhead) := goodIn_app (goodIn_of _ (by decide +kernel)) ggX1_order_X1_isAhead
theorem dX1_order_0 : decode cX1_order 0 = .ok (.aload_n 0, 1) := by decide +kernel
theorem dX1_order_1 : decode cX1_order 1 = .ok (.iload_n 1, 1) := by decide +kernel
theorem dX1_order_2 : decode cX1_order 2 = .ok (.iconst 5, 1) := by decide +kernel
theorem dX1_order_3 : decode cX1_order 3 = .ok (.invokestatic 62, 3) := by decide +kernel
theorem dX1_order_6 : decode cX1_order 6 = .ok (.iconst 0, 1) := by decide +kernel
theorem dX1_order_7 : decode cX1_order 7 = .ok (.iconst 0, 1) := by decide +kernel
theorem dX1_order_8 : decode cX1_order 8 = .ok (.invokevirtual 70, 3) := by decide +kernel
theorem dX1_order_11 : decode cX1_order 11 = .ok (.ifCond .eq 5, 3) := by decide +kernel
theorem dX1_order_14 : decode cX1_order 14 = .ok (.iconst 0, 1) := by decide +kernel
theorem dX1_order_15 : decode cX1_order 15 = .ok (.ireturn, 1) := by decide +kernel
theorem dX1_order_16 : decode cX1_order 16 = .ok (.iconst 0, 1) := by decide +kernel
theorem dX1_order_17 : decode cX1_order 17 = .ok (.istore_n 2, 1) := by decide +kernel
theorem dX1_order_18 : decode cX1_order 18 = .ok (.iconst 0, 1) := by decide +kernel
theorem dX1_order_19 : decode cX1_order 19 = .ok (.istore_n 3, 1) := by decide +kernel
theorem dX1_order_20 : decode cX1_order 20 = .ok (.iload_n 3, 1) := by decide +kernel
theorem dX1_order_21 : decode cX1_order 21 = .ok (.bipush 6, 2) := by decide +kernel
theorem dX1_order_23 : decode cX1_order 23 = .ok (.if_icmp .ge 67, 3) := by decide +kernel
theorem dX1_order_26 : decode cX1_order 26 = .ok (.iconst 0, 1) := by decide +kernel
theorem dX1_order_27 : decode cX1_order 27 = .ok (.istore 4, 2) := by decide +kernel
theorem dX1_order_29 : decode cX1_order 29 = .ok (.iconst 0, 1) := by decide +kernel
theorem dX1_order_30 : decode cX1_order 30 = .ok (.istore 5, 2) := by decide +kernel
theorem dX1_order_32 : decode cX1_order 32 = .ok (.iload 5, 2) := by decide +kernel
theorem dX1_order_34 : decode cX1_order 34 = .ok (.bipush 6, 2) := by decide +kernel
theorem dX1_order_36 : decode cX1_order 36 = .ok (.if_icmp .ge 36, 3) := by decide +kernel
theorem dX1_order_39 : decode cX1_order 39 = .ok (.iload 5, 2) := by decide +kernel
theorem dX1_order_41 : decode cX1_order 41 = .ok (.iload_n 3, 1) := by decide +kernel
theorem dX1_order_42 : decode cX1_order 42 = .ok (.if_icmp .eq 20, 3) := by decide +kernel
theorem dX1_order_45 : decode cX1_order 45 = .ok (.aload_n 0, 1) := by decide +kernel
theorem dX1_order_46 : decode cX1_order 46 = .ok (.iload 5, 2) := by decide +kernel
theorem dX1_order_48 : decode cX1_order 48 = .ok (.iload_n 3, 1) := by decide +kernel
theorem dX1_order_49 : decode cX1_order 49 = .ok (.invokevirtual 105, 3) := by decide +kernel
theorem dX1_order_52 : decode cX1_order 52 = .ok (.ifCond .eq 10, 3) := by decide +kernel
theorem dX1_order_55 : decode cX1_order 55 = .ok (.iload 4, 2) := by decide +kernel
theorem dX1_order_57 : decode cX1_order 57 = .ok (.iconst 1, 1) := by decide +kernel
theorem dX1_order_58 : decode cX1_order 58 = .ok (.iadd, 1) := by decide +kernel
theorem dX1_order_59 : decode cX1_order 59 = .ok (.goto 5, 3) := by decide +kernel
theorem dX1_order_62 : decode cX1_order 62 = .ok (.iload 4, 2) := by decide +kernel
theorem dX1_order_64 : decode cX1_order 64 = .ok (.istore 4, 2) := by decide +kernel
theorem dX1_order_66 : decode cX1_order 66 = .ok (.iinc 5 1, 3) := by decide +kernel
theorem dX1_order_69 : decode cX1_order 69 = .ok (.goto (-37), 3) := by decide +kernel
theorem dX1_order_72 : decode cX1_order 72 = .ok (.iload 4, 2) := by decide +kernel
theorem dX1_order_74 : decode cX1_order 74 = .ok (.iload_n 1, 1) := by decide +kernel
theorem dX1_order_75 : decode cX1_order 75 = .ok (.if_icmp .ne 7, 3) := by decide +kernel
theorem dX1_order_78 : decode cX1_order 78 = .ok (.iload_n 3, 1) := by decide +kernel
theorem dX1_order_79 : decode cX1_order 79 = .ok (.goto 4, 3) := by decide +kernel
theorem dX1_order_82 : decode cX1_order 82 = .ok (.iload_n 2, 1) := by decide +kernel
theorem dX1_order_83 : decode cX1_order 83 = .ok (.istore_n 2, 1) := by decide +kernel
theorem dX1_order_84 : decode cX1_order 84 = .ok (.iinc 3 1, 3) := by decide +kernel
theorem dX1_order_87 : decode cX1_order 87 = .ok (.goto (-67), 3) := by decide +kernel
theorem dX1_order_90 : decode cX1_order 90 = .ok (.iload_n 2, 1) := by decide +kernel
theorem dX1_order_91 : decode cX1_order 91 = .ok (.ireturn, 1) := by decide +kernel
set_option maxRecDepth 20000 in
theorem ggX1_best_X1_way : GoodIn wsX1_best wsX1_way := goodIn_r _ [7] (by decide +kernel) (by decide +kernel)
set_option maxRecDepth 20000 in
theorem gX1_best_X1_way : GoodIn wsX1_best (va_wsS RX1 58 yX1_way wsX1_way) := goodIn_app (goodIn_of _ (by decide +kernel)) ggX1_best_X1_way
theorem dX1_best_0 : decode cX1_best 0 = .ok (.iconst (-1), 1) := by decide +kernel
theorem dX1_best_1 : decode cX1_best 1 = .ok (.istore_n 3, 1) := by decide +kernel
theorem dX1_best_2 : decode cX1_best 2 = .ok (.bipush 12, 2) := by decide +kernel
theorem dX1_best_4 : decode cX1_best 4 = .ok (.iload_n 1, 1) := by decide +kernel
theorem dX1_best_5 : decode cX1_best 5 = .ok (.imul, 1) := by decide +kernel
theorem dX1_best_6 : decode cX1_best 6 = .ok (.istore 4, 2) := by decide +kernel
theorem dX1_best_8 : decode cX1_best 8 = .ok (.iload 4, 2) := by decide +kernel
theorem dX1_best_10 : decode cX1_best 10 = .ok (.bipush 12, 2) := by decide +kernel
theorem dX1_best_12 : decode cX1_best 12 = .ok (.iload_n 1, 1) := by decide +kernel
theorem dX1_best_13 : decode cX1_best 13 = .ok (.imul, 1) := by decide +kernel
theorem dX1_best_14 : decode cX1_best 14 = .ok (.aload_n 0, 1) := by decide +kernel
theorem dX1_best_15 : decode cX1_best 15 = .ok (.getfield 17, 3) := by decide +kernel
theorem dX1_best_18 : decode cX1_best 18 = .ok (.iload_n 1, 1) := by decide +kernel
theorem dX1_best_19 : decode cX1_best 19 = .ok (.iaload, 1) := by decide +kernel
theorem dX1_best_20 : decode cX1_best 20 = .ok (.iadd, 1) := by decide +kernel
theorem dX1_best_21 : decode cX1_best 21 = .ok (.if_icmp .ge 63, 3) := by decide +kernel
theorem dX1_best_24 : decode cX1_best 24 = .ok (.aload_n 0, 1) := by decide +kernel
theorem dX1_best_25 : decode cX1_best 25 = .ok (.getfield 13, 3) := by decide +kernel
theorem dX1_best_28 : decode cX1_best 28 = .ok (.iload 4, 2) := by decide +kernel
theorem dX1_best_30 : decode cX1_best 30 = .ok (.baload, 1) := by decide +kernel
theorem dX1_best_31 : decode cX1_best 31 = .ok (.ifCond .ne 32, 3) := by decide +kernel
theorem dX1_best_34 : decode cX1_best 34 = .ok (.iload_n 3, 1) := by decide +kernel
theorem dX1_best_35 : decode cX1_best 35 = .ok (.ifCond .lt 24, 3) := by decide +kernel
theorem dX1_best_38 : decode cX1_best 38 = .ok (.iconst 0, 1) := by decide +kernel
theorem dX1_best_39 : decode cX1_best 39 = .ok (.aload_n 0, 1) := by decide +kernel
theorem dX1_best_40 : decode cX1_best 40 = .ok (.getfield 7, 3) := by decide +kernel
theorem dX1_best_43 : decode cX1_best 43 = .ok (.iload 4, 2) := by decide +kernel
theorem dX1_best_45 : decode cX1_best 45 = .ok (.daload, 1) := by decide +kernel
theorem dX1_best_46 : decode cX1_best 46 = .ok (.aload_n 0, 1) := by decide +kernel
theorem dX1_best_47 : decode cX1_best 47 = .ok (.getfield 7, 3) := by decide +kernel
theorem dX1_best_50 : decode cX1_best 50 = .ok (.iload_n 3, 1) := by decide +kernel
theorem dX1_best_51 : decode cX1_best 51 = .ok (.daload, 1) := by decide +kernel
theorem dX1_best_52 : decode cX1_best 52 = .ok (.invokestatic 58, 3) := by decide +kernel
theorem dX1_best_55 : decode cX1_best 55 = .ok (.iload_n 2, 1) := by decide +kernel
theorem dX1_best_56 : decode cX1_best 56 = .ok (.if_icmp .ne 7, 3) := by decide +kernel
theorem dX1_best_59 : decode cX1_best 59 = .ok (.iconst 1, 1) := by decide +kernel
theorem dX1_best_60 : decode cX1_best 60 = .ok (.goto 4, 3) := by decide +kernel
theorem dX1_best_63 : decode cX1_best 63 = .ok (.iconst 0, 1) := by decide +kernel
theorem dX1_best_64 : decode cX1_best 64 = .ok (.istore 5, 2) := by decide +kernel
theorem dX1_best_66 : decode cX1_best 66 = .ok (.iload 5, 2) := by decide +kernel
theorem dX1_best_68 : decode cX1_best 68 = .ok (.ifCond .eq 8, 3) := by decide +kernel
theorem dX1_best_71 : decode cX1_best 71 = .ok (.iload 4, 2) := by decide +kernel
theorem dX1_best_73 : decode cX1_best 73 = .ok (.goto 4, 3) := by decide +kernel
theorem dX1_best_76 : decode cX1_best 76 = .ok (.iload_n 3, 1) := by decide +kernel
theorem dX1_best_77 : decode cX1_best 77 = .ok (.istore_n 3, 1) := by decide +kernel
theorem dX1_best_78 : decode cX1_best 78 = .ok (.iinc 4 1, 3) := by decide +kernel
theorem dX1_best_81 : decode cX1_best 81 = .ok (.goto (-73), 3) := by decide +kernel
theorem dX1_best_84 : decode cX1_best 84 = .ok (.iload_n 3, 1) := by decide +kernel
theorem dX1_best_85 : decode cX1_best 85 = .ok (.ireturn, 1) := by decide +kernel
set_option maxRecDepth 20000 in
theorem ggX1_highest_X1_outside : GoodIn wsX1_highest wsX1_outside := goodIn_r _ [5] (by decide +kernel) (by decide +kernel)
set_option maxRecDepth 20000 in
theorem gX1_highest_X1_outside : GoodIn wsX1_highest (va_wsS RX1 62 yX1_outside wsX1_outside) := goodIn_app (goodIn_of _ (by decide +kernel)) ggX1_highest_X1_outside
set_option maxRecDepth 20000 in
theorem ggX1_highest_X1_best : GoodIn wsX1_highest wsX1_best := goodIn_r _ [9, 10, 11, 1, 12, 13, 4, 14, 20, 21, 22, 23, 24, 25, 26, 27, 28, 29] (by decide +kernel) (by decide +kernel)
set_option maxRecDepth 20000 in
theorem gX1_highest_X1_best : GoodIn wsX1_highest (wsV RX1 108 RX1 yX1_best wsX1_best) := goodIn_app (goodIn_of _ (by decide +kernel)) ggX1_highest_X1_best
set_option maxRecDepth 20000 in
theorem ggX1_highest_X1_throwing : GoodIn wsX1_highest wsX1_throwing := goodIn_r _ [18, 19, 20, 21, 22, 23, 24, 25, 26, 27, 28, 29] (by decide +kernel) (by decide +kernel)
set_option maxRecDepth 20000 in
theorem gX1_highest_X1_throwing : GoodIn wsX1_highest (wsV RX1 70 RX1 yX1_throwing wsX1_throwing) := goodIn_app (goodIn_of _ (by decide +kernel)) ggX1_highest_X1_throwing
theorem dX1_highest_0 : decode cX1_highest 0 = .ok (.iload_n 1, 1) := by decide +kernel
theorem dX1_highest_1 : decode cX1_highest 1 = .ok (.iconst 5, 1) := by decide +kernel
theorem dX1_highest_2 : decode cX1_highest 2 = .ok (.invokestatic 62, 3) := by decide +kernel
theorem dX1_highest_5 : decode cX1_highest 5 = .ok (.istore_n 2, 1) := by decide +kernel
theorem dX1_highest_6 : decode cX1_highest 6 = .ok (.iload_n 2, 1) := by decide +kernel
theorem dX1_highest_7 : decode cX1_highest 7 = .ok (.ifCond .eq 7, 3) := by decide +kernel
theorem dX1_highest_10 : decode cX1_highest 10 = .ok (.iconst (-1), 1) := by decide +kernel
theorem dX1_highest_11 : decode cX1_highest 11 = .ok (.goto 11, 3) := by decide +kernel
theorem dX1_highest_14 : decode cX1_highest 14 = .ok (.aload_n 0, 1) := by decide +kernel
theorem dX1_highest_15 : decode cX1_highest 15 = .ok (.iconst 2, 1) := by decide +kernel
theorem dX1_highest_16 : decode cX1_highest 16 = .ok (.iload_n 1, 1) := by decide +kernel
theorem dX1_highest_17 : decode cX1_highest 17 = .ok (.imul, 1) := by decide +kernel
theorem dX1_highest_18 : decode cX1_highest 18 = .ok (.iconst 4, 1) := by decide +kernel
theorem dX1_highest_19 : decode cX1_highest 19 = .ok (.invokevirtual 108, 3) := by decide +kernel
theorem dX1_highest_22 : decode cX1_highest 22 = .ok (.istore_n 3, 1) := by decide +kernel
theorem dX1_highest_23 : decode cX1_highest 23 = .ok (.aload_n 0, 1) := by decide +kernel
theorem dX1_highest_24 : decode cX1_highest 24 = .ok (.iload_n 2, 1) := by decide +kernel
theorem dX1_highest_25 : decode cX1_highest 25 = .ok (.iload_n 3, 1) := by decide +kernel
theorem dX1_highest_26 : decode cX1_highest 26 = .ok (.ifCond .ge 7, 3) := by decide +kernel
theorem dX1_highest_29 : decode cX1_highest 29 = .ok (.iconst 1, 1) := by decide +kernel
theorem dX1_highest_30 : decode cX1_highest 30 = .ok (.goto 4, 3) := by decide +kernel
theorem dX1_highest_33 : decode cX1_highest 33 = .ok (.iconst 0, 1) := by decide +kernel
theorem dX1_highest_34 : decode cX1_highest 34 = .ok (.iconst 0, 1) := by decide +kernel
theorem dX1_highest_35 : decode cX1_highest 35 = .ok (.invokevirtual 70, 3) := by decide +kernel
theorem dX1_highest_38 : decode cX1_highest 38 = .ok (.ifCond .eq 5, 3) := by decide +kernel
theorem dX1_highest_41 : decode cX1_highest 41 = .ok (.dconst 0, 1) := by decide +kernel
theorem dX1_highest_42 : decode cX1_highest 42 = .ok (.dreturn, 1) := by decide +kernel
theorem dX1_highest_43 : decode cX1_highest 43 = .ok (.aload_n 0, 1) := by decide +kernel
theorem dX1_highest_44 : decode cX1_highest 44 = .ok (.getfield 7, 3) := by decide +kernel
theorem dX1_highest_47 : decode cX1_highest 47 = .ok (.iload_n 3, 1) := by decide +kernel
theorem dX1_highest_48 : decode cX1_highest 48 = .ok (.daload, 1) := by decide +kernel
theorem dX1_highest_49 : decode cX1_highest 49 = .ok (.dreturn, 1) := by decide +kernel
set_option maxRecDepth 20000 in
theorem ggX1_calmest_X1_outside : GoodIn wsX1_calmest wsX1_outside := goodIn_r _ [5] (by decide +kernel) (by decide +kernel)
set_option maxRecDepth 20000 in
theorem gX1_calmest_X1_outside : GoodIn wsX1_calmest (va_wsS RX1 62 yX1_outside wsX1_outside) := goodIn_app (goodIn_of _ (by decide +kernel)) ggX1_calmest_X1_outside
set_option maxRecDepth 20000 in
theorem ggX1_calmest_X1_best : GoodIn wsX1_calmest wsX1_best := goodIn_r _ [9, 10, 11, 1, 12, 13, 4, 14, 20, 21, 22, 23, 24, 25, 26, 27, 28, 29] (by decide +kernel) (by decide +kernel)
set_option maxRecDepth 20000 in
theorem gX1_calmest_X1_best : GoodIn wsX1_calmest (wsV RX1 108 RX1 yX1_best wsX1_best) := goodIn_app (goodIn_of _ (by decide +kernel)) ggX1_calmest_X1_best
set_option maxRecDepth 20000 in
theorem ggX1_calmest_X1_throwing : GoodIn wsX1_calmest wsX1_throwing := goodIn_r _ [18, 19, 20, 21, 22, 23, 24, 25, 26, 27, 28, 29] (by decide +kernel) (by decide +kernel)
set_option maxRecDepth 20000 in
theorem gX1_calmest_X1_throwing : GoodIn wsX1_calmest (wsV RX1 70 RX1 yX1_throwing wsX1_throwing) := goodIn_app (goodIn_of _ (by decide +kernel)) ggX1_calmest_X1_throwing
theorem dX1_calmest_0 : decode cX1_calmest 0 = .ok (.iload_n 1, 1) := by decide +kernel
theorem dX1_calmest_1 : decode cX1_calmest 1 = .ok (.iconst 5, 1) := by decide +kernel
theorem dX1_calmest_2 : decode cX1_calmest 2 = .ok (.invokestatic 62, 3) := by decide +kernel
theorem dX1_calmest_5 : decode cX1_calmest 5 = .ok (.istore_n 2, 1) := by decide +kernel
theorem dX1_calmest_6 : decode cX1_calmest 6 = .ok (.iload_n 2, 1) := by decide +kernel
theorem dX1_calmest_7 : decode cX1_calmest 7 = .ok (.ifCond .eq 7, 3) := by decide +kernel
theorem dX1_calmest_10 : decode cX1_calmest 10 = .ok (.iconst (-1), 1) := by decide +kernel
theorem dX1_calmest_11 : decode cX1_calmest 11 = .ok (.goto 13, 3) := by decide +kernel
theorem dX1_calmest_14 : decode cX1_calmest 14 = .ok (.aload_n 0, 1) := by decide +kernel
theorem dX1_calmest_15 : decode cX1_calmest 15 = .ok (.iconst 2, 1) := by decide +kernel
theorem dX1_calmest_16 : decode cX1_calmest 16 = .ok (.iload_n 1, 1) := by decide +kernel
theorem dX1_calmest_17 : decode cX1_calmest 17 = .ok (.imul, 1) := by decide +kernel
theorem dX1_calmest_18 : decode cX1_calmest 18 = .ok (.iconst 1, 1) := by decide +kernel
theorem dX1_calmest_19 : decode cX1_calmest 19 = .ok (.iadd, 1) := by decide +kernel
theorem dX1_calmest_20 : decode cX1_calmest 20 = .ok (.iconst 1, 1) := by decide +kernel
theorem dX1_calmest_21 : decode cX1_calmest 21 = .ok (.invokevirtual 108, 3) := by decide +kernel
theorem dX1_calmest_24 : decode cX1_calmest 24 = .ok (.istore_n 3, 1) := by decide +kernel
theorem dX1_calmest_25 : decode cX1_calmest 25 = .ok (.aload_n 0, 1) := by decide +kernel
theorem dX1_calmest_26 : decode cX1_calmest 26 = .ok (.iload_n 2, 1) := by decide +kernel
theorem dX1_calmest_27 : decode cX1_calmest 27 = .ok (.iload_n 3, 1) := by decide +kernel
theorem dX1_calmest_28 : decode cX1_calmest 28 = .ok (.ifCond .ge 7, 3) := by decide +kernel
theorem dX1_calmest_31 : decode cX1_calmest 31 = .ok (.iconst 1, 1) := by decide +kernel
theorem dX1_calmest_32 : decode cX1_calmest 32 = .ok (.goto 4, 3) := by decide +kernel
theorem dX1_calmest_35 : decode cX1_calmest 35 = .ok (.iconst 0, 1) := by decide +kernel
theorem dX1_calmest_36 : decode cX1_calmest 36 = .ok (.iconst 0, 1) := by decide +kernel
theorem dX1_calmest_37 : decode cX1_calmest 37 = .ok (.invokevirtual 70, 3) := by decide +kernel
theorem dX1_calmest_40 : decode cX1_calmest 40 = .ok (.ifCond .eq 5, 3) := by decide +kernel
theorem dX1_calmest_43 : decode cX1_calmest 43 = .ok (.fconst 0, 1) := by decide +kernel
theorem dX1_calmest_44 : decode cX1_calmest 44 = .ok (.freturn, 1) := by decide +kernel
theorem dX1_calmest_45 : decode cX1_calmest 45 = .ok (.aload_n 0, 1) := by decide +kernel
theorem dX1_calmest_46 : decode cX1_calmest 46 = .ok (.getfield 7, 3) := by decide +kernel
theorem dX1_calmest_49 : decode cX1_calmest 49 = .ok (.iload_n 3, 1) := by decide +kernel
theorem dX1_calmest_50 : decode cX1_calmest 50 = .ok (.daload, 1) := by decide +kernel
theorem dX1_calmest_51 : decode cX1_calmest 51 = .ok (.d2f, 1) := by decide +kernel
theorem dX1_calmest_52 : decode cX1_calmest 52 = .ok (.freturn, 1) := by decide +kernel
set_option maxRecDepth 20000 in
theorem ggX1_same_X1_outside : GoodIn wsX1_same wsX1_outside := goodIn_r _ [7] (by decide +kernel) (by decide +kernel)
set_option maxRecDepth 20000 in
theorem gX1_same_X1_outside : GoodIn wsX1_same (va_wsS RX1 62 yX1_outside wsX1_outside) := goodIn_app (goodIn_of _ (by decide +kernel)) ggX1_same_X1_outside
set_option maxRecDepth 20000 in
theorem ggX1_same_X1_throwing : GoodIn wsX1_same wsX1_throwing := goodIn_r _ [11, 12, 16, 17, 18, 19, 20, 21, 22, 23, 24, 25] (by decide +kernel) (by decide +kernel)
set_option maxRecDepth 20000 in
theorem gX1_same_X1_throwing : GoodIn wsX1_same (wsV RX1 70 RX1 yX1_throwing wsX1_throwing) := goodIn_app (goodIn_of _ (by decide +kernel)) ggX1_same_X1_throwing
set_option maxRecDepth 20000 in
theorem ggX1_same_X1_way : GoodIn wsX1_same wsX1_way := goodIn_r _ [15] (by decide +kernel) (by decide +kernel)
set_option maxRecDepth 20000 in
theorem gX1_same_X1_way : GoodIn wsX1_same (va_wsS RX1 58 yX1_way wsX1_way) := goodIn_app (goodIn_of _ (by decide +kernel)) ggX1_same_X1_way
theorem dX1_same_0 : decode cX1_same 0 = .ok (.aload_n 0, 1) := by decide +kernel
theorem dX1_same_1 : decode cX1_same 1 = .ok (.iload_n 1, 1) := by decide +kernel
theorem dX1_same_2 : decode cX1_same 2 = .ok (.iconst 5, 1) := by decide +kernel
theorem dX1_same_3 : decode cX1_same 3 = .ok (.invokestatic 62, 3) := by decide +kernel
theorem dX1_same_6 : decode cX1_same 6 = .ok (.ifCond .ne 11, 3) := by decide +kernel
theorem dX1_same_9 : decode cX1_same 9 = .ok (.iload_n 2, 1) := by decide +kernel
theorem dX1_same_10 : decode cX1_same 10 = .ok (.iconst 5, 1) := by decide +kernel
theorem dX1_same_11 : decode cX1_same 11 = .ok (.invokestatic 62, 3) := by decide +kernel
theorem dX1_same_14 : decode cX1_same 14 = .ok (.ifCond .eq 7, 3) := by decide +kernel
theorem dX1_same_17 : decode cX1_same 17 = .ok (.iconst 1, 1) := by decide +kernel
theorem dX1_same_18 : decode cX1_same 18 = .ok (.goto 4, 3) := by decide +kernel
theorem dX1_same_21 : decode cX1_same 21 = .ok (.iconst 0, 1) := by decide +kernel
theorem dX1_same_22 : decode cX1_same 22 = .ok (.iconst 0, 1) := by decide +kernel
theorem dX1_same_23 : decode cX1_same 23 = .ok (.iconst 0, 1) := by decide +kernel
theorem dX1_same_24 : decode cX1_same 24 = .ok (.invokevirtual 70, 3) := by decide +kernel
theorem dX1_same_27 : decode cX1_same 27 = .ok (.ifCond .eq 5, 3) := by decide +kernel
theorem dX1_same_30 : decode cX1_same 30 = .ok (.iconst 0, 1) := by decide +kernel
theorem dX1_same_31 : decode cX1_same 31 = .ok (.ireturn, 1) := by decide +kernel
theorem dX1_same_32 : decode cX1_same 32 = .ok (.bipush 24, 2) := by decide +kernel
theorem dX1_same_34 : decode cX1_same 34 = .ok (.iload_n 1, 1) := by decide +kernel
theorem dX1_same_35 : decode cX1_same 35 = .ok (.imul, 1) := by decide +kernel
theorem dX1_same_36 : decode cX1_same 36 = .ok (.istore_n 3, 1) := by decide +kernel
theorem dX1_same_37 : decode cX1_same 37 = .ok (.bipush 24, 2) := by decide +kernel
theorem dX1_same_39 : decode cX1_same 39 = .ok (.iload_n 2, 1) := by decide +kernel
theorem dX1_same_40 : decode cX1_same 40 = .ok (.imul, 1) := by decide +kernel
theorem dX1_same_41 : decode cX1_same 41 = .ok (.istore 4, 2) := by decide +kernel
theorem dX1_same_43 : decode cX1_same 43 = .ok (.aload_n 0, 1) := by decide +kernel
theorem dX1_same_44 : decode cX1_same 44 = .ok (.getfield 17, 3) := by decide +kernel
theorem dX1_same_47 : decode cX1_same 47 = .ok (.iconst 2, 1) := by decide +kernel
theorem dX1_same_48 : decode cX1_same 48 = .ok (.iload_n 1, 1) := by decide +kernel
theorem dX1_same_49 : decode cX1_same 49 = .ok (.imul, 1) := by decide +kernel
theorem dX1_same_50 : decode cX1_same 50 = .ok (.iaload, 1) := by decide +kernel
theorem dX1_same_51 : decode cX1_same 51 = .ok (.aload_n 0, 1) := by decide +kernel
theorem dX1_same_52 : decode cX1_same 52 = .ok (.getfield 17, 3) := by decide +kernel
theorem dX1_same_55 : decode cX1_same 55 = .ok (.iconst 2, 1) := by decide +kernel
theorem dX1_same_56 : decode cX1_same 56 = .ok (.iload_n 2, 1) := by decide +kernel
theorem dX1_same_57 : decode cX1_same 57 = .ok (.imul, 1) := by decide +kernel
theorem dX1_same_58 : decode cX1_same 58 = .ok (.iaload, 1) := by decide +kernel
theorem dX1_same_59 : decode cX1_same 59 = .ok (.if_icmp .ne 7, 3) := by decide +kernel
theorem dX1_same_62 : decode cX1_same 62 = .ok (.iconst 2, 1) := by decide +kernel
theorem dX1_same_63 : decode cX1_same 63 = .ok (.goto 4, 3) := by decide +kernel
theorem dX1_same_66 : decode cX1_same 66 = .ok (.iconst 0, 1) := by decide +kernel
theorem dX1_same_67 : decode cX1_same 67 = .ok (.istore 5, 2) := by decide +kernel
theorem dX1_same_69 : decode cX1_same 69 = .ok (.iconst 0, 1) := by decide +kernel
theorem dX1_same_70 : decode cX1_same 70 = .ok (.istore 6, 2) := by decide +kernel
theorem dX1_same_72 : decode cX1_same 72 = .ok (.iload 6, 2) := by decide +kernel
theorem dX1_same_74 : decode cX1_same 74 = .ok (.aload_n 0, 1) := by decide +kernel
theorem dX1_same_75 : decode cX1_same 75 = .ok (.getfield 17, 3) := by decide +kernel
theorem dX1_same_78 : decode cX1_same 78 = .ok (.iconst 2, 1) := by decide +kernel
theorem dX1_same_79 : decode cX1_same 79 = .ok (.iload_n 1, 1) := by decide +kernel
theorem dX1_same_80 : decode cX1_same 80 = .ok (.imul, 1) := by decide +kernel
theorem dX1_same_81 : decode cX1_same 81 = .ok (.iaload, 1) := by decide +kernel
theorem dX1_same_82 : decode cX1_same 82 = .ok (.if_icmp .ge 123, 3) := by decide +kernel
theorem dX1_same_85 : decode cX1_same 85 = .ok (.iload 5, 2) := by decide +kernel
theorem dX1_same_87 : decode cX1_same 87 = .ok (.ifCond .le 118, 3) := by decide +kernel
theorem dX1_same_90 : decode cX1_same 90 = .ok (.aload_n 0, 1) := by decide +kernel
theorem dX1_same_91 : decode cX1_same 91 = .ok (.getfield 13, 3) := by decide +kernel
theorem dX1_same_94 : decode cX1_same 94 = .ok (.iload_n 3, 1) := by decide +kernel
theorem dX1_same_95 : decode cX1_same 95 = .ok (.iload 6, 2) := by decide +kernel
theorem dX1_same_97 : decode cX1_same 97 = .ok (.iadd, 1) := by decide +kernel
theorem dX1_same_98 : decode cX1_same 98 = .ok (.baload, 1) := by decide +kernel
theorem dX1_same_99 : decode cX1_same 99 = .ok (.ifCond .eq 20, 3) := by decide +kernel
theorem dX1_same_102 : decode cX1_same 102 = .ok (.aload_n 0, 1) := by decide +kernel
theorem dX1_same_103 : decode cX1_same 103 = .ok (.getfield 13, 3) := by decide +kernel
theorem dX1_same_106 : decode cX1_same 106 = .ok (.iload 4, 2) := by decide +kernel
theorem dX1_same_108 : decode cX1_same 108 = .ok (.iload 6, 2) := by decide +kernel
theorem dX1_same_110 : decode cX1_same 110 = .ok (.iadd, 1) := by decide +kernel
theorem dX1_same_111 : decode cX1_same 111 = .ok (.baload, 1) := by decide +kernel
theorem dX1_same_112 : decode cX1_same 112 = .ok (.ifCond .eq 7, 3) := by decide +kernel
theorem dX1_same_115 : decode cX1_same 115 = .ok (.iconst 1, 1) := by decide +kernel
theorem dX1_same_116 : decode cX1_same 116 = .ok (.goto 4, 3) := by decide +kernel
theorem dX1_same_119 : decode cX1_same 119 = .ok (.iconst 0, 1) := by decide +kernel
theorem dX1_same_120 : decode cX1_same 120 = .ok (.istore 7, 2) := by decide +kernel
theorem dX1_same_122 : decode cX1_same 122 = .ok (.aload_n 0, 1) := by decide +kernel
theorem dX1_same_123 : decode cX1_same 123 = .ok (.getfield 13, 3) := by decide +kernel
theorem dX1_same_126 : decode cX1_same 126 = .ok (.iload_n 3, 1) := by decide +kernel
theorem dX1_same_127 : decode cX1_same 127 = .ok (.iload 6, 2) := by decide +kernel
theorem dX1_same_129 : decode cX1_same 129 = .ok (.iadd, 1) := by decide +kernel
theorem dX1_same_130 : decode cX1_same 130 = .ok (.baload, 1) := by decide +kernel
theorem dX1_same_131 : decode cX1_same 131 = .ok (.ifCond .ne 16, 3) := by decide +kernel
theorem dX1_same_134 : decode cX1_same 134 = .ok (.aload_n 0, 1) := by decide +kernel
theorem dX1_same_135 : decode cX1_same 135 = .ok (.getfield 13, 3) := by decide +kernel
theorem dX1_same_138 : decode cX1_same 138 = .ok (.iload 4, 2) := by decide +kernel
theorem dX1_same_140 : decode cX1_same 140 = .ok (.iload 6, 2) := by decide +kernel
theorem dX1_same_142 : decode cX1_same 142 = .ok (.iadd, 1) := by decide +kernel
theorem dX1_same_143 : decode cX1_same 143 = .ok (.baload, 1) := by decide +kernel
theorem dX1_same_144 : decode cX1_same 144 = .ok (.ifCond .eq 7, 3) := by decide +kernel
theorem dX1_same_147 : decode cX1_same 147 = .ok (.iconst 1, 1) := by decide +kernel
theorem dX1_same_148 : decode cX1_same 148 = .ok (.goto 4, 3) := by decide +kernel
theorem dX1_same_151 : decode cX1_same 151 = .ok (.iconst 0, 1) := by decide +kernel
theorem dX1_same_152 : decode cX1_same 152 = .ok (.aload_n 0, 1) := by decide +kernel
theorem dX1_same_153 : decode cX1_same 153 = .ok (.getfield 7, 3) := by decide +kernel
theorem dX1_same_156 : decode cX1_same 156 = .ok (.iload_n 3, 1) := by decide +kernel
theorem dX1_same_157 : decode cX1_same 157 = .ok (.iload 6, 2) := by decide +kernel
theorem dX1_same_159 : decode cX1_same 159 = .ok (.iadd, 1) := by decide +kernel
theorem dX1_same_160 : decode cX1_same 160 = .ok (.daload, 1) := by decide +kernel
theorem dX1_same_161 : decode cX1_same 161 = .ok (.aload_n 0, 1) := by decide +kernel
theorem dX1_same_162 : decode cX1_same 162 = .ok (.getfield 7, 3) := by decide +kernel
theorem dX1_same_165 : decode cX1_same 165 = .ok (.iload 4, 2) := by decide +kernel
theorem dX1_same_167 : decode cX1_same 167 = .ok (.iload 6, 2) := by decide +kernel
theorem dX1_same_169 : decode cX1_same 169 = .ok (.iadd, 1) := by decide +kernel
theorem dX1_same_170 : decode cX1_same 170 = .ok (.daload, 1) := by decide +kernel
theorem dX1_same_171 : decode cX1_same 171 = .ok (.invokestatic 58, 3) := by decide +kernel
theorem dX1_same_174 : decode cX1_same 174 = .ok (.istore 8, 2) := by decide +kernel
theorem dX1_same_176 : decode cX1_same 176 = .ok (.iload 8, 2) := by decide +kernel
theorem dX1_same_178 : decode cX1_same 178 = .ok (.iconst 2, 1) := by decide +kernel
theorem dX1_same_179 : decode cX1_same 179 = .ok (.if_icmp .ne 8, 3) := by decide +kernel
theorem dX1_same_182 : decode cX1_same 182 = .ok (.iload 5, 2) := by decide +kernel
theorem dX1_same_184 : decode cX1_same 184 = .ok (.goto 13, 3) := by decide +kernel
theorem dX1_same_187 : decode cX1_same 187 = .ok (.iload 7, 2) := by decide +kernel
theorem dX1_same_189 : decode cX1_same 189 = .ok (.ifCond .eq 7, 3) := by decide +kernel
theorem dX1_same_192 : decode cX1_same 192 = .ok (.iconst 1, 1) := by decide +kernel
theorem dX1_same_193 : decode cX1_same 193 = .ok (.goto 4, 3) := by decide +kernel
theorem dX1_same_196 : decode cX1_same 196 = .ok (.iconst 0, 1) := by decide +kernel
theorem dX1_same_197 : decode cX1_same 197 = .ok (.istore 5, 2) := by decide +kernel
theorem dX1_same_199 : decode cX1_same 199 = .ok (.iinc 6 1, 3) := by decide +kernel
theorem dX1_same_202 : decode cX1_same 202 = .ok (.goto (-130), 3) := by decide +kernel
theorem dX1_same_205 : decode cX1_same 205 = .ok (.iload 5, 2) := by decide +kernel
theorem dX1_same_207 : decode cX1_same 207 = .ok (.ireturn, 1) := by decide +kernel
set_option maxRecDepth 20000 in
theorem ggX1_move_X1_latestWay : GoodIn wsX1_move wsX1_latestWay := goodIn_r _ [9, 10, 11, 12, 8, 13, 14, 15, 16, 17, 18, 19, 20, 21, 22, 23, 24, 25, 26, 27, 37, 38, 39, 40, 41, 42, 43, 44, 45, 46] (by decide +kernel) (by decide +kernel)
set_option maxRecDepth 20000 in
theorem gX1_move_X1_latestWay : GoodIn wsX1_move (wsV RX1 96 RX1 yX1_latestWay wsX1_latestWay) := goodIn_app (goodIn_of _ (by decide +kernel)) ggX1_move_X1_latestWay
set_option maxRecDepth 20000 in
theorem ggX1_move_X1_markWay : GoodIn wsX1_move wsX1_markWay := goodIn_r _ [31, 2, 3, 10, 11, 12, 8, 13, 14, 15, 16, 17, 18, 19, 20, 21, 22, 23, 24, 25, 26, 27, 37, 38, 39, 40, 41, 42, 43, 44, 45, 46] (by decide +kernel) (by decide +kernel)
set_option maxRecDepth 20000 in
theorem gX1_move_X1_markWay : GoodIn wsX1_move (wsV RX1 99 RX1 yX1_markWay wsX1_markWay) := goodIn_app (goodIn_of _ (by decide +kernel)) ggX1_move_X1_markWay
set_option maxRecDepth 20000 in
theorem ggX1_move_X1_latestOut : GoodIn wsX1_move wsX1_latestOut := goodIn_r _ [13, 14, 15, 16, 17, 18, 8, 19, 37, 38, 39, 40, 41, 42, 43, 44, 45, 46] (by decide +kernel) (by decide +kernel)
set_option maxRecDepth 20000 in
theorem gX1_move_X1_latestOut : GoodIn wsX1_move (wsV RX1 50 RX1 yX1_latestOut wsX1_latestOut) := goodIn_app (goodIn_of _ (by decide +kernel)) ggX1_move_X1_latestOut
set_option maxRecDepth 20000 in
theorem ggX1_move_X1_latestValue : GoodIn wsX1_move wsX1_latestValue := goodIn_r _ [23, 14, 24, 16, 17, 18, 8, 19, 37, 38, 39, 40, 41, 42, 43, 44, 45, 46] (by decide +kernel) (by decide +kernel)
set_option maxRecDepth 20000 in
theorem gX1_move_X1_latestValue : GoodIn wsX1_move (wsV RX1 54 RX1 yX1_latestValue wsX1_latestValue) := goodIn_app (goodIn_of _ (by decide +kernel)) ggX1_move_X1_latestValue
set_option maxRecDepth 20000 in
theorem ggX1_move_X1_way : GoodIn wsX1_move wsX1_way := goodIn_r _ [27] (by decide +kernel) (by decide +kernel)
set_option maxRecDepth 20000 in
theorem gX1_move_X1_way : GoodIn wsX1_move (va_wsS RX1 58 yX1_way wsX1_way) := goodIn_app (goodIn_of _ (by decide +kernel)) ggX1_move_X1_way
set_option maxRecDepth 20000 in
theorem ggX1_move_X1_throwing : GoodIn wsX1_move wsX1_throwing := goodIn_r _ [35, 36, 37, 38, 39, 40, 41, 42, 43, 44, 45, 46] (by decide +kernel) (by decide +kernel)
set_option maxRecDepth 20000 in
theorem gX1_move_X1_throwing : GoodIn wsX1_move (wsV RX1 70 RX1 yX1_throwing wsX1_throwing) := goodIn_app (goodIn_of _ (by decide +kernel)) ggX1_move_X1_throwing
theorem dX1_move_0 : decode cX1_move 0 = .ok (.aload_n 0, 1) := by decide +kernel
theorem dX1_move_1 : decode cX1_move 1 = .ok (.getfield 111, 3) := by decide +kernel
theorem dX1_move_4 : decode cX1_move 4 = .ok (.iload_n 1, 1) := by decide +kernel
theorem dX1_move_5 : decode cX1_move 5 = .ok (.if_icmp .ne 7, 3) := by decide +kernel
theorem dX1_move_8 : decode cX1_move 8 = .ok (.iconst 1, 1) := by decide +kernel
theorem dX1_move_9 : decode cX1_move 9 = .ok (.goto 4, 3) := by decide +kernel
theorem dX1_move_12 : decode cX1_move 12 = .ok (.iconst 0, 1) := by decide +kernel
theorem dX1_move_13 : decode cX1_move 13 = .ok (.istore_n 2, 1) := by decide +kernel
theorem dX1_move_14 : decode cX1_move 14 = .ok (.aload_n 0, 1) := by decide +kernel
theorem dX1_move_15 : decode cX1_move 15 = .ok (.iconst 0, 1) := by decide +kernel
theorem dX1_move_16 : decode cX1_move 16 = .ok (.iconst 2, 1) := by decide +kernel
theorem dX1_move_17 : decode cX1_move 17 = .ok (.invokevirtual 96, 3) := by decide +kernel
theorem dX1_move_20 : decode cX1_move 20 = .ok (.istore_n 3, 1) := by decide +kernel
theorem dX1_move_21 : decode cX1_move 21 = .ok (.aload_n 0, 1) := by decide +kernel
theorem dX1_move_22 : decode cX1_move 22 = .ok (.iconst 3, 1) := by decide +kernel
theorem dX1_move_23 : decode cX1_move 23 = .ok (.iconst 5, 1) := by decide +kernel
theorem dX1_move_24 : decode cX1_move 24 = .ok (.invokevirtual 99, 3) := by decide +kernel
theorem dX1_move_27 : decode cX1_move 27 = .ok (.istore 4, 2) := by decide +kernel
theorem dX1_move_29 : decode cX1_move 29 = .ok (.aload_n 0, 1) := by decide +kernel
theorem dX1_move_30 : decode cX1_move 30 = .ok (.iconst 0, 1) := by decide +kernel
theorem dX1_move_31 : decode cX1_move 31 = .ok (.iconst 0, 1) := by decide +kernel
theorem dX1_move_32 : decode cX1_move 32 = .ok (.invokevirtual 99, 3) := by decide +kernel
theorem dX1_move_35 : decode cX1_move 35 = .ok (.istore 5, 2) := by decide +kernel
theorem dX1_move_37 : decode cX1_move 37 = .ok (.aload_n 0, 1) := by decide +kernel
theorem dX1_move_38 : decode cX1_move 38 = .ok (.iconst 2, 1) := by decide +kernel
theorem dX1_move_39 : decode cX1_move 39 = .ok (.invokevirtual 50, 3) := by decide +kernel
theorem dX1_move_42 : decode cX1_move 42 = .ok (.ifCond .ne 12, 3) := by decide +kernel
theorem dX1_move_45 : decode cX1_move 45 = .ok (.aload_n 0, 1) := by decide +kernel
theorem dX1_move_46 : decode cX1_move 46 = .ok (.getfield 24, 3) := by decide +kernel
theorem dX1_move_49 : decode cX1_move 49 = .ok (.iconst 1, 1) := by decide +kernel
theorem dX1_move_50 : decode cX1_move 50 = .ok (.baload, 1) := by decide +kernel
theorem dX1_move_51 : decode cX1_move 51 = .ok (.ifCond .ne 7, 3) := by decide +kernel
theorem dX1_move_54 : decode cX1_move 54 = .ok (.iconst 1, 1) := by decide +kernel
theorem dX1_move_55 : decode cX1_move 55 = .ok (.goto 4, 3) := by decide +kernel
theorem dX1_move_58 : decode cX1_move 58 = .ok (.iconst 0, 1) := by decide +kernel
theorem dX1_move_59 : decode cX1_move 59 = .ok (.aload_n 0, 1) := by decide +kernel
theorem dX1_move_60 : decode cX1_move 60 = .ok (.iconst 2, 1) := by decide +kernel
theorem dX1_move_61 : decode cX1_move 61 = .ok (.invokevirtual 54, 3) := by decide +kernel
theorem dX1_move_64 : decode cX1_move 64 = .ok (.aload_n 0, 1) := by decide +kernel
theorem dX1_move_65 : decode cX1_move 65 = .ok (.getfield 21, 3) := by decide +kernel
theorem dX1_move_68 : decode cX1_move 68 = .ok (.iconst 1, 1) := by decide +kernel
theorem dX1_move_69 : decode cX1_move 69 = .ok (.daload, 1) := by decide +kernel
theorem dX1_move_70 : decode cX1_move 70 = .ok (.invokestatic 58, 3) := by decide +kernel
theorem dX1_move_73 : decode cX1_move 73 = .ok (.istore 6, 2) := by decide +kernel
theorem dX1_move_75 : decode cX1_move 75 = .ok (.iload_n 1, 1) := by decide +kernel
theorem dX1_move_76 : decode cX1_move 76 = .ok (.ifCond .eq 16, 3) := by decide +kernel
theorem dX1_move_79 : decode cX1_move 79 = .ok (.iload_n 3, 1) := by decide +kernel
theorem dX1_move_80 : decode cX1_move 80 = .ok (.iconst 4, 1) := by decide +kernel
theorem dX1_move_81 : decode cX1_move 81 = .ok (.if_icmp .eq 7, 3) := by decide +kernel
theorem dX1_move_84 : decode cX1_move 84 = .ok (.iconst 1, 1) := by decide +kernel
theorem dX1_move_85 : decode cX1_move 85 = .ok (.goto 18, 3) := by decide +kernel
theorem dX1_move_88 : decode cX1_move 88 = .ok (.iconst 0, 1) := by decide +kernel
theorem dX1_move_89 : decode cX1_move 89 = .ok (.goto 14, 3) := by decide +kernel
theorem dX1_move_92 : decode cX1_move 92 = .ok (.iload 5, 2) := by decide +kernel
theorem dX1_move_94 : decode cX1_move 94 = .ok (.iconst 4, 1) := by decide +kernel
theorem dX1_move_95 : decode cX1_move 95 = .ok (.if_icmp .ne 7, 3) := by decide +kernel
theorem dX1_move_98 : decode cX1_move 98 = .ok (.iconst 1, 1) := by decide +kernel
theorem dX1_move_99 : decode cX1_move 99 = .ok (.goto 4, 3) := by decide +kernel
theorem dX1_move_102 : decode cX1_move 102 = .ok (.iconst 0, 1) := by decide +kernel
theorem dX1_move_103 : decode cX1_move 103 = .ok (.istore 7, 2) := by decide +kernel
theorem dX1_move_105 : decode cX1_move 105 = .ok (.iload_n 1, 1) := by decide +kernel
theorem dX1_move_106 : decode cX1_move 106 = .ok (.ifCond .eq 26, 3) := by decide +kernel
theorem dX1_move_109 : decode cX1_move 109 = .ok (.aload_n 0, 1) := by decide +kernel
theorem dX1_move_110 : decode cX1_move 110 = .ok (.getfield 24, 3) := by decide +kernel
theorem dX1_move_113 : decode cX1_move 113 = .ok (.iconst 5, 1) := by decide +kernel
theorem dX1_move_114 : decode cX1_move 114 = .ok (.baload, 1) := by decide +kernel
theorem dX1_move_115 : decode cX1_move 115 = .ok (.ifCond .eq 13, 3) := by decide +kernel
theorem dX1_move_118 : decode cX1_move 118 = .ok (.iload 4, 2) := by decide +kernel
theorem dX1_move_120 : decode cX1_move 120 = .ok (.iconst 1, 1) := by decide +kernel
theorem dX1_move_121 : decode cX1_move 121 = .ok (.if_icmp .eq 7, 3) := by decide +kernel
theorem dX1_move_124 : decode cX1_move 124 = .ok (.iconst 1, 1) := by decide +kernel
theorem dX1_move_125 : decode cX1_move 125 = .ok (.goto 18, 3) := by decide +kernel
theorem dX1_move_128 : decode cX1_move 128 = .ok (.iconst 0, 1) := by decide +kernel
theorem dX1_move_129 : decode cX1_move 129 = .ok (.goto 14, 3) := by decide +kernel
theorem dX1_move_132 : decode cX1_move 132 = .ok (.iload 6, 2) := by decide +kernel
theorem dX1_move_134 : decode cX1_move 134 = .ok (.iconst 4, 1) := by decide +kernel
theorem dX1_move_135 : decode cX1_move 135 = .ok (.if_icmp .ge 7, 3) := by decide +kernel
theorem dX1_move_138 : decode cX1_move 138 = .ok (.iconst 1, 1) := by decide +kernel
theorem dX1_move_139 : decode cX1_move 139 = .ok (.goto 4, 3) := by decide +kernel
theorem dX1_move_142 : decode cX1_move 142 = .ok (.iconst 0, 1) := by decide +kernel
theorem dX1_move_143 : decode cX1_move 143 = .ok (.istore 8, 2) := by decide +kernel
theorem dX1_move_145 : decode cX1_move 145 = .ok (.aload_n 0, 1) := by decide +kernel
theorem dX1_move_146 : decode cX1_move 146 = .ok (.iload_n 2, 1) := by decide +kernel
theorem dX1_move_147 : decode cX1_move 147 = .ok (.iload 7, 2) := by decide +kernel
theorem dX1_move_149 : decode cX1_move 149 = .ok (.iload 8, 2) := by decide +kernel
theorem dX1_move_151 : decode cX1_move 151 = .ok (.invokevirtual 70, 3) := by decide +kernel
theorem dX1_move_154 : decode cX1_move 154 = .ok (.ifCond .eq 5, 3) := by decide +kernel
theorem dX1_move_157 : decode cX1_move 157 = .ok (.iconst 0, 1) := by decide +kernel
theorem dX1_move_158 : decode cX1_move 158 = .ok (.ireturn, 1) := by decide +kernel
theorem dX1_move_159 : decode cX1_move 159 = .ok (.aload_n 0, 1) := by decide +kernel
theorem dX1_move_160 : decode cX1_move 160 = .ok (.iload_n 1, 1) := by decide +kernel
theorem dX1_move_161 : decode cX1_move 161 = .ok (.putfield 111, 3) := by decide +kernel
theorem dX1_move_164 : decode cX1_move 164 = .ok (.aload_n 0, 1) := by decide +kernel
theorem dX1_move_165 : decode cX1_move 165 = .ok (.dup, 1) := by decide +kernel
theorem dX1_move_166 : decode cX1_move 166 = .ok (.getfield 115, 3) := by decide +kernel
theorem dX1_move_169 : decode cX1_move 169 = .ok (.iconst 1, 1) := by decide +kernel
theorem dX1_move_170 : decode cX1_move 170 = .ok (.iadd, 1) := by decide +kernel
theorem dX1_move_171 : decode cX1_move 171 = .ok (.putfield 115, 3) := by decide +kernel
theorem dX1_move_174 : decode cX1_move 174 = .ok (.aload_n 0, 1) := by decide +kernel
theorem dX1_move_175 : decode cX1_move 175 = .ok (.getfield 115, 3) := by decide +kernel
theorem dX1_move_178 : decode cX1_move 178 = .ok (.ireturn, 1) := by decide +kernel
set_option maxRecDepth 20000 in
theorem ggX1_size_X1_outside : GoodIn wsX1_size wsX1_outside := goodIn_r _ [5] (by decide +kernel) (by decide +kernel)
set_option maxRecDepth 20000 in
theorem gX1_size_X1_outside : GoodIn wsX1_size (va_wsS RX1 62 yX1_outside wsX1_outside) := goodIn_app (goodIn_of _ (by decide +kernel)) ggX1_size_X1_outside
set_option maxRecDepth 20000 in
theorem ggX1_size_X1_throwing : GoodIn wsX1_size wsX1_throwing := goodIn_r _ [9, 10, 11, 12, 13, 14, 15, 16, 17, 18, 19, 20] (by decide +kernel) (by decide +kernel)
set_option maxRecDepth 20000 in
theorem gX1_size_X1_throwing : GoodIn wsX1_size (wsV RX1 70 RX1 yX1_throwing wsX1_throwing) := goodIn_app (goodIn_of _ (by decide +kernel)) ggX1_size_X1_throwing
theorem dX1_size_0 : decode cX1_size 0 = .ok (.aload_n 0, 1) := by decide +kernel
theorem dX1_size_1 : decode cX1_size 1 = .ok (.iload_n 1, 1) := by decide +kernel
theorem dX1_size_2 : decode cX1_size 2 = .ok (.iconst 5, 1) := by decide +kernel
theorem dX1_size_3 : decode cX1_size 3 = .ok (.invokestatic 62, 3) := by decide +kernel
theorem dX1_size_6 : decode cX1_size 6 = .ok (.ifCond .ne 11, 3) := by decide +kernel
theorem dX1_size_9 : decode cX1_size 9 = .ok (.iload_n 2, 1) := by decide +kernel
theorem dX1_size_10 : decode cX1_size 10 = .ok (.iconst 1, 1) := by decide +kernel
theorem dX1_size_11 : decode cX1_size 11 = .ok (.invokestatic 62, 3) := by decide +kernel
theorem dX1_size_14 : decode cX1_size 14 = .ok (.ifCond .eq 7, 3) := by decide +kernel
theorem dX1_size_17 : decode cX1_size 17 = .ok (.iconst 1, 1) := by decide +kernel
theorem dX1_size_18 : decode cX1_size 18 = .ok (.goto 4, 3) := by decide +kernel
theorem dX1_size_21 : decode cX1_size 21 = .ok (.iconst 0, 1) := by decide +kernel
theorem dX1_size_22 : decode cX1_size 22 = .ok (.iconst 0, 1) := by decide +kernel
theorem dX1_size_23 : decode cX1_size 23 = .ok (.iconst 0, 1) := by decide +kernel
theorem dX1_size_24 : decode cX1_size 24 = .ok (.invokevirtual 70, 3) := by decide +kernel
theorem dX1_size_27 : decode cX1_size 27 = .ok (.ifCond .eq 5, 3) := by decide +kernel
theorem dX1_size_30 : decode cX1_size 30 = .ok (.iconst 0, 1) := by decide +kernel
theorem dX1_size_31 : decode cX1_size 31 = .ok (.ireturn, 1) := by decide +kernel
theorem dX1_size_32 : decode cX1_size 32 = .ok (.aload_n 0, 1) := by decide +kernel
theorem dX1_size_33 : decode cX1_size 33 = .ok (.getfield 17, 3) := by decide +kernel
theorem dX1_size_36 : decode cX1_size 36 = .ok (.iconst 2, 1) := by decide +kernel
theorem dX1_size_37 : decode cX1_size 37 = .ok (.iload_n 1, 1) := by decide +kernel
theorem dX1_size_38 : decode cX1_size 38 = .ok (.imul, 1) := by decide +kernel
theorem dX1_size_39 : decode cX1_size 39 = .ok (.iload_n 2, 1) := by decide +kernel
theorem dX1_size_40 : decode cX1_size 40 = .ok (.iadd, 1) := by decide +kernel
theorem dX1_size_41 : decode cX1_size 41 = .ok (.iaload, 1) := by decide +kernel
theorem dX1_size_42 : decode cX1_size 42 = .ok (.ireturn, 1) := by decide +kernel
theorem dJ9_min_7cf53_0 : decode cJ9_min_7cf53 0 = .ok (.iload_n 0, 1) := by decide +kernel
theorem dJ9_min_7cf53_1 : decode cJ9_min_7cf53 1 = .ok (.iload_n 1, 1) := by decide +kernel
theorem dJ9_min_7cf53_2 : decode cJ9_min_7cf53 2 = .ok (.if_icmp .gt 7, 3) := by decide +kernel
theorem dJ9_min_7cf53_5 : decode cJ9_min_7cf53 5 = .ok (.iload_n 0, 1) := by decide +kernel
theorem dJ9_min_7cf53_6 : decode cJ9_min_7cf53 6 = .ok (.goto 4, 3) := by decide +kernel
theorem dJ9_min_7cf53_9 : decode cJ9_min_7cf53 9 = .ok (.iload_n 1, 1) := by decide +kernel
theorem dJ9_min_7cf53_10 : decode cJ9_min_7cf53 10 = .ok (.ireturn, 1) := by decide +kernel
set_option maxRecDepth 20000 in
theorem ggL_level_X0_level : GoodIn wsL_level wsX0_level := goodIn_ca (goodIn_ca (goodIn_r _ [7, 8, 9, 6, 10, 11, 12, 13, 14, 15, 16, 17, 18, 19, 20, 21, 22, 23, 24, 25, 26, 27, 28, 29, 30, 31, 32, 33, 34, 35, 36, 37, 38, 39, 40, 41, 42, 43, 44, 45] (by decide +kernel) (by decide +kernel)) (goodIn_sub (fun _ h => List.mem_cons_of_mem _ (List.mem_append_left _ (List.mem_append_right _ h))) (by decide +kernel))) (goodIn_sub (fun _ h => List.mem_cons_of_mem _ (List.mem_append_right _ h)) (by decide +kernel))
set_option maxRecDepth 20000 in
theorem gL_level_X0_level : GoodIn wsL_level (wsV RL 7 RX0 yX0_level wsX0_level) := goodIn_app (goodIn_of _ (by decide +kernel)) ggL_level_X0_level
theorem dL_level_0 : decode cL_level 0 = .ok (.aload 4, 2) := by decide +kernel
theorem dL_level_2 : decode cL_level 2 = .ok (.iconst 0, 1) := by decide +kernel
theorem dL_level_3 : decode cL_level 3 = .ok (.aload_n 0, 1) := by decide +kernel
theorem dL_level_4 : decode cL_level 4 = .ok (.iload_n 1, 1) := by decide +kernel
theorem dL_level_5 : decode cL_level 5 = .ok (.dload_n 2, 1) := by decide +kernel
theorem dL_level_6 : decode cL_level 6 = .ok (.invokevirtual 7, 3) := by decide +kernel
theorem dL_level_9 : decode cL_level 9 = .ok (.i2l, 1) := by decide +kernel
theorem dL_level_10 : decode cL_level 10 = .ok (.lastore, 1) := by decide +kernel
theorem dL_level_11 : decode cL_level 11 = .ok (.goto 11, 3) := by decide +kernel
theorem dL_level_14 : decode cL_level 14 = .ok (.astore 5, 2) := by decide +kernel
theorem dL_level_16 : decode cL_level 16 = .ok (.iconst 1, 1) := by decide +kernel
theorem dL_level_17 : decode cL_level 17 = .ok (.ireturn, 1) := by decide +kernel
theorem dL_level_18 : decode cL_level 18 = .ok (.astore 5, 2) := by decide +kernel
theorem dL_level_20 : decode cL_level 20 = .ok (.iconst 2, 1) := by decide +kernel
theorem dL_level_21 : decode cL_level 21 = .ok (.ireturn, 1) := by decide +kernel
theorem dL_level_22 : decode cL_level 22 = .ok (.iconst 0, 1) := by decide +kernel
theorem dL_level_23 : decode cL_level 23 = .ok (.ireturn, 1) := by decide +kernel
set_option maxRecDepth 20000 in
theorem ggL_wind_X0_wind : GoodIn wsL_wind wsX0_wind := goodIn_ca (goodIn_ca (goodIn_r _ [7, 8, 9, 6, 10, 11, 12, 13, 14, 15, 16, 17, 18, 19, 20, 21, 22, 23, 24, 25, 26, 27, 28, 29, 30, 31, 32, 33, 34, 35, 36, 37, 38, 39, 40, 41, 42, 43, 44] (by decide +kernel) (by decide +kernel)) (goodIn_sub (fun _ h => List.mem_cons_of_mem _ (List.mem_append_left _ (List.mem_append_right _ h))) (by decide +kernel))) (goodIn_sub (fun _ h => List.mem_cons_of_mem _ (List.mem_append_right _ h)) (by decide +kernel))
set_option maxRecDepth 20000 in
theorem gL_wind_X0_wind : GoodIn wsL_wind (wsV RL 17 RX0 yX0_wind wsX0_wind) := goodIn_app (goodIn_of _ (by decide +kernel)) ggL_wind_X0_wind
theorem dL_wind_0 : decode cL_wind 0 = .ok (.aload_n 3, 1) := by decide +kernel
theorem dL_wind_1 : decode cL_wind 1 = .ok (.iconst 0, 1) := by decide +kernel
theorem dL_wind_2 : decode cL_wind 2 = .ok (.aload_n 0, 1) := by decide +kernel
theorem dL_wind_3 : decode cL_wind 3 = .ok (.iload_n 1, 1) := by decide +kernel
theorem dL_wind_4 : decode cL_wind 4 = .ok (.fload_n 2, 1) := by decide +kernel
theorem dL_wind_5 : decode cL_wind 5 = .ok (.invokevirtual 17, 3) := by decide +kernel
theorem dL_wind_8 : decode cL_wind 8 = .ok (.i2l, 1) := by decide +kernel
theorem dL_wind_9 : decode cL_wind 9 = .ok (.lastore, 1) := by decide +kernel
theorem dL_wind_10 : decode cL_wind 10 = .ok (.goto 11, 3) := by decide +kernel
theorem dL_wind_13 : decode cL_wind 13 = .ok (.astore 4, 2) := by decide +kernel
theorem dL_wind_15 : decode cL_wind 15 = .ok (.iconst 1, 1) := by decide +kernel
theorem dL_wind_16 : decode cL_wind 16 = .ok (.ireturn, 1) := by decide +kernel
theorem dL_wind_17 : decode cL_wind 17 = .ok (.astore 4, 2) := by decide +kernel
theorem dL_wind_19 : decode cL_wind 19 = .ok (.iconst 2, 1) := by decide +kernel
theorem dL_wind_20 : decode cL_wind 20 = .ok (.ireturn, 1) := by decide +kernel
theorem dL_wind_21 : decode cL_wind 21 = .ok (.iconst 0, 1) := by decide +kernel
theorem dL_wind_22 : decode cL_wind 22 = .ok (.ireturn, 1) := by decide +kernel
set_option maxRecDepth 20000 in
theorem ggL_out_X0_out : GoodIn wsL_out wsX0_out := goodIn_ca (goodIn_ca (goodIn_r _ [7, 8, 9, 6, 10, 11, 12, 13, 14, 15, 16, 17, 18, 19, 20, 21, 22, 23, 24, 25, 26, 27, 28, 29, 30, 31, 32, 33, 34, 35, 36, 37, 38, 39, 40, 41, 42] (by decide +kernel) (by decide +kernel)) (goodIn_sub (fun _ h => List.mem_cons_of_mem _ (List.mem_append_left _ (List.mem_append_right _ h))) (by decide +kernel))) (goodIn_sub (fun _ h => List.mem_cons_of_mem _ (List.mem_append_right _ h)) (by decide +kernel))
set_option maxRecDepth 20000 in
theorem gL_out_X0_out : GoodIn wsL_out (wsV RL 21 RX0 yX0_out wsX0_out) := goodIn_app (goodIn_of _ (by decide +kernel)) ggL_out_X0_out
theorem dL_out_0 : decode cL_out 0 = .ok (.aload_n 3, 1) := by decide +kernel
theorem dL_out_1 : decode cL_out 1 = .ok (.iconst 0, 1) := by decide +kernel
theorem dL_out_2 : decode cL_out 2 = .ok (.aload_n 0, 1) := by decide +kernel
theorem dL_out_3 : decode cL_out 3 = .ok (.iload_n 1, 1) := by decide +kernel
theorem dL_out_4 : decode cL_out 4 = .ok (.iload_n 2, 1) := by decide +kernel
theorem dL_out_5 : decode cL_out 5 = .ok (.invokevirtual 21, 3) := by decide +kernel
theorem dL_out_8 : decode cL_out 8 = .ok (.i2l, 1) := by decide +kernel
theorem dL_out_9 : decode cL_out 9 = .ok (.lastore, 1) := by decide +kernel
theorem dL_out_10 : decode cL_out 10 = .ok (.goto 11, 3) := by decide +kernel
theorem dL_out_13 : decode cL_out 13 = .ok (.astore 4, 2) := by decide +kernel
theorem dL_out_15 : decode cL_out 15 = .ok (.iconst 1, 1) := by decide +kernel
theorem dL_out_16 : decode cL_out 16 = .ok (.ireturn, 1) := by decide +kernel
theorem dL_out_17 : decode cL_out 17 = .ok (.astore 4, 2) := by decide +kernel
theorem dL_out_19 : decode cL_out 19 = .ok (.iconst 2, 1) := by decide +kernel
theorem dL_out_20 : decode cL_out 20 = .ok (.ireturn, 1) := by decide +kernel
theorem dL_out_21 : decode cL_out 21 = .ok (.iconst 0, 1) := by decide +kernel
theorem dL_out_22 : decode cL_out 22 = .ok (.ireturn, 1) := by decide +kernel
set_option maxRecDepth 20000 in
theorem ggL_clear_X0_clear : GoodIn wsL_clear wsX0_clear := goodIn_ca (goodIn_r _ [6, 7, 8, 5, 9, 10, 11, 12, 13, 14, 15, 16, 17, 18, 19, 20, 21, 22, 23, 24] (by decide +kernel) (by decide +kernel)) (goodIn_sub (fun _ h => List.mem_cons_of_mem _ (List.mem_append_right _ h)) (by decide +kernel))
set_option maxRecDepth 20000 in
theorem gL_clear_X0_clear : GoodIn wsL_clear (wsV RL 25 RX0 yX0_clear wsX0_clear) := goodIn_app (goodIn_of _ (by decide +kernel)) ggL_clear_X0_clear
theorem dL_clear_0 : decode cL_clear 0 = .ok (.aload_n 2, 1) := by decide +kernel
theorem dL_clear_1 : decode cL_clear 1 = .ok (.iconst 0, 1) := by decide +kernel
theorem dL_clear_2 : decode cL_clear 2 = .ok (.aload_n 0, 1) := by decide +kernel
theorem dL_clear_3 : decode cL_clear 3 = .ok (.iload_n 1, 1) := by decide +kernel
theorem dL_clear_4 : decode cL_clear 4 = .ok (.invokevirtual 25, 3) := by decide +kernel
theorem dL_clear_7 : decode cL_clear 7 = .ok (.i2l, 1) := by decide +kernel
theorem dL_clear_8 : decode cL_clear 8 = .ok (.lastore, 1) := by decide +kernel
theorem dL_clear_9 : decode cL_clear 9 = .ok (.goto 6, 3) := by decide +kernel
theorem dL_clear_12 : decode cL_clear 12 = .ok (.astore_n 3, 1) := by decide +kernel
theorem dL_clear_13 : decode cL_clear 13 = .ok (.iconst 1, 1) := by decide +kernel
theorem dL_clear_14 : decode cL_clear 14 = .ok (.ireturn, 1) := by decide +kernel
theorem dL_clear_15 : decode cL_clear 15 = .ok (.iconst 0, 1) := by decide +kernel
theorem dL_clear_16 : decode cL_clear 16 = .ok (.ireturn, 1) := by decide +kernel
set_option maxRecDepth 20000 in
theorem ggL_mark_X0_mark : GoodIn wsL_mark wsX0_mark := goodIn_ca (goodIn_r _ [6, 7, 8, 9, 10, 5, 11, 12, 13, 14, 15, 16, 17, 18, 19, 20, 21, 22, 23, 24, 25, 26, 27, 28, 29, 30] (by decide +kernel) (by decide +kernel)) (goodIn_sub (fun _ h => List.mem_cons_of_mem _ (List.mem_append_right _ h)) (by decide +kernel))
set_option maxRecDepth 20000 in
theorem gL_mark_X0_mark : GoodIn wsL_mark (wsV RL 29 RX0 yX0_mark wsX0_mark) := goodIn_app (goodIn_of _ (by decide +kernel)) ggL_mark_X0_mark
theorem dL_mark_0 : decode cL_mark 0 = .ok (.aload 5, 2) := by decide +kernel
theorem dL_mark_2 : decode cL_mark 2 = .ok (.iconst 0, 1) := by decide +kernel
theorem dL_mark_3 : decode cL_mark 3 = .ok (.aload_n 0, 1) := by decide +kernel
theorem dL_mark_4 : decode cL_mark 4 = .ok (.iload_n 1, 1) := by decide +kernel
theorem dL_mark_5 : decode cL_mark 5 = .ok (.iload_n 2, 1) := by decide +kernel
theorem dL_mark_6 : decode cL_mark 6 = .ok (.dload_n 3, 1) := by decide +kernel
theorem dL_mark_7 : decode cL_mark 7 = .ok (.invokevirtual 29, 3) := by decide +kernel
theorem dL_mark_10 : decode cL_mark 10 = .ok (.ifCond .eq 7, 3) := by decide +kernel
theorem dL_mark_13 : decode cL_mark 13 = .ok (.lconst 1, 1) := by decide +kernel
theorem dL_mark_14 : decode cL_mark 14 = .ok (.goto 4, 3) := by decide +kernel
theorem dL_mark_17 : decode cL_mark 17 = .ok (.lconst 0, 1) := by decide +kernel
theorem dL_mark_18 : decode cL_mark 18 = .ok (.lastore, 1) := by decide +kernel
theorem dL_mark_19 : decode cL_mark 19 = .ok (.goto 7, 3) := by decide +kernel
theorem dL_mark_22 : decode cL_mark 22 = .ok (.astore 6, 2) := by decide +kernel
theorem dL_mark_24 : decode cL_mark 24 = .ok (.iconst 1, 1) := by decide +kernel
theorem dL_mark_25 : decode cL_mark 25 = .ok (.ireturn, 1) := by decide +kernel
theorem dL_mark_26 : decode cL_mark 26 = .ok (.iconst 0, 1) := by decide +kernel
theorem dL_mark_27 : decode cL_mark 27 = .ok (.ireturn, 1) := by decide +kernel
set_option maxRecDepth 20000 in
theorem ggL_gale_X0_gale : GoodIn wsL_gale wsX0_gale := goodIn_ca (goodIn_r _ [6, 7, 8, 5, 9, 10, 11, 12, 13, 14, 15, 16, 17, 18, 19, 20, 21, 22, 23, 24, 25, 26, 27, 28, 29] (by decide +kernel) (by decide +kernel)) (goodIn_sub (fun _ h => List.mem_cons_of_mem _ (List.mem_append_right _ h)) (by decide +kernel))
set_option maxRecDepth 20000 in
theorem gL_gale_X0_gale : GoodIn wsL_gale (wsV RL 33 RX0 yX0_gale wsX0_gale) := goodIn_app (goodIn_of _ (by decide +kernel)) ggL_gale_X0_gale
theorem dL_gale_0 : decode cL_gale 0 = .ok (.aload_n 3, 1) := by decide +kernel
theorem dL_gale_1 : decode cL_gale 1 = .ok (.iconst 0, 1) := by decide +kernel
theorem dL_gale_2 : decode cL_gale 2 = .ok (.aload_n 0, 1) := by decide +kernel
theorem dL_gale_3 : decode cL_gale 3 = .ok (.iload_n 1, 1) := by decide +kernel
theorem dL_gale_4 : decode cL_gale 4 = .ok (.fload_n 2, 1) := by decide +kernel
theorem dL_gale_5 : decode cL_gale 5 = .ok (.invokevirtual 33, 3) := by decide +kernel
theorem dL_gale_8 : decode cL_gale 8 = .ok (.ifCond .eq 7, 3) := by decide +kernel
theorem dL_gale_11 : decode cL_gale 11 = .ok (.lconst 1, 1) := by decide +kernel
theorem dL_gale_12 : decode cL_gale 12 = .ok (.goto 4, 3) := by decide +kernel
theorem dL_gale_15 : decode cL_gale 15 = .ok (.lconst 0, 1) := by decide +kernel
theorem dL_gale_16 : decode cL_gale 16 = .ok (.lastore, 1) := by decide +kernel
theorem dL_gale_17 : decode cL_gale 17 = .ok (.goto 7, 3) := by decide +kernel
theorem dL_gale_20 : decode cL_gale 20 = .ok (.astore 4, 2) := by decide +kernel
theorem dL_gale_22 : decode cL_gale 22 = .ok (.iconst 1, 1) := by decide +kernel
theorem dL_gale_23 : decode cL_gale 23 = .ok (.ireturn, 1) := by decide +kernel
theorem dL_gale_24 : decode cL_gale 24 = .ok (.iconst 0, 1) := by decide +kernel
theorem dL_gale_25 : decode cL_gale 25 = .ok (.ireturn, 1) := by decide +kernel
set_option maxRecDepth 20000 in
theorem ggL_lift_X0_lift : GoodIn wsL_lift wsX0_lift := goodIn_ca (goodIn_r _ [6, 7, 8, 9, 10, 5, 11, 12, 13, 14, 15, 16, 17, 18, 19, 20, 21, 22, 23, 24] (by decide +kernel) (by decide +kernel)) (goodIn_sub (fun _ h => List.mem_cons_of_mem _ (List.mem_append_right _ h)) (by decide +kernel))
set_option maxRecDepth 20000 in
theorem gL_lift_X0_lift : GoodIn wsL_lift (wsV RL 37 RX0 yX0_lift wsX0_lift) := goodIn_app (goodIn_of _ (by decide +kernel)) ggL_lift_X0_lift
theorem dL_lift_0 : decode cL_lift 0 = .ok (.aload_n 3, 1) := by decide +kernel
theorem dL_lift_1 : decode cL_lift 1 = .ok (.iconst 0, 1) := by decide +kernel
theorem dL_lift_2 : decode cL_lift 2 = .ok (.aload_n 0, 1) := by decide +kernel
theorem dL_lift_3 : decode cL_lift 3 = .ok (.iload_n 1, 1) := by decide +kernel
theorem dL_lift_4 : decode cL_lift 4 = .ok (.iload_n 2, 1) := by decide +kernel
theorem dL_lift_5 : decode cL_lift 5 = .ok (.invokevirtual 37, 3) := by decide +kernel
theorem dL_lift_8 : decode cL_lift 8 = .ok (.ifCond .eq 7, 3) := by decide +kernel
theorem dL_lift_11 : decode cL_lift 11 = .ok (.lconst 1, 1) := by decide +kernel
theorem dL_lift_12 : decode cL_lift 12 = .ok (.goto 4, 3) := by decide +kernel
theorem dL_lift_15 : decode cL_lift 15 = .ok (.lconst 0, 1) := by decide +kernel
theorem dL_lift_16 : decode cL_lift 16 = .ok (.lastore, 1) := by decide +kernel
theorem dL_lift_17 : decode cL_lift 17 = .ok (.goto 7, 3) := by decide +kernel
theorem dL_lift_20 : decode cL_lift 20 = .ok (.astore 4, 2) := by decide +kernel
theorem dL_lift_22 : decode cL_lift 22 = .ok (.iconst 1, 1) := by decide +kernel
theorem dL_lift_23 : decode cL_lift 23 = .ok (.ireturn, 1) := by decide +kernel
theorem dL_lift_24 : decode cL_lift 24 = .ok (.iconst 0, 1) := by decide +kernel
theorem dL_lift_25 : decode cL_lift 25 = .ok (.ireturn, 1) := by decide +kernel
set_option maxRecDepth 20000 in
theorem ggL_probe_X0_probe : GoodIn wsL_probe wsX0_probe := goodIn_ca (goodIn_r _ [6, 7, 8, 5, 9, 10, 11, 12, 13, 14, 15, 16, 17, 18, 19, 20, 21, 22, 23, 24, 25, 26, 27, 28, 29, 30, 31, 32, 33, 34, 35, 36, 37, 38, 39, 40, 41, 42, 43, 44, 45, 46] (by decide +kernel) (by decide +kernel)) (goodIn_sub (fun _ h => List.mem_cons_of_mem _ (List.mem_append_right _ h)) (by decide +kernel))
set_option maxRecDepth 20000 in
theorem gL_probe_X0_probe : GoodIn wsL_probe (wsV RL 41 RX0 yX0_probe wsX0_probe) := goodIn_app (goodIn_of _ (by decide +kernel)) ggL_probe_X0_probe
theorem dL_probe_0 : decode cL_probe 0 = .ok (.aload_n 3, 1) := by decide +kernel
theorem dL_probe_1 : decode cL_probe 1 = .ok (.iconst 0, 1) := by decide +kernel
theorem dL_probe_2 : decode cL_probe 2 = .ok (.aload_n 0, 1) := by decide +kernel
theorem dL_probe_3 : decode cL_probe 3 = .ok (.dload_n 1, 1) := by decide +kernel
theorem dL_probe_4 : decode cL_probe 4 = .ok (.invokevirtual 41, 3) := by decide +kernel
theorem dL_probe_7 : decode cL_probe 7 = .ok (.i2l, 1) := by decide +kernel
theorem dL_probe_8 : decode cL_probe 8 = .ok (.lastore, 1) := by decide +kernel
theorem dL_probe_9 : decode cL_probe 9 = .ok (.goto 7, 3) := by decide +kernel
theorem dL_probe_12 : decode cL_probe 12 = .ok (.astore 4, 2) := by decide +kernel
theorem dL_probe_14 : decode cL_probe 14 = .ok (.iconst 1, 1) := by decide +kernel
theorem dL_probe_15 : decode cL_probe 15 = .ok (.ireturn, 1) := by decide +kernel
theorem dL_probe_16 : decode cL_probe 16 = .ok (.iconst 0, 1) := by decide +kernel
theorem dL_probe_17 : decode cL_probe 17 = .ok (.ireturn, 1) := by decide +kernel
set_option maxRecDepth 20000 in
theorem ggL_probeWind_X0_probeWind : GoodIn wsL_probeWind wsX0_probeWind := goodIn_ca (goodIn_r _ [6, 7, 8, 5, 9, 10, 11, 12, 13, 14, 15, 16, 17, 18, 19, 20, 21, 22, 23, 24, 25, 26, 27, 28, 29, 30, 31, 32, 33, 34, 35, 36, 37, 38, 39, 40, 41, 42, 43, 44, 45] (by decide +kernel) (by decide +kernel)) (goodIn_sub (fun _ h => List.mem_cons_of_mem _ (List.mem_append_right _ h)) (by decide +kernel))
set_option maxRecDepth 20000 in
theorem gL_probeWind_X0_probeWind : GoodIn wsL_probeWind (wsV RL 45 RX0 yX0_probeWind wsX0_probeWind) := goodIn_app (goodIn_of _ (by decide +kernel)) ggL_probeWind_X0_probeWind
theorem dL_probeWind_0 : decode cL_probeWind 0 = .ok (.aload_n 2, 1) := by decide +kernel
theorem dL_probeWind_1 : decode cL_probeWind 1 = .ok (.iconst 0, 1) := by decide +kernel
end
section
theorem dL_probeWind_2 : decode cL_probeWind 2 = .ok (.aload_n 0, 1) := by decide +kernel
theorem dL_probeWind_3 : decode cL_probeWind 3 = .ok (.fload_n 1, 1) := by decide +kernel
theorem dL_probeWind_4 : decode cL_probeWind 4 = .ok (.invokevirtual 45, 3) := by decide +kernel
theorem dL_probeWind_7 : decode cL_probeWind 7 = .ok (.i2l, 1) := by decide +kernel
theorem dL_probeWind_8 : decode cL_probeWind 8 = .ok (.lastore, 1) := by decide +kernel
theorem dL_probeWind_9 : decode cL_probeWind 9 = .ok (.goto 6, 3) := by decide +kernel
theorem dL_probeWind_12 : decode cL_probeWind 12 = .ok (.astore_n 3, 1) := by decide +kernel
theorem dL_probeWind_13 : decode cL_probeWind 13 = .ok (.iconst 1, 1) := by decide +kernel
theorem dL_probeWind_14 : decode cL_probeWind 14 = .ok (.ireturn, 1) := by decide +kernel
theorem dL_probeWind_15 : decode cL_probeWind 15 = .ok (.iconst 0, 1) := by decide +kernel
theorem dL_probeWind_16 : decode cL_probeWind 16 = .ok (.ireturn, 1) := by decide +kernel
set_option maxRecDepth 20000 in
theorem ggL_probeOut_X0_probeOut : GoodIn wsL_probeOut wsX0_probeOut := goodIn_ca (goodIn_r _ [6, 7, 8, 5, 9, 10, 11, 12, 13, 14, 15, 16, 17, 18, 19, 20, 21, 22, 23, 24, 25, 26, 27, 28, 29, 30, 31, 32, 33, 34, 35, 36, 37, 38, 39, 40, 41, 42, 43, 44] (by decide +kernel) (by decide +kernel)) (goodIn_sub (fun _ h => List.mem_cons_of_mem _ (List.mem_append_right _ h)) (by decide +kernel))
set_option maxRecDepth 20000 in
theorem gL_probeOut_X0_probeOut : GoodIn wsL_probeOut (wsV RL 49 RX0 yX0_probeOut wsX0_probeOut) := goodIn_app (goodIn_of _ (by decide +kernel)) ggL_probeOut_X0_probeOut
theorem dL_probeOut_0 : decode cL_probeOut 0 = .ok (.aload_n 2, 1) := by decide +kernel
theorem dL_probeOut_1 : decode cL_probeOut 1 = .ok (.iconst 0, 1) := by decide +kernel
theorem dL_probeOut_2 : decode cL_probeOut 2 = .ok (.aload_n 0, 1) := by decide +kernel
theorem dL_probeOut_3 : decode cL_probeOut 3 = .ok (.iload_n 1, 1) := by decide +kernel
theorem dL_probeOut_4 : decode cL_probeOut 4 = .ok (.invokevirtual 49, 3) := by decide +kernel
theorem dL_probeOut_7 : decode cL_probeOut 7 = .ok (.i2l, 1) := by decide +kernel
theorem dL_probeOut_8 : decode cL_probeOut 8 = .ok (.lastore, 1) := by decide +kernel
theorem dL_probeOut_9 : decode cL_probeOut 9 = .ok (.goto 6, 3) := by decide +kernel
theorem dL_probeOut_12 : decode cL_probeOut 12 = .ok (.astore_n 3, 1) := by decide +kernel
theorem dL_probeOut_13 : decode cL_probeOut 13 = .ok (.iconst 1, 1) := by decide +kernel
theorem dL_probeOut_14 : decode cL_probeOut 14 = .ok (.ireturn, 1) := by decide +kernel
theorem dL_probeOut_15 : decode cL_probeOut 15 = .ok (.iconst 0, 1) := by decide +kernel
theorem dL_probeOut_16 : decode cL_probeOut 16 = .ok (.ireturn, 1) := by decide +kernel
set_option maxRecDepth 20000 in
theorem ggL_run_X0_run : GoodIn wsL_run wsX0_run := goodIn_ca (goodIn_r _ [6, 7, 8, 5, 9, 10, 11, 12, 13, 14, 15, 16, 17, 18, 19, 20, 21, 22, 23, 24, 25, 26, 27, 28, 29, 30, 31, 32, 33, 34, 35, 36, 37, 38, 39, 40, 41, 42, 43, 44, 45, 46] (by decide +kernel) (by decide +kernel)) (goodIn_sub (fun _ h => List.mem_cons_of_mem _ (List.mem_append_right _ h)) (by decide +kernel))
set_option maxRecDepth 20000 in
theorem gL_run_X0_run : GoodIn wsL_run (wsV RL 52 RX0 yX0_run wsX0_run) := goodIn_app (goodIn_of _ (by decide +kernel)) ggL_run_X0_run
theorem dL_run_0 : decode cL_run 0 = .ok (.aload 5, 2) := by decide +kernel
theorem dL_run_2 : decode cL_run 2 = .ok (.iconst 0, 1) := by decide +kernel
theorem dL_run_3 : decode cL_run 3 = .ok (.aload_n 0, 1) := by decide +kernel
theorem dL_run_4 : decode cL_run 4 = .ok (.iload_n 1, 1) := by decide +kernel
theorem dL_run_5 : decode cL_run 5 = .ok (.iload_n 2, 1) := by decide +kernel
theorem dL_run_6 : decode cL_run 6 = .ok (.iload_n 3, 1) := by decide +kernel
theorem dL_run_7 : decode cL_run 7 = .ok (.iload 4, 2) := by decide +kernel
theorem dL_run_9 : decode cL_run 9 = .ok (.invokevirtual 52, 3) := by decide +kernel
theorem dL_run_12 : decode cL_run 12 = .ok (.i2l, 1) := by decide +kernel
theorem dL_run_13 : decode cL_run 13 = .ok (.lastore, 1) := by decide +kernel
theorem dL_run_14 : decode cL_run 14 = .ok (.goto 7, 3) := by decide +kernel
theorem dL_run_17 : decode cL_run 17 = .ok (.astore 6, 2) := by decide +kernel
theorem dL_run_19 : decode cL_run 19 = .ok (.iconst 1, 1) := by decide +kernel
theorem dL_run_20 : decode cL_run 20 = .ok (.ireturn, 1) := by decide +kernel
theorem dL_run_21 : decode cL_run 21 = .ok (.iconst 0, 1) := by decide +kernel
theorem dL_run_22 : decode cL_run 22 = .ok (.ireturn, 1) := by decide +kernel
set_option maxRecDepth 20000 in
theorem ggL_count_X0_count : GoodIn wsL_count wsX0_count := goodIn_ca (goodIn_r _ [6, 7, 8, 9, 5, 10, 11, 12, 13, 14, 15, 16, 17, 18, 19, 20, 21, 22, 23, 24, 25, 26, 27, 28, 29, 30, 31, 32, 33, 34, 35, 36, 37, 38] (by decide +kernel) (by decide +kernel)) (goodIn_sub (fun _ h => List.mem_cons_of_mem _ (List.mem_append_right _ h)) (by decide +kernel))
set_option maxRecDepth 20000 in
theorem gL_count_X0_count : GoodIn wsL_count (wsV RL 56 RX0 yX0_count wsX0_count) := goodIn_app (goodIn_of _ (by decide +kernel)) ggL_count_X0_count
theorem dL_count_0 : decode cL_count 0 = .ok (.aload 5, 2) := by decide +kernel
theorem dL_count_2 : decode cL_count 2 = .ok (.iconst 0, 1) := by decide +kernel
theorem dL_count_3 : decode cL_count 3 = .ok (.aload_n 0, 1) := by decide +kernel
theorem dL_count_4 : decode cL_count 4 = .ok (.iload_n 1, 1) := by decide +kernel
theorem dL_count_5 : decode cL_count 5 = .ok (.iload_n 2, 1) := by decide +kernel
theorem dL_count_6 : decode cL_count 6 = .ok (.iload_n 3, 1) := by decide +kernel
theorem dL_count_7 : decode cL_count 7 = .ok (.iload 4, 2) := by decide +kernel
theorem dL_count_9 : decode cL_count 9 = .ok (.invokevirtual 56, 3) := by decide +kernel
theorem dL_count_12 : decode cL_count 12 = .ok (.i2l, 1) := by decide +kernel
theorem dL_count_13 : decode cL_count 13 = .ok (.lastore, 1) := by decide +kernel
theorem dL_count_14 : decode cL_count 14 = .ok (.goto 7, 3) := by decide +kernel
theorem dL_count_17 : decode cL_count 17 = .ok (.astore 6, 2) := by decide +kernel
theorem dL_count_19 : decode cL_count 19 = .ok (.iconst 1, 1) := by decide +kernel
theorem dL_count_20 : decode cL_count 20 = .ok (.ireturn, 1) := by decide +kernel
theorem dL_count_21 : decode cL_count 21 = .ok (.iconst 0, 1) := by decide +kernel
theorem dL_count_22 : decode cL_count 22 = .ok (.ireturn, 1) := by decide +kernel
set_option maxRecDepth 20000 in
theorem ggL_holds_X0_holds : GoodIn wsL_holds wsX0_holds := goodIn_ca (goodIn_r _ [6, 7, 8, 5, 9, 10, 11, 12, 13, 14, 15, 16, 17, 18, 19, 20, 21, 22, 23, 24, 25, 26, 27, 28, 29, 30, 31, 32, 33, 34, 35, 36, 37, 38, 39] (by decide +kernel) (by decide +kernel)) (goodIn_sub (fun _ h => List.mem_cons_of_mem _ (List.mem_append_right _ h)) (by decide +kernel))
set_option maxRecDepth 20000 in
theorem gL_holds_X0_holds : GoodIn wsL_holds (wsV RL 59 RX0 yX0_holds wsX0_holds) := goodIn_app (goodIn_of _ (by decide +kernel)) ggL_holds_X0_holds
theorem dL_holds_0 : decode cL_holds 0 = .ok (.aload 5, 2) := by decide +kernel
theorem dL_holds_2 : decode cL_holds 2 = .ok (.iconst 0, 1) := by decide +kernel
theorem dL_holds_3 : decode cL_holds 3 = .ok (.aload_n 0, 1) := by decide +kernel
theorem dL_holds_4 : decode cL_holds 4 = .ok (.iload_n 1, 1) := by decide +kernel
theorem dL_holds_5 : decode cL_holds 5 = .ok (.iload_n 2, 1) := by decide +kernel
theorem dL_holds_6 : decode cL_holds 6 = .ok (.iload_n 3, 1) := by decide +kernel
theorem dL_holds_7 : decode cL_holds 7 = .ok (.iload 4, 2) := by decide +kernel
theorem dL_holds_9 : decode cL_holds 9 = .ok (.invokevirtual 59, 3) := by decide +kernel
theorem dL_holds_12 : decode cL_holds 12 = .ok (.ifCond .eq 7, 3) := by decide +kernel
theorem dL_holds_15 : decode cL_holds 15 = .ok (.lconst 1, 1) := by decide +kernel
theorem dL_holds_16 : decode cL_holds 16 = .ok (.goto 4, 3) := by decide +kernel
theorem dL_holds_19 : decode cL_holds 19 = .ok (.lconst 0, 1) := by decide +kernel
theorem dL_holds_20 : decode cL_holds 20 = .ok (.lastore, 1) := by decide +kernel
theorem dL_holds_21 : decode cL_holds 21 = .ok (.goto 7, 3) := by decide +kernel
theorem dL_holds_24 : decode cL_holds 24 = .ok (.astore 6, 2) := by decide +kernel
theorem dL_holds_26 : decode cL_holds 26 = .ok (.iconst 1, 1) := by decide +kernel
theorem dL_holds_27 : decode cL_holds 27 = .ok (.ireturn, 1) := by decide +kernel
theorem dL_holds_28 : decode cL_holds 28 = .ok (.iconst 0, 1) := by decide +kernel
theorem dL_holds_29 : decode cL_holds 29 = .ok (.ireturn, 1) := by decide +kernel
set_option maxRecDepth 20000 in
theorem ggL_pick_X0_pick : GoodIn wsL_pick wsX0_pick := goodIn_ca (goodIn_r _ [6, 7, 8, 5, 9, 10, 11, 12, 13, 14, 15, 16, 17, 18, 19, 20, 21, 22, 23, 24, 25, 26, 27, 28, 29, 30, 31, 32, 33, 34, 35, 36, 37, 38, 39] (by decide +kernel) (by decide +kernel)) (goodIn_sub (fun _ h => List.mem_cons_of_mem _ (List.mem_append_right _ h)) (by decide +kernel))
set_option maxRecDepth 20000 in
theorem gL_pick_X0_pick : GoodIn wsL_pick (wsV RL 63 RX0 yX0_pick wsX0_pick) := goodIn_app (goodIn_of _ (by decide +kernel)) ggL_pick_X0_pick
theorem dL_pick_0 : decode cL_pick 0 = .ok (.aload 5, 2) := by decide +kernel
theorem dL_pick_2 : decode cL_pick 2 = .ok (.iconst 0, 1) := by decide +kernel
theorem dL_pick_3 : decode cL_pick 3 = .ok (.aload_n 0, 1) := by decide +kernel
theorem dL_pick_4 : decode cL_pick 4 = .ok (.iload_n 1, 1) := by decide +kernel
theorem dL_pick_5 : decode cL_pick 5 = .ok (.iload_n 2, 1) := by decide +kernel
theorem dL_pick_6 : decode cL_pick 6 = .ok (.iload_n 3, 1) := by decide +kernel
theorem dL_pick_7 : decode cL_pick 7 = .ok (.iload 4, 2) := by decide +kernel
theorem dL_pick_9 : decode cL_pick 9 = .ok (.invokevirtual 63, 3) := by decide +kernel
theorem dL_pick_12 : decode cL_pick 12 = .ok (.i2l, 1) := by decide +kernel
theorem dL_pick_13 : decode cL_pick 13 = .ok (.lastore, 1) := by decide +kernel
theorem dL_pick_14 : decode cL_pick 14 = .ok (.goto 7, 3) := by decide +kernel
theorem dL_pick_17 : decode cL_pick 17 = .ok (.astore 6, 2) := by decide +kernel
theorem dL_pick_19 : decode cL_pick 19 = .ok (.iconst 1, 1) := by decide +kernel
theorem dL_pick_20 : decode cL_pick 20 = .ok (.ireturn, 1) := by decide +kernel
theorem dL_pick_21 : decode cL_pick 21 = .ok (.iconst 0, 1) := by decide +kernel
theorem dL_pick_22 : decode cL_pick 22 = .ok (.ireturn, 1) := by decide +kernel
set_option maxRecDepth 20000 in
theorem ggL_stand_X0_stand : GoodIn wsL_stand wsX0_stand := goodIn_ca (goodIn_r _ [6, 7, 8, 5, 9, 10, 11, 12, 13, 14, 15, 16, 17, 18, 19, 20, 21, 22, 23, 24, 25, 26, 27, 28, 29, 30, 31, 32, 33, 34, 35, 36, 37, 38, 39, 40, 41, 42, 43, 44] (by decide +kernel) (by decide +kernel)) (goodIn_sub (fun _ h => List.mem_cons_of_mem _ (List.mem_append_right _ h)) (by decide +kernel))
set_option maxRecDepth 20000 in
theorem gL_stand_X0_stand : GoodIn wsL_stand (wsV RL 67 RX0 yX0_stand wsX0_stand) := goodIn_app (goodIn_of _ (by decide +kernel)) ggL_stand_X0_stand
theorem dL_stand_0 : decode cL_stand 0 = .ok (.aload_n 2, 1) := by decide +kernel
theorem dL_stand_1 : decode cL_stand 1 = .ok (.iconst 0, 1) := by decide +kernel
theorem dL_stand_2 : decode cL_stand 2 = .ok (.aload_n 0, 1) := by decide +kernel
theorem dL_stand_3 : decode cL_stand 3 = .ok (.iload_n 1, 1) := by decide +kernel
theorem dL_stand_4 : decode cL_stand 4 = .ok (.invokevirtual 67, 3) := by decide +kernel
theorem dL_stand_7 : decode cL_stand 7 = .ok (.i2l, 1) := by decide +kernel
theorem dL_stand_8 : decode cL_stand 8 = .ok (.lastore, 1) := by decide +kernel
theorem dL_stand_9 : decode cL_stand 9 = .ok (.goto 6, 3) := by decide +kernel
theorem dL_stand_12 : decode cL_stand 12 = .ok (.astore_n 3, 1) := by decide +kernel
theorem dL_stand_13 : decode cL_stand 13 = .ok (.iconst 1, 1) := by decide +kernel
theorem dL_stand_14 : decode cL_stand 14 = .ok (.ireturn, 1) := by decide +kernel
theorem dL_stand_15 : decode cL_stand 15 = .ok (.iconst 0, 1) := by decide +kernel
theorem dL_stand_16 : decode cL_stand 16 = .ok (.ireturn, 1) := by decide +kernel
set_option maxRecDepth 20000 in
theorem ggL_order_X0_order : GoodIn wsL_order wsX0_order := goodIn_ca (goodIn_r _ [6, 7, 8, 9, 10, 11, 5, 12, 13, 14, 15, 16, 17, 18, 19, 20, 21, 22, 23, 24, 25, 26, 27, 28, 29, 30, 31, 32, 33, 34, 35, 36, 37, 38, 39, 40, 41, 42] (by decide +kernel) (by decide +kernel)) (goodIn_sub (fun _ h => List.mem_cons_of_mem _ (List.mem_append_right _ h)) (by decide +kernel))
set_option maxRecDepth 20000 in
theorem gL_order_X0_order : GoodIn wsL_order (wsV RL 70 RX0 yX0_order wsX0_order) := goodIn_app (goodIn_of _ (by decide +kernel)) ggL_order_X0_order
theorem dL_order_0 : decode cL_order 0 = .ok (.aload_n 2, 1) := by decide +kernel
theorem dL_order_1 : decode cL_order 1 = .ok (.iconst 0, 1) := by decide +kernel
theorem dL_order_2 : decode cL_order 2 = .ok (.aload_n 0, 1) := by decide +kernel
theorem dL_order_3 : decode cL_order 3 = .ok (.iload_n 1, 1) := by decide +kernel
theorem dL_order_4 : decode cL_order 4 = .ok (.invokevirtual 70, 3) := by decide +kernel
theorem dL_order_7 : decode cL_order 7 = .ok (.i2l, 1) := by decide +kernel
theorem dL_order_8 : decode cL_order 8 = .ok (.lastore, 1) := by decide +kernel
theorem dL_order_9 : decode cL_order 9 = .ok (.goto 6, 3) := by decide +kernel
theorem dL_order_12 : decode cL_order 12 = .ok (.astore_n 3, 1) := by decide +kernel
theorem dL_order_13 : decode cL_order 13 = .ok (.iconst 1, 1) := by decide +kernel
theorem dL_order_14 : decode cL_order 14 = .ok (.ireturn, 1) := by decide +kernel
theorem dL_order_15 : decode cL_order 15 = .ok (.iconst 0, 1) := by decide +kernel
theorem dL_order_16 : decode cL_order 16 = .ok (.ireturn, 1) := by decide +kernel
set_option maxRecDepth 20000 in
theorem ggL_highest_X0_highest : GoodIn wsL_highest wsX0_highest := goodIn_ca (goodIn_ca (goodIn_r _ [7, 8, 9, 10, 6, 11, 12, 13, 14, 15, 16, 17, 18, 19, 20, 21, 22, 23, 24, 25, 26, 27, 28, 29, 30, 31, 32, 33, 34, 35, 36] (by decide +kernel) (by decide +kernel)) (goodIn_sub (fun _ h => List.mem_cons_of_mem _ (List.mem_append_left _ (List.mem_append_right _ h))) (by decide +kernel))) (goodIn_sub (fun _ h => List.mem_cons_of_mem _ (List.mem_append_right _ h)) (by decide +kernel))
set_option maxRecDepth 20000 in
theorem gL_highest_X0_highest : GoodIn wsL_highest (wsV RL 73 RX0 yX0_highest wsX0_highest) := goodIn_app (goodIn_of _ (by decide +kernel)) ggL_highest_X0_highest
theorem dL_highest_0 : decode cL_highest 0 = .ok (.aload_n 2, 1) := by decide +kernel
theorem dL_highest_1 : decode cL_highest 1 = .ok (.iconst 0, 1) := by decide +kernel
theorem dL_highest_2 : decode cL_highest 2 = .ok (.aload_n 0, 1) := by decide +kernel
theorem dL_highest_3 : decode cL_highest 3 = .ok (.iload_n 1, 1) := by decide +kernel
theorem dL_highest_4 : decode cL_highest 4 = .ok (.invokevirtual 73, 3) := by decide +kernel
theorem dL_highest_7 : decode cL_highest 7 = .ok (.dastore, 1) := by decide +kernel
theorem dL_highest_8 : decode cL_highest 8 = .ok (.goto 9, 3) := by decide +kernel
theorem dL_highest_11 : decode cL_highest 11 = .ok (.astore_n 3, 1) := by decide +kernel
theorem dL_highest_12 : decode cL_highest 12 = .ok (.iconst 1, 1) := by decide +kernel
theorem dL_highest_13 : decode cL_highest 13 = .ok (.ireturn, 1) := by decide +kernel
theorem dL_highest_14 : decode cL_highest 14 = .ok (.astore_n 3, 1) := by decide +kernel
theorem dL_highest_15 : decode cL_highest 15 = .ok (.iconst 2, 1) := by decide +kernel
theorem dL_highest_16 : decode cL_highest 16 = .ok (.ireturn, 1) := by decide +kernel
theorem dL_highest_17 : decode cL_highest 17 = .ok (.iconst 0, 1) := by decide +kernel
theorem dL_highest_18 : decode cL_highest 18 = .ok (.ireturn, 1) := by decide +kernel
set_option maxRecDepth 20000 in
theorem ggL_calmest_X0_calmest : GoodIn wsL_calmest wsX0_calmest := goodIn_ca (goodIn_ca (goodIn_r _ [7, 8, 9, 10, 6, 11, 12, 13, 14, 15, 16, 17, 18, 19, 20, 21, 22, 23, 24, 25, 26, 27, 28, 29, 30, 31, 32, 33, 34, 35, 36] (by decide +kernel) (by decide +kernel)) (goodIn_sub (fun _ h => List.mem_cons_of_mem _ (List.mem_append_left _ (List.mem_append_right _ h))) (by decide +kernel))) (goodIn_sub (fun _ h => List.mem_cons_of_mem _ (List.mem_append_right _ h)) (by decide +kernel))
set_option maxRecDepth 20000 in
theorem gL_calmest_X0_calmest : GoodIn wsL_calmest (wsV RL 79 RX0 yX0_calmest wsX0_calmest) := goodIn_app (goodIn_of _ (by decide +kernel)) ggL_calmest_X0_calmest
theorem dL_calmest_0 : decode cL_calmest 0 = .ok (.aload_n 2, 1) := by decide +kernel
theorem dL_calmest_1 : decode cL_calmest 1 = .ok (.iconst 0, 1) := by decide +kernel
theorem dL_calmest_2 : decode cL_calmest 2 = .ok (.aload_n 0, 1) := by decide +kernel
theorem dL_calmest_3 : decode cL_calmest 3 = .ok (.iload_n 1, 1) := by decide +kernel
theorem dL_calmest_4 : decode cL_calmest 4 = .ok (.invokevirtual 79, 3) := by decide +kernel
theorem dL_calmest_7 : decode cL_calmest 7 = .ok (.f2d, 1) := by decide +kernel
theorem dL_calmest_8 : decode cL_calmest 8 = .ok (.dastore, 1) := by decide +kernel
theorem dL_calmest_9 : decode cL_calmest 9 = .ok (.goto 9, 3) := by decide +kernel
theorem dL_calmest_12 : decode cL_calmest 12 = .ok (.astore_n 3, 1) := by decide +kernel
theorem dL_calmest_13 : decode cL_calmest 13 = .ok (.iconst 1, 1) := by decide +kernel
theorem dL_calmest_14 : decode cL_calmest 14 = .ok (.ireturn, 1) := by decide +kernel
theorem dL_calmest_15 : decode cL_calmest 15 = .ok (.astore_n 3, 1) := by decide +kernel
theorem dL_calmest_16 : decode cL_calmest 16 = .ok (.iconst 2, 1) := by decide +kernel
theorem dL_calmest_17 : decode cL_calmest 17 = .ok (.ireturn, 1) := by decide +kernel
theorem dL_calmest_18 : decode cL_calmest 18 = .ok (.iconst 0, 1) := by decide +kernel
theorem dL_calmest_19 : decode cL_calmest 19 = .ok (.ireturn, 1) := by decide +kernel
set_option maxRecDepth 20000 in
theorem ggL_same_X0_same : GoodIn wsL_same wsX0_same := goodIn_ca (goodIn_r _ [6, 7, 8, 9, 10, 11, 12, 13, 5, 14, 15, 16, 17, 18, 19, 20, 21, 22, 23, 24, 25, 26, 27, 28, 29, 30, 31, 32, 33, 34, 35, 36, 37] (by decide +kernel) (by decide +kernel)) (goodIn_sub (fun _ h => List.mem_cons_of_mem _ (List.mem_append_right _ h)) (by decide +kernel))
set_option maxRecDepth 20000 in
theorem gL_same_X0_same : GoodIn wsL_same (wsV RL 83 RX0 yX0_same wsX0_same) := goodIn_app (goodIn_of _ (by decide +kernel)) ggL_same_X0_same
theorem dL_same_0 : decode cL_same 0 = .ok (.aload_n 3, 1) := by decide +kernel
theorem dL_same_1 : decode cL_same 1 = .ok (.iconst 0, 1) := by decide +kernel
theorem dL_same_2 : decode cL_same 2 = .ok (.aload_n 0, 1) := by decide +kernel
theorem dL_same_3 : decode cL_same 3 = .ok (.iload_n 1, 1) := by decide +kernel
theorem dL_same_4 : decode cL_same 4 = .ok (.iload_n 2, 1) := by decide +kernel
theorem dL_same_5 : decode cL_same 5 = .ok (.invokevirtual 83, 3) := by decide +kernel
theorem dL_same_8 : decode cL_same 8 = .ok (.i2l, 1) := by decide +kernel
theorem dL_same_9 : decode cL_same 9 = .ok (.lastore, 1) := by decide +kernel
theorem dL_same_10 : decode cL_same 10 = .ok (.goto 7, 3) := by decide +kernel
theorem dL_same_13 : decode cL_same 13 = .ok (.astore 4, 2) := by decide +kernel
theorem dL_same_15 : decode cL_same 15 = .ok (.iconst 1, 1) := by decide +kernel
theorem dL_same_16 : decode cL_same 16 = .ok (.ireturn, 1) := by decide +kernel
theorem dL_same_17 : decode cL_same 17 = .ok (.iconst 0, 1) := by decide +kernel
theorem dL_same_18 : decode cL_same 18 = .ok (.ireturn, 1) := by decide +kernel
set_option maxRecDepth 20000 in
theorem ggL_move_X0_move : GoodIn wsL_move wsX0_move := goodIn_ca (goodIn_ca (goodIn_ca (goodIn_r _ [8, 9, 10, 11, 12, 13, 14, 15, 7, 16, 17, 18, 19, 20, 21, 22, 23, 24, 25, 26, 27, 28, 29, 30, 31, 32, 33, 34, 35, 36, 37, 38, 39, 40, 41, 42, 43, 44, 45, 46, 47, 48, 49] (by decide +kernel) (by decide +kernel)) (goodIn_sub (fun _ h => List.mem_cons_of_mem _ (List.mem_append_left _ (List.mem_append_left _ (List.mem_append_right _ h)))) (by decide +kernel))) (goodIn_sub (fun _ h => List.mem_cons_of_mem _ (List.mem_append_left _ (List.mem_append_right _ h))) (by decide +kernel))) (goodIn_sub (fun _ h => List.mem_cons_of_mem _ (List.mem_append_right _ h)) (by decide +kernel))
set_option maxRecDepth 20000 in
theorem gL_move_X0_move : GoodIn wsL_move (wsV RL 86 RX0 yX0_move wsX0_move) := goodIn_app (goodIn_of _ (by decide +kernel)) ggL_move_X0_move
theorem dL_move_0 : decode cL_move 0 = .ok (.aload_n 2, 1) := by decide +kernel
theorem dL_move_1 : decode cL_move 1 = .ok (.iconst 0, 1) := by decide +kernel
theorem dL_move_2 : decode cL_move 2 = .ok (.aload_n 0, 1) := by decide +kernel
theorem dL_move_3 : decode cL_move 3 = .ok (.iload_n 1, 1) := by decide +kernel
theorem dL_move_4 : decode cL_move 4 = .ok (.invokevirtual 86, 3) := by decide +kernel
theorem dL_move_7 : decode cL_move 7 = .ok (.i2l, 1) := by decide +kernel
theorem dL_move_8 : decode cL_move 8 = .ok (.lastore, 1) := by decide +kernel
theorem dL_move_9 : decode cL_move 9 = .ok (.goto 12, 3) := by decide +kernel
theorem dL_move_12 : decode cL_move 12 = .ok (.astore_n 3, 1) := by decide +kernel
theorem dL_move_13 : decode cL_move 13 = .ok (.iconst 1, 1) := by decide +kernel
theorem dL_move_14 : decode cL_move 14 = .ok (.ireturn, 1) := by decide +kernel
theorem dL_move_15 : decode cL_move 15 = .ok (.astore_n 3, 1) := by decide +kernel
theorem dL_move_16 : decode cL_move 16 = .ok (.iconst 2, 1) := by decide +kernel
theorem dL_move_17 : decode cL_move 17 = .ok (.ireturn, 1) := by decide +kernel
theorem dL_move_18 : decode cL_move 18 = .ok (.astore_n 3, 1) := by decide +kernel
theorem dL_move_19 : decode cL_move 19 = .ok (.iconst 3, 1) := by decide +kernel
theorem dL_move_20 : decode cL_move 20 = .ok (.ireturn, 1) := by decide +kernel
theorem dL_move_21 : decode cL_move 21 = .ok (.iconst 0, 1) := by decide +kernel
theorem dL_move_22 : decode cL_move 22 = .ok (.ireturn, 1) := by decide +kernel
set_option maxRecDepth 20000 in
theorem ggL_size_X0_size : GoodIn wsL_size wsX0_size := goodIn_ca (goodIn_r _ [6, 7, 8, 9, 5, 10, 11, 12, 13, 14, 15, 16, 17, 18, 19, 20, 21, 22, 23] (by decide +kernel) (by decide +kernel)) (goodIn_sub (fun _ h => List.mem_cons_of_mem _ (List.mem_append_right _ h)) (by decide +kernel))
set_option maxRecDepth 20000 in
theorem gL_size_X0_size : GoodIn wsL_size (wsV RL 94 RX0 yX0_size wsX0_size) := goodIn_app (goodIn_of _ (by decide +kernel)) ggL_size_X0_size
theorem dL_size_0 : decode cL_size 0 = .ok (.aload_n 3, 1) := by decide +kernel
theorem dL_size_1 : decode cL_size 1 = .ok (.iconst 0, 1) := by decide +kernel
theorem dL_size_2 : decode cL_size 2 = .ok (.aload_n 0, 1) := by decide +kernel
theorem dL_size_3 : decode cL_size 3 = .ok (.iload_n 1, 1) := by decide +kernel
theorem dL_size_4 : decode cL_size 4 = .ok (.iload_n 2, 1) := by decide +kernel
theorem dL_size_5 : decode cL_size 5 = .ok (.invokevirtual 94, 3) := by decide +kernel
theorem dL_size_8 : decode cL_size 8 = .ok (.i2l, 1) := by decide +kernel
theorem dL_size_9 : decode cL_size 9 = .ok (.lastore, 1) := by decide +kernel
theorem dL_size_10 : decode cL_size 10 = .ok (.goto 7, 3) := by decide +kernel
theorem dL_size_13 : decode cL_size 13 = .ok (.astore 4, 2) := by decide +kernel
theorem dL_size_15 : decode cL_size 15 = .ok (.iconst 1, 1) := by decide +kernel
theorem dL_size_16 : decode cL_size 16 = .ok (.ireturn, 1) := by decide +kernel
theorem dL_size_17 : decode cL_size 17 = .ok (.iconst 0, 1) := by decide +kernel
theorem dL_size_18 : decode cL_size 18 = .ok (.ireturn, 1) := by decide +kernel
set_option maxRecDepth 20000 in
theorem ggL_law_X0_init : GoodIn wsL_law wsX0_init := goodIn_r _ [12, 13, 14, 15, 16, 17, 7, 18, 19, 20, 21, 22, 471, 472, 473, 474, 475] (by decide +kernel) (by decide +kernel)
set_option maxRecDepth 20000 in
theorem gL_law_X0_init : GoodIn wsL_law (wsX0_init) := ggL_law_X0_init
set_option maxRecDepth 20000 in
theorem ggL_law_X1_init : GoodIn wsL_law wsX1_init := goodIn_r _ [25, 26, 14, 15, 7, 27, 16, 28, 19, 29, 30, 31, 32, 33, 476, 477, 478, 479, 480, 481, 482, 483, 484, 485] (by decide +kernel) (by decide +kernel)
set_option maxRecDepth 20000 in
theorem gL_law_X1_init : GoodIn wsL_law (wsX1_init) := ggL_law_X1_init
set_option maxRecDepth 20000 in
theorem ggL_law_L_level : GoodIn wsL_law wsL_level := goodIn_ca (goodIn_ca (goodIn_r _ [37, 38, 39, 40, 41, 42, 2, 43, 44, 45, 46, 47, 48, 49, 50, 51, 52, 53, 54, 55, 56, 57, 58, 59, 60, 20, 61, 62, 63, 64, 65, 66, 67, 68, 69, 70, 71, 72, 73, 17, 18, 471, 472, 473, 474, 475] (by decide +kernel) (by decide +kernel)) (goodIn_sub (fun _ h => List.mem_append_left _ (List.mem_append_left _ (List.mem_append_left _ (List.mem_append_left _ (List.mem_append_right _ h))))) (by decide +kernel))) (goodIn_sub (fun _ h => List.mem_append_left _ (List.mem_append_left _ (List.mem_append_left _ (List.mem_append_right _ h)))) (by decide +kernel))
set_option maxRecDepth 20000 in
theorem gL_law_L_level : GoodIn wsL_law (va_wsS RL 103 yL_level wsL_level) := goodIn_app (goodIn_of _ (by decide +kernel)) ggL_law_L_level
set_option maxRecDepth 20000 in
theorem ggL_law_X1_level : GoodIn wsL_law wsX1_level := goodIn_r _ [77, 29, 78, 79, 5, 80, 81, 82, 83, 84, 85, 86, 87, 88, 89, 90, 91, 92, 93, 94, 27, 28, 476, 477, 478, 479, 480, 481, 482, 483, 484, 485] (by decide +kernel) (by decide +kernel)
set_option maxRecDepth 20000 in
theorem gL_law_X1_level : GoodIn wsL_law (wsV RL 108 RX1 yX1_level wsX1_level) := goodIn_app (goodIn_of _ (by decide +kernel)) ggL_law_X1_level
set_option maxRecDepth 20000 in
theorem ggL_law_X1_thrown : GoodIn wsL_law wsX1_thrown := goodIn_r _ [98, 90, 476, 477, 478, 479, 480, 481, 482, 483, 484, 485] (by decide +kernel) (by decide +kernel)
set_option maxRecDepth 20000 in
theorem gL_law_X1_thrown : GoodIn wsL_law (wsV RL 109 RX1 yX1_thrown wsX1_thrown) := goodIn_app (goodIn_of _ (by decide +kernel)) ggL_law_X1_thrown
set_option maxRecDepth 20000 in
theorem ggL_law_L_wind : GoodIn wsL_law wsL_wind := goodIn_ca (goodIn_ca (goodIn_r _ [101, 38, 39, 102, 103, 104, 2, 105, 44, 45, 46, 47, 48, 106, 107, 108, 109, 54, 55, 56, 57, 58, 59, 60, 20, 61, 62, 63, 64, 65, 66, 67, 68, 69, 70, 71, 72, 73, 17, 18, 471, 472, 473, 474, 475] (by decide +kernel) (by decide +kernel)) (goodIn_sub (fun _ h => List.mem_append_left _ (List.mem_append_left _ (List.mem_append_left _ (List.mem_append_left _ (List.mem_append_right _ h))))) (by decide +kernel))) (goodIn_sub (fun _ h => List.mem_append_left _ (List.mem_append_left _ (List.mem_append_left _ (List.mem_append_right _ h)))) (by decide +kernel))
set_option maxRecDepth 20000 in
theorem gL_law_L_wind : GoodIn wsL_law (va_wsS RL 114 yL_wind wsL_wind) := goodIn_app (goodIn_of _ (by decide +kernel)) ggL_law_L_wind
set_option maxRecDepth 20000 in
theorem ggL_law_X1_wind : GoodIn wsL_law wsX1_wind := goodIn_r _ [113, 29, 78, 79, 5, 80, 114, 115, 116, 117, 86, 87, 88, 89, 90, 91, 92, 93, 94, 27, 28, 476, 477, 478, 479, 480, 481, 482, 483, 484, 485] (by decide +kernel) (by decide +kernel)
set_option maxRecDepth 20000 in
theorem gL_law_X1_wind : GoodIn wsL_law (wsV RL 117 RX1 yX1_wind wsX1_wind) := goodIn_app (goodIn_of _ (by decide +kernel)) ggL_law_X1_wind
set_option maxRecDepth 20000 in
theorem ggL_law_L_out : GoodIn wsL_law wsL_out := goodIn_ca (goodIn_ca (goodIn_r _ [120, 38, 39, 121, 122, 123, 2, 124, 44, 45, 46, 47, 48, 125, 126, 127, 54, 55, 56, 128, 129, 130, 131, 20, 61, 62, 63, 64, 65, 66, 67, 68, 69, 132, 133, 134, 135, 17, 471, 472, 473, 474, 475] (by decide +kernel) (by decide +kernel)) (goodIn_sub (fun _ h => List.mem_append_left _ (List.mem_append_left _ (List.mem_append_left _ (List.mem_append_left _ (List.mem_append_right _ h))))) (by decide +kernel))) (goodIn_sub (fun _ h => List.mem_append_left _ (List.mem_append_left _ (List.mem_append_left _ (List.mem_append_right _ h)))) (by decide +kernel))
set_option maxRecDepth 20000 in
theorem gL_law_L_out : GoodIn wsL_law (va_wsS RL 118 yL_out wsL_out) := goodIn_app (goodIn_of _ (by decide +kernel)) ggL_law_L_out
set_option maxRecDepth 20000 in
theorem ggL_law_X1_out : GoodIn wsL_law wsX1_out := goodIn_r _ [139, 29, 78, 79, 5, 80, 86, 87, 88, 89, 90, 91, 92, 93, 94, 27, 28, 476, 477, 478, 479, 480, 481, 482, 483, 484, 485] (by decide +kernel) (by decide +kernel)
set_option maxRecDepth 20000 in
theorem gL_law_X1_out : GoodIn wsL_law (wsV RL 121 RX1 yX1_out wsX1_out) := goodIn_app (goodIn_of _ (by decide +kernel)) ggL_law_X1_out
set_option maxRecDepth 20000 in
theorem ggL_law_L_clear : GoodIn wsL_law wsL_clear := goodIn_ca (goodIn_r _ [142, 38, 143, 144, 145, 2, 146, 44, 45, 46, 47, 48, 54, 55, 56, 147, 148, 149, 150, 20, 471, 472, 473, 474, 475] (by decide +kernel) (by decide +kernel)) (goodIn_sub (fun _ h => List.mem_append_left _ (List.mem_append_left _ (List.mem_append_left _ (List.mem_append_left _ (List.mem_append_right _ h))))) (by decide +kernel))
set_option maxRecDepth 20000 in
theorem gL_law_L_clear : GoodIn wsL_law (va_wsS RL 122 yL_clear wsL_clear) := goodIn_app (goodIn_of _ (by decide +kernel)) ggL_law_L_clear
set_option maxRecDepth 20000 in
theorem ggL_law_X1_clear : GoodIn wsL_law wsX1_clear := goodIn_r _ [154, 29, 78, 79, 5, 80, 86, 87, 88, 89, 90, 476, 477, 478, 479, 480, 481, 482, 483, 484, 485] (by decide +kernel) (by decide +kernel)
set_option maxRecDepth 20000 in
theorem gL_law_X1_clear : GoodIn wsL_law (wsV RL 125 RX1 yX1_clear wsX1_clear) := goodIn_app (goodIn_of _ (by decide +kernel)) ggL_law_X1_clear
set_option maxRecDepth 20000 in
theorem ggL_law_L_mark : GoodIn wsL_law wsL_mark := goodIn_ca (goodIn_r _ [157, 38, 158, 159, 160, 2, 161, 47, 48, 44, 45, 46, 49, 50, 51, 52, 53, 162, 163, 164, 70, 71, 72, 73, 17, 18, 471, 472, 473, 474, 475] (by decide +kernel) (by decide +kernel)) (goodIn_sub (fun _ h => List.mem_append_left _ (List.mem_append_left _ (List.mem_append_left _ (List.mem_append_left _ (List.mem_append_right _ h))))) (by decide +kernel))
set_option maxRecDepth 20000 in
theorem gL_law_L_mark : GoodIn wsL_law (va_wsS RL 126 yL_mark wsL_mark) := goodIn_app (goodIn_of _ (by decide +kernel)) ggL_law_L_mark
set_option maxRecDepth 20000 in
theorem ggL_law_X1_mark : GoodIn wsL_law wsX1_mark := goodIn_r _ [168, 78, 79, 5, 80, 81, 82, 83, 84, 85, 86, 87, 88, 89, 90, 169, 170, 171, 172, 31, 30, 476, 477, 478, 479, 480, 481, 482, 483, 484, 485] (by decide +kernel) (by decide +kernel)
set_option maxRecDepth 20000 in
theorem gL_law_X1_mark : GoodIn wsL_law (wsV RL 129 RX1 yX1_mark wsX1_mark) := goodIn_app (goodIn_of _ (by decide +kernel)) ggL_law_X1_mark
set_option maxRecDepth 20000 in
theorem ggL_law_L_gale : GoodIn wsL_law wsL_gale := goodIn_ca (goodIn_r _ [175, 38, 176, 177, 178, 2, 179, 44, 45, 46, 47, 48, 106, 107, 108, 109, 162, 163, 164, 70, 71, 72, 73, 17, 18, 471, 472, 473, 474, 475] (by decide +kernel) (by decide +kernel)) (goodIn_sub (fun _ h => List.mem_append_left _ (List.mem_append_left _ (List.mem_append_left _ (List.mem_append_left _ (List.mem_append_right _ h))))) (by decide +kernel))
set_option maxRecDepth 20000 in
theorem gL_law_L_gale : GoodIn wsL_law (va_wsS RL 130 yL_gale wsL_gale) := goodIn_app (goodIn_of _ (by decide +kernel)) ggL_law_L_gale
set_option maxRecDepth 20000 in
theorem ggL_law_X1_gale : GoodIn wsL_law wsX1_gale := goodIn_r _ [183, 78, 79, 5, 80, 114, 115, 116, 117, 86, 87, 88, 89, 90, 169, 170, 171, 172, 31, 30, 476, 477, 478, 479, 480, 481, 482, 483, 484, 485] (by decide +kernel) (by decide +kernel)
set_option maxRecDepth 20000 in
theorem gL_law_X1_gale : GoodIn wsL_law (wsV RL 132 RX1 yX1_gale wsX1_gale) := goodIn_app (goodIn_of _ (by decide +kernel)) ggL_law_X1_gale
set_option maxRecDepth 20000 in
theorem ggL_law_L_lift : GoodIn wsL_law wsL_lift := goodIn_ca (goodIn_r _ [186, 38, 187, 188, 189, 2, 190, 47, 48, 44, 45, 46, 162, 163, 164, 132, 133, 134, 135, 17, 471, 472, 473, 474, 475] (by decide +kernel) (by decide +kernel)) (goodIn_sub (fun _ h => List.mem_append_left _ (List.mem_append_left _ (List.mem_append_left _ (List.mem_append_left _ (List.mem_append_right _ h))))) (by decide +kernel))
set_option maxRecDepth 20000 in
theorem gL_law_L_lift : GoodIn wsL_law (va_wsS RL 133 yL_lift wsL_lift) := goodIn_app (goodIn_of _ (by decide +kernel)) ggL_law_L_lift
set_option maxRecDepth 20000 in
theorem ggL_law_X1_lift : GoodIn wsL_law wsX1_lift := goodIn_r _ [194, 78, 79, 5, 80, 86, 87, 88, 89, 90, 169, 170, 171, 172, 31, 30, 476, 477, 478, 479, 480, 481, 482, 483, 484, 485] (by decide +kernel) (by decide +kernel)
set_option maxRecDepth 20000 in
theorem gL_law_X1_lift : GoodIn wsL_law (wsV RL 135 RX1 yX1_lift wsX1_lift) := goodIn_app (goodIn_of _ (by decide +kernel)) ggL_law_X1_lift
set_option maxRecDepth 20000 in
theorem ggL_law_L_probe : GoodIn wsL_law wsL_probe := goodIn_ca (goodIn_r _ [197, 38, 198, 199, 200, 2, 201, 49, 50, 51, 47, 48, 52, 53, 202, 203, 204, 70, 71, 72, 73, 17, 18, 205, 206, 207, 208, 209, 210, 211, 212, 20, 54, 55, 56, 67, 68, 69, 213, 214, 215, 216, 471, 472, 473, 474, 475] (by decide +kernel) (by decide +kernel)) (goodIn_sub (fun _ h => List.mem_append_left _ (List.mem_append_left _ (List.mem_append_left _ (List.mem_append_left _ (List.mem_append_right _ h))))) (by decide +kernel))
set_option maxRecDepth 20000 in
theorem gL_law_L_probe : GoodIn wsL_law (va_wsS RL 136 yL_probe wsL_probe) := goodIn_app (goodIn_of _ (by decide +kernel)) ggL_law_L_probe
set_option maxRecDepth 20000 in
theorem ggL_law_X1_probe : GoodIn wsL_law wsX1_probe := goodIn_r _ [220, 81, 82, 5, 83, 84, 85, 86, 87, 88, 89, 90, 221, 222, 223, 224, 33, 32, 225, 226, 227, 228, 29, 28, 229, 230, 231, 232, 233, 234, 235, 236, 27, 237, 238, 239, 240, 241, 242, 243, 244, 245, 476, 477, 478, 479, 480, 481, 482, 483, 484, 485] (by decide +kernel) (by decide +kernel)
set_option maxRecDepth 20000 in
theorem gL_law_X1_probe : GoodIn wsL_law (wsV RL 139 RX1 yX1_probe wsX1_probe) := goodIn_app (goodIn_of _ (by decide +kernel)) ggL_law_X1_probe
set_option maxRecDepth 20000 in
theorem ggL_law_L_probeWind : GoodIn wsL_law wsL_probeWind := goodIn_ca (goodIn_r _ [248, 38, 249, 250, 251, 2, 252, 106, 107, 108, 47, 48, 109, 202, 203, 204, 70, 71, 72, 73, 17, 18, 205, 206, 207, 208, 209, 210, 211, 212, 20, 54, 55, 56, 67, 68, 69, 213, 214, 215, 216, 471, 472, 473, 474, 475] (by decide +kernel) (by decide +kernel)) (goodIn_sub (fun _ h => List.mem_append_left _ (List.mem_append_left _ (List.mem_append_left _ (List.mem_append_left _ (List.mem_append_right _ h))))) (by decide +kernel))
set_option maxRecDepth 20000 in
theorem gL_law_L_probeWind : GoodIn wsL_law (va_wsS RL 140 yL_probeWind wsL_probeWind) := goodIn_app (goodIn_of _ (by decide +kernel)) ggL_law_L_probeWind
set_option maxRecDepth 20000 in
theorem ggL_law_X1_probeWind : GoodIn wsL_law wsX1_probeWind := goodIn_r _ [256, 114, 115, 5, 116, 117, 86, 87, 88, 89, 90, 221, 222, 223, 224, 33, 32, 225, 226, 227, 228, 29, 28, 229, 230, 231, 232, 233, 234, 235, 236, 27, 237, 238, 239, 240, 241, 242, 243, 244, 245, 476, 477, 478, 479, 480, 481, 482, 483, 484, 485] (by decide +kernel) (by decide +kernel)
set_option maxRecDepth 20000 in
theorem gL_law_X1_probeWind : GoodIn wsL_law (wsV RL 143 RX1 yX1_probeWind wsX1_probeWind) := goodIn_app (goodIn_of _ (by decide +kernel)) ggL_law_X1_probeWind
set_option maxRecDepth 20000 in
theorem ggL_law_L_probeOut : GoodIn wsL_law wsL_probeOut := goodIn_ca (goodIn_r _ [259, 38, 260, 261, 262, 2, 263, 125, 126, 127, 47, 48, 202, 203, 204, 132, 133, 134, 135, 17, 205, 206, 207, 208, 209, 210, 211, 212, 20, 54, 55, 56, 67, 68, 69, 213, 214, 215, 216, 18, 471, 472, 473, 474, 475] (by decide +kernel) (by decide +kernel)) (goodIn_sub (fun _ h => List.mem_append_left _ (List.mem_append_left _ (List.mem_append_left _ (List.mem_append_left _ (List.mem_append_right _ h))))) (by decide +kernel))
set_option maxRecDepth 20000 in
theorem gL_law_L_probeOut : GoodIn wsL_law (va_wsS RL 144 yL_probeOut wsL_probeOut) := goodIn_app (goodIn_of _ (by decide +kernel)) ggL_law_L_probeOut
set_option maxRecDepth 20000 in
theorem ggL_law_X1_probeOut : GoodIn wsL_law wsX1_probeOut := goodIn_r _ [267, 78, 79, 5, 80, 86, 87, 88, 89, 90, 221, 222, 223, 224, 33, 32, 225, 226, 227, 228, 29, 28, 229, 230, 231, 232, 233, 234, 235, 236, 27, 237, 238, 239, 240, 241, 242, 243, 244, 245, 476, 477, 478, 479, 480, 481, 482, 483, 484, 485] (by decide +kernel) (by decide +kernel)
set_option maxRecDepth 20000 in
theorem gL_law_X1_probeOut : GoodIn wsL_law (wsV RL 146 RX1 yX1_probeOut wsX1_probeOut) := goodIn_app (goodIn_of _ (by decide +kernel)) ggL_law_X1_probeOut
set_option maxRecDepth 20000 in
theorem ggL_law_L_run : GoodIn wsL_law wsL_run := goodIn_ca (goodIn_r _ [270, 38, 271, 272, 273, 2, 274, 44, 45, 46, 47, 48, 125, 126, 127, 275, 276, 277, 54, 55, 56, 202, 203, 204, 278, 279, 280, 281, 20, 67, 68, 69, 213, 214, 215, 216, 17, 18, 282, 283, 284, 285, 471, 472, 473, 474, 475] (by decide +kernel) (by decide +kernel)) (goodIn_sub (fun _ h => List.mem_append_left _ (List.mem_append_left _ (List.mem_append_left _ (List.mem_append_left _ (List.mem_append_right _ h))))) (by decide +kernel))
set_option maxRecDepth 20000 in
theorem gL_law_L_run : GoodIn wsL_law (va_wsS RL 147 yL_run wsL_run) := goodIn_app (goodIn_of _ (by decide +kernel)) ggL_law_L_run
set_option maxRecDepth 20000 in
theorem ggL_law_X1_run : GoodIn wsL_law wsX1_run := goodIn_r _ [289, 29, 78, 79, 5, 80, 86, 87, 88, 89, 90, 290, 291, 292, 293, 28, 33, 27, 32, 237, 238, 239, 240, 241, 242, 243, 244, 245, 476, 477, 478, 479, 480, 481, 482, 483, 484, 485] (by decide +kernel) (by decide +kernel)
set_option maxRecDepth 20000 in
theorem gL_law_X1_run : GoodIn wsL_law (wsV RL 150 RX1 yX1_run wsX1_run) := goodIn_app (goodIn_of _ (by decide +kernel)) ggL_law_X1_run
set_option maxRecDepth 20000 in
theorem ggL_law_L_count : GoodIn wsL_law wsL_count := goodIn_ca (goodIn_r _ [296, 38, 297, 298, 299, 2, 300, 20, 44, 45, 46, 47, 48, 125, 126, 127, 275, 276, 277, 54, 55, 56, 67, 68, 69, 202, 203, 204, 213, 214, 215, 216, 17, 18, 471, 472, 473, 474, 475] (by decide +kernel) (by decide +kernel)) (goodIn_sub (fun _ h => List.mem_append_left _ (List.mem_append_left _ (List.mem_append_left _ (List.mem_append_left _ (List.mem_append_right _ h))))) (by decide +kernel))
set_option maxRecDepth 20000 in
theorem gL_law_L_count : GoodIn wsL_law (va_wsS RL 151 yL_count wsL_count) := goodIn_app (goodIn_of _ (by decide +kernel)) ggL_law_L_count
set_option maxRecDepth 20000 in
theorem ggL_law_X1_count : GoodIn wsL_law wsX1_count := goodIn_r _ [304, 29, 78, 79, 5, 80, 86, 87, 88, 89, 90, 290, 291, 292, 293, 28, 33, 27, 32, 237, 238, 239, 240, 241, 242, 243, 244, 245, 476, 477, 478, 479, 480, 481, 482, 483, 484, 485] (by decide +kernel) (by decide +kernel)
set_option maxRecDepth 20000 in
theorem gL_law_X1_count : GoodIn wsL_law (wsV RL 153 RX1 yX1_count wsX1_count) := goodIn_app (goodIn_of _ (by decide +kernel)) ggL_law_X1_count
set_option maxRecDepth 20000 in
theorem ggL_law_L_holds : GoodIn wsL_law wsL_holds := goodIn_ca (goodIn_r _ [307, 38, 308, 309, 310, 2, 311, 44, 45, 46, 47, 48, 125, 126, 127, 275, 276, 277, 209, 210, 211, 212, 20, 54, 55, 56, 67, 68, 69, 213, 214, 215, 216, 17, 18, 471, 472, 473, 474, 475] (by decide +kernel) (by decide +kernel)) (goodIn_sub (fun _ h => List.mem_append_left _ (List.mem_append_left _ (List.mem_append_left _ (List.mem_append_left _ (List.mem_append_right _ h))))) (by decide +kernel))
set_option maxRecDepth 20000 in
theorem gL_law_L_holds : GoodIn wsL_law (va_wsS RL 154 yL_holds wsL_holds) := goodIn_app (goodIn_of _ (by decide +kernel)) ggL_law_L_holds
set_option maxRecDepth 20000 in
theorem ggL_law_X1_holds : GoodIn wsL_law wsX1_holds := goodIn_r _ [315, 78, 79, 5, 80, 86, 87, 88, 89, 90, 316, 317, 318, 319, 225, 226, 227, 228, 29, 28, 229, 230, 231, 232, 233, 234, 235, 236, 27, 237, 238, 239, 240, 241, 242, 243, 244, 245, 476, 477, 478, 479, 480, 481, 482, 483, 484, 485] (by decide +kernel) (by decide +kernel)
set_option maxRecDepth 20000 in
theorem gL_law_X1_holds : GoodIn wsL_law (wsV RL 157 RX1 yX1_holds wsX1_holds) := goodIn_app (goodIn_of _ (by decide +kernel)) ggL_law_X1_holds
set_option maxRecDepth 20000 in
theorem ggL_law_L_pick : GoodIn wsL_law wsL_pick := goodIn_ca (goodIn_r _ [322, 38, 323, 324, 325, 2, 326, 44, 45, 46, 47, 48, 125, 126, 127, 275, 276, 277, 209, 210, 211, 212, 20, 54, 55, 56, 67, 68, 69, 213, 214, 215, 216, 17, 18, 471, 472, 473, 474, 475] (by decide +kernel) (by decide +kernel)) (goodIn_sub (fun _ h => List.mem_append_left _ (List.mem_append_left _ (List.mem_append_left _ (List.mem_append_left _ (List.mem_append_right _ h))))) (by decide +kernel))
set_option maxRecDepth 20000 in
theorem gL_law_L_pick : GoodIn wsL_law (va_wsS RL 158 yL_pick wsL_pick) := goodIn_app (goodIn_of _ (by decide +kernel)) ggL_law_L_pick
set_option maxRecDepth 20000 in
theorem ggL_law_X1_pick : GoodIn wsL_law wsX1_pick := goodIn_r _ [330, 78, 79, 5, 80, 86, 87, 88, 89, 90, 316, 317, 318, 319, 225, 226, 227, 228, 29, 28, 229, 230, 231, 232, 233, 234, 235, 236, 27, 237, 238, 239, 240, 241, 242, 243, 244, 245, 476, 477, 478, 479, 480, 481, 482, 483, 484, 485] (by decide +kernel) (by decide +kernel)
set_option maxRecDepth 20000 in
theorem gL_law_X1_pick : GoodIn wsL_law (wsV RL 160 RX1 yX1_pick wsX1_pick) := goodIn_app (goodIn_of _ (by decide +kernel)) ggL_law_X1_pick
set_option maxRecDepth 20000 in
theorem ggL_law_L_stand : GoodIn wsL_law wsL_stand := goodIn_ca (goodIn_r _ [333, 38, 334, 335, 336, 2, 337, 44, 45, 46, 47, 48, 338, 339, 340, 341, 20, 17, 54, 55, 56, 209, 210, 211, 212, 67, 68, 69, 162, 163, 164, 213, 214, 215, 216, 18, 342, 343, 344, 345, 471, 472, 473, 474, 475] (by decide +kernel) (by decide +kernel)) (goodIn_sub (fun _ h => List.mem_append_left _ (List.mem_append_left _ (List.mem_append_left _ (List.mem_append_left _ (List.mem_append_right _ h))))) (by decide +kernel))
set_option maxRecDepth 20000 in
theorem gL_law_L_stand : GoodIn wsL_law (va_wsS RL 161 yL_stand wsL_stand) := goodIn_app (goodIn_of _ (by decide +kernel)) ggL_law_L_stand
set_option maxRecDepth 20000 in
theorem ggL_law_X1_stand : GoodIn wsL_law wsX1_stand := goodIn_r _ [349, 31, 78, 79, 5, 80, 86, 87, 88, 89, 90, 350, 351, 352, 353, 30, 225, 226, 227, 228, 29, 28, 229, 230, 231, 232, 233, 234, 235, 236, 27, 237, 238, 239, 354, 355, 356, 357, 476, 477, 478, 479, 480, 481, 482, 483, 484, 485] (by decide +kernel) (by decide +kernel)
set_option maxRecDepth 20000 in
theorem gL_law_X1_stand : GoodIn wsL_law (wsV RL 163 RX1 yX1_stand wsX1_stand) := goodIn_app (goodIn_of _ (by decide +kernel)) ggL_law_X1_stand
set_option maxRecDepth 20000 in
theorem ggL_law_L_order : GoodIn wsL_law wsL_order := goodIn_ca (goodIn_r _ [360, 38, 361, 362, 363, 2, 364, 47, 48, 365, 366, 367, 368, 369, 370, 371, 372, 17, 209, 210, 211, 212, 20, 54, 55, 56, 67, 68, 69, 373, 374, 375, 376, 213, 214, 215, 216, 18, 471, 472, 473, 474, 475] (by decide +kernel) (by decide +kernel)) (goodIn_sub (fun _ h => List.mem_append_left _ (List.mem_append_left _ (List.mem_append_left _ (List.mem_append_left _ (List.mem_append_right _ h))))) (by decide +kernel))
set_option maxRecDepth 20000 in
theorem gL_law_L_order : GoodIn wsL_law (va_wsS RL 164 yL_order wsL_order) := goodIn_app (goodIn_of _ (by decide +kernel)) ggL_law_L_order
set_option maxRecDepth 20000 in
theorem ggL_law_X1_order : GoodIn wsL_law wsX1_order := goodIn_r _ [380, 78, 79, 5, 80, 86, 87, 88, 89, 90, 381, 382, 383, 384, 225, 226, 227, 228, 29, 28, 229, 230, 231, 232, 316, 317, 318, 319, 233, 234, 235, 236, 27, 237, 238, 239, 476, 477, 478, 479, 480, 481, 482, 483, 484, 485] (by decide +kernel) (by decide +kernel)
set_option maxRecDepth 20000 in
theorem gL_law_X1_order : GoodIn wsL_law (wsV RL 166 RX1 yX1_order wsX1_order) := goodIn_app (goodIn_of _ (by decide +kernel)) ggL_law_X1_order
set_option maxRecDepth 20000 in
theorem ggL_law_L_highest : GoodIn wsL_law wsL_highest := goodIn_ca (goodIn_ca (goodIn_r _ [387, 38, 388, 389, 390, 391, 2, 392, 18, 44, 45, 46, 47, 48, 54, 55, 56, 393, 394, 395, 396, 397, 398, 20, 17, 67, 68, 69, 213, 214, 215, 216, 471, 472, 473, 474, 475] (by decide +kernel) (by decide +kernel)) (goodIn_sub (fun _ h => List.mem_append_left _ (List.mem_append_left _ (List.mem_append_left _ (List.mem_append_left _ (List.mem_append_right _ h))))) (by decide +kernel))) (goodIn_sub (fun _ h => List.mem_append_left _ (List.mem_append_left _ (List.mem_append_right _ h))) (by decide +kernel))
set_option maxRecDepth 20000 in
theorem gL_law_L_highest : GoodIn wsL_law (va_wsS RL 167 yL_highest wsL_highest) := goodIn_app (goodIn_of _ (by decide +kernel)) ggL_law_L_highest
set_option maxRecDepth 20000 in
theorem ggL_law_X1_highest : GoodIn wsL_law wsX1_highest := goodIn_r _ [402, 27, 78, 79, 5, 80, 403, 404, 405, 406, 29, 28, 237, 238, 239, 86, 87, 88, 89, 90, 476, 477, 478, 479, 480, 481, 482, 483, 484, 485] (by decide +kernel) (by decide +kernel)
set_option maxRecDepth 20000 in
theorem gL_law_X1_highest : GoodIn wsL_law (wsV RL 170 RX1 yX1_highest wsX1_highest) := goodIn_app (goodIn_of _ (by decide +kernel)) ggL_law_X1_highest
set_option maxRecDepth 20000 in
theorem ggL_law_L_calmest : GoodIn wsL_law wsL_calmest := goodIn_ca (goodIn_ca (goodIn_r _ [409, 38, 388, 410, 411, 412, 2, 413, 18, 44, 45, 46, 47, 48, 54, 55, 56, 393, 394, 395, 396, 397, 398, 20, 17, 67, 68, 69, 213, 214, 215, 216, 471, 472, 473, 474, 475] (by decide +kernel) (by decide +kernel)) (goodIn_sub (fun _ h => List.mem_append_left _ (List.mem_append_left _ (List.mem_append_left _ (List.mem_append_left _ (List.mem_append_right _ h))))) (by decide +kernel))) (goodIn_sub (fun _ h => List.mem_append_left _ (List.mem_append_left _ (List.mem_append_right _ h))) (by decide +kernel))
set_option maxRecDepth 20000 in
theorem gL_law_L_calmest : GoodIn wsL_law (va_wsS RL 171 yL_calmest wsL_calmest) := goodIn_app (goodIn_of _ (by decide +kernel)) ggL_law_L_calmest
set_option maxRecDepth 20000 in
theorem ggL_law_X1_calmest : GoodIn wsL_law wsX1_calmest := goodIn_r _ [417, 27, 78, 79, 5, 80, 403, 404, 405, 406, 29, 28, 237, 238, 239, 86, 87, 88, 89, 90, 476, 477, 478, 479, 480, 481, 482, 483, 484, 485] (by decide +kernel) (by decide +kernel)
set_option maxRecDepth 20000 in
theorem gL_law_X1_calmest : GoodIn wsL_law (wsV RL 173 RX1 yX1_calmest wsX1_calmest) := goodIn_app (goodIn_of _ (by decide +kernel)) ggL_law_X1_calmest
set_option maxRecDepth 20000 in
theorem ggL_law_L_same : GoodIn wsL_law wsL_same := goodIn_ca (goodIn_r _ [420, 38, 421, 422, 423, 2, 424, 20, 425, 426, 427, 428, 44, 45, 46, 47, 48, 54, 55, 56, 67, 68, 69, 373, 374, 375, 376, 17, 213, 214, 215, 216, 18, 471, 472, 473, 474, 475] (by decide +kernel) (by decide +kernel)) (goodIn_sub (fun _ h => List.mem_append_left _ (List.mem_append_left _ (List.mem_append_left _ (List.mem_append_left _ (List.mem_append_right _ h))))) (by decide +kernel))
set_option maxRecDepth 20000 in
theorem gL_law_L_same : GoodIn wsL_law (va_wsS RL 174 yL_same wsL_same) := goodIn_app (goodIn_of _ (by decide +kernel)) ggL_law_L_same
set_option maxRecDepth 20000 in
theorem ggL_law_X1_same : GoodIn wsL_law wsX1_same := goodIn_r _ [432, 29, 28, 27, 78, 79, 5, 80, 86, 87, 88, 89, 90, 237, 238, 239, 476, 477, 478, 479, 480, 481, 482, 483, 484, 485] (by decide +kernel) (by decide +kernel)
set_option maxRecDepth 20000 in
theorem gL_law_X1_same : GoodIn wsL_law (wsV RL 176 RX1 yX1_same wsX1_same) := goodIn_app (goodIn_of _ (by decide +kernel)) ggL_law_X1_same
set_option maxRecDepth 20000 in
theorem ggL_law_L_move : GoodIn wsL_law wsL_move := goodIn_ca (goodIn_ca (goodIn_ca (goodIn_r _ [435, 39, 436, 437, 438, 439, 440, 2, 441, 65, 66, 21, 22, 442, 443, 444, 445, 446, 447, 448, 449, 17, 209, 210, 211, 212, 20, 54, 55, 56, 67, 68, 69, 213, 214, 215, 216, 18, 162, 163, 164, 450, 451, 452, 453, 471, 472, 473, 474, 475] (by decide +kernel) (by decide +kernel)) (goodIn_sub (fun _ h => List.mem_append_left _ (List.mem_append_left _ (List.mem_append_left _ (List.mem_append_right _ h)))) (by decide +kernel))) (goodIn_sub (fun _ h => List.mem_append_left _ (List.mem_append_right _ h)) (by decide +kernel))) (goodIn_sub (fun _ h => List.mem_append_right _ h) (by decide +kernel))
set_option maxRecDepth 20000 in
theorem gL_law_L_move : GoodIn wsL_law (va_wsS RL 177 yL_move wsL_move) := goodIn_app (goodIn_of _ (by decide +kernel)) ggL_law_L_move
set_option maxRecDepth 20000 in
theorem ggL_law_X1_move : GoodIn wsL_law wsX1_move := goodIn_r _ [457, 458, 31, 30, 459, 316, 317, 318, 5, 319, 225, 226, 227, 228, 29, 28, 229, 230, 231, 232, 233, 234, 235, 236, 27, 237, 238, 239, 350, 351, 352, 353, 86, 87, 88, 89, 90, 476, 477, 478, 479, 480, 481, 482, 483, 484, 485] (by decide +kernel) (by decide +kernel)
set_option maxRecDepth 20000 in
theorem gL_law_X1_move : GoodIn wsL_law (wsV RL 180 RX1 yX1_move wsX1_move) := goodIn_app (goodIn_of _ (by decide +kernel)) ggL_law_X1_move
set_option maxRecDepth 20000 in
theorem ggL_law_L_size : GoodIn wsL_law wsL_size := goodIn_ca (goodIn_r _ [462, 38, 463, 464, 465, 2, 466, 20, 44, 45, 46, 47, 48, 125, 126, 127, 54, 55, 56, 471, 472, 473, 474, 475] (by decide +kernel) (by decide +kernel)) (goodIn_sub (fun _ h => List.mem_append_left _ (List.mem_append_left _ (List.mem_append_left _ (List.mem_append_left _ (List.mem_append_right _ h))))) (by decide +kernel))
set_option maxRecDepth 20000 in
theorem gL_law_L_size : GoodIn wsL_law (va_wsS RL 181 yL_size wsL_size) := goodIn_app (goodIn_of _ (by decide +kernel)) ggL_law_L_size
set_option maxRecDepth 20000 in
theorem ggL_law_X1_size : GoodIn wsL_law wsX1_size := goodIn_r _ [470, 29, 78, 79, 5, 80, 86, 87, 88, 89, 90, 476, 477, 478, 479, 480, 481, 482, 483, 484, 485] (by decide +kernel) (by decide +kernel)
set_option maxRecDepth 20000 in
theorem gL_law_X1_size : GoodIn wsL_law (wsV RL 183 RX1 yX1_size wsX1_size) := goodIn_app (goodIn_of _ (by decide +kernel)) ggL_law_X1_size
abbrev vwCl : List vw_C := [(RJ0, TJ0, 2), (RX0, TX0, 5), (RX1, TX1, 10)]
end
section
theorem dL_law_0 : decode cL_law 0 = .ok (.new 8, 3) := by decide +kernel
theorem dL_law_3 : decode cL_law 3 = .ok (.dup, 1) := by decide +kernel
theorem dL_law_4 : decode cL_law 4 = .ok (.invokespecial 97, 3) := by decide +kernel
theorem dL_law_7 : decode cL_law 7 = .ok (.astore_n 1, 1) := by decide +kernel
theorem dL_law_8 : decode cL_law 8 = .ok (.new 98, 3) := by decide +kernel
theorem dL_law_11 : decode cL_law 11 = .ok (.dup, 1) := by decide +kernel
theorem dL_law_12 : decode cL_law 12 = .ok (.invokespecial 100, 3) := by decide +kernel
theorem dL_law_15 : decode cL_law 15 = .ok (.astore_n 2, 1) := by decide +kernel
theorem dL_law_16 : decode cL_law 16 = .ok (.iconst 1, 1) := by decide +kernel
theorem dL_law_17 : decode cL_law 17 = .ok (.newarray .long, 2) := by decide +kernel
theorem dL_law_19 : decode cL_law 19 = .ok (.astore_n 3, 1) := by decide +kernel
theorem dL_law_20 : decode cL_law 20 = .ok (.iconst 1, 1) := by decide +kernel
theorem dL_law_21 : decode cL_law 21 = .ok (.newarray .double, 2) := by decide +kernel
theorem dL_law_23 : decode cL_law 23 = .ok (.astore 4, 2) := by decide +kernel
theorem dL_law_25 : decode cL_law 25 = .ok (.iconst 0, 1) := by decide +kernel
theorem dL_law_26 : decode cL_law 26 = .ok (.istore 5, 2) := by decide +kernel
theorem dL_law_28 : decode cL_law 28 = .ok (.iload 5, 2) := by decide +kernel
theorem dL_law_30 : decode cL_law 30 = .ok (.aload_n 0, 1) := by decide +kernel
theorem dL_law_31 : decode cL_law 31 = .ok (.arraylength, 1) := by decide +kernel
theorem dL_law_32 : decode cL_law 32 = .ok (.iconst 5, 1) := by decide +kernel
theorem dL_law_33 : decode cL_law 33 = .ok (.isub, 1) := by decide +kernel
theorem dL_law_34 : decode cL_law 34 = .ok (.if_icmp .gt 1717, 3) := by decide +kernel
theorem dL_law_37 : decode cL_law 37 = .ok (.aload_n 0, 1) := by decide +kernel
theorem dL_law_38 : decode cL_law 38 = .ok (.iload 5, 2) := by decide +kernel
theorem dL_law_40 : decode cL_law 40 = .ok (.iaload, 1) := by decide +kernel
theorem dL_law_41 : decode cL_law 41 = .ok (.bipush 31, 2) := by decide +kernel
theorem dL_law_43 : decode cL_law 43 = .ok (.iand, 1) := by decide +kernel
theorem dL_law_44 : decode cL_law 44 = .ok (.tableswitch 1701 0 20 #[100, 178, 254, 322, 378, 475, 558, 633, 699, 763, 819, 927, 1035, 1134, 1226, 1282, 1338, 1415, 1493, 1561, 1633], 100) := by decide +kernel
theorem dL_law_144 : decode cL_law 144 = .ok (.aload_n 1, 1) := by decide +kernel
theorem dL_law_145 : decode cL_law 145 = .ok (.aload_n 0, 1) := by decide +kernel
theorem dL_law_146 : decode cL_law 146 = .ok (.iload 5, 2) := by decide +kernel
theorem dL_law_148 : decode cL_law 148 = .ok (.iconst 1, 1) := by decide +kernel
theorem dL_law_149 : decode cL_law 149 = .ok (.iadd, 1) := by decide +kernel
theorem dL_law_150 : decode cL_law 150 = .ok (.iaload, 1) := by decide +kernel
theorem dL_law_151 : decode cL_law 151 = .ok (.aload_n 0, 1) := by decide +kernel
theorem dL_law_152 : decode cL_law 152 = .ok (.iload 5, 2) := by decide +kernel
theorem dL_law_154 : decode cL_law 154 = .ok (.iconst 2, 1) := by decide +kernel
theorem dL_law_155 : decode cL_law 155 = .ok (.iadd, 1) := by decide +kernel
theorem dL_law_156 : decode cL_law 156 = .ok (.iaload, 1) := by decide +kernel
theorem dL_law_157 : decode cL_law 157 = .ok (.i2d, 1) := by decide +kernel
theorem dL_law_158 : decode cL_law 158 = .ok (.ldc2_w 101, 3) := by decide +kernel
theorem dL_law_161 : decode cL_law 161 = .ok (.dmul, 1) := by decide +kernel
theorem dL_law_162 : decode cL_law 162 = .ok (.aload_n 3, 1) := by decide +kernel
theorem dL_law_163 : decode cL_law 163 = .ok (.invokestatic 103, 3) := by decide +kernel
theorem dL_law_166 : decode cL_law 166 = .ok (.istore 6, 2) := by decide +kernel
theorem dL_law_168 : decode cL_law 168 = .ok (.aload_n 2, 1) := by decide +kernel
theorem dL_law_169 : decode cL_law 169 = .ok (.aload_n 0, 1) := by decide +kernel
theorem dL_law_170 : decode cL_law 170 = .ok (.iload 5, 2) := by decide +kernel
theorem dL_law_172 : decode cL_law 172 = .ok (.iconst 1, 1) := by decide +kernel
theorem dL_law_173 : decode cL_law 173 = .ok (.iadd, 1) := by decide +kernel
theorem dL_law_174 : decode cL_law 174 = .ok (.iaload, 1) := by decide +kernel
theorem dL_law_175 : decode cL_law 175 = .ok (.aload_n 0, 1) := by decide +kernel
theorem dL_law_176 : decode cL_law 176 = .ok (.iload 5, 2) := by decide +kernel
theorem dL_law_178 : decode cL_law 178 = .ok (.iconst 2, 1) := by decide +kernel
theorem dL_law_179 : decode cL_law 179 = .ok (.iadd, 1) := by decide +kernel
theorem dL_law_180 : decode cL_law 180 = .ok (.iaload, 1) := by decide +kernel
theorem dL_law_181 : decode cL_law 181 = .ok (.i2d, 1) := by decide +kernel
theorem dL_law_182 : decode cL_law 182 = .ok (.ldc2_w 101, 3) := by decide +kernel
theorem dL_law_185 : decode cL_law 185 = .ok (.dmul, 1) := by decide +kernel
theorem dL_law_186 : decode cL_law 186 = .ok (.invokevirtual 108, 3) := by decide +kernel
theorem dL_law_189 : decode cL_law 189 = .ok (.istore 7, 2) := by decide +kernel
theorem dL_law_191 : decode cL_law 191 = .ok (.aload_n 2, 1) := by decide +kernel
theorem dL_law_192 : decode cL_law 192 = .ok (.invokevirtual 109, 3) := by decide +kernel
theorem dL_law_195 : decode cL_law 195 = .ok (.iload 6, 2) := by decide +kernel
theorem dL_law_197 : decode cL_law 197 = .ok (.if_icmp .eq 5, 3) := by decide +kernel
theorem dL_law_200 : decode cL_law 200 = .ok (.iconst 0, 1) := by decide +kernel
theorem dL_law_201 : decode cL_law 201 = .ok (.ireturn, 1) := by decide +kernel
theorem dL_law_202 : decode cL_law 202 = .ok (.iload 6, 2) := by decide +kernel
theorem dL_law_204 : decode cL_law 204 = .ok (.ifCond .ne 15, 3) := by decide +kernel
theorem dL_law_207 : decode cL_law 207 = .ok (.aload_n 3, 1) := by decide +kernel
theorem dL_law_208 : decode cL_law 208 = .ok (.iconst 0, 1) := by decide +kernel
theorem dL_law_209 : decode cL_law 209 = .ok (.laload, 1) := by decide +kernel
theorem dL_law_210 : decode cL_law 210 = .ok (.iload 7, 2) := by decide +kernel
theorem dL_law_212 : decode cL_law 212 = .ok (.i2l, 1) := by decide +kernel
theorem dL_law_213 : decode cL_law 213 = .ok (.lcmp, 1) := by decide +kernel
theorem dL_law_214 : decode cL_law 214 = .ok (.ifCond .eq 5, 3) := by decide +kernel
theorem dL_law_217 : decode cL_law 217 = .ok (.iconst 0, 1) := by decide +kernel
theorem dL_law_218 : decode cL_law 218 = .ok (.ireturn, 1) := by decide +kernel
theorem dL_law_219 : decode cL_law 219 = .ok (.goto 1526, 3) := by decide +kernel
theorem dL_law_222 : decode cL_law 222 = .ok (.aload_n 1, 1) := by decide +kernel
theorem dL_law_223 : decode cL_law 223 = .ok (.aload_n 0, 1) := by decide +kernel
theorem dL_law_224 : decode cL_law 224 = .ok (.iload 5, 2) := by decide +kernel
theorem dL_law_226 : decode cL_law 226 = .ok (.iconst 1, 1) := by decide +kernel
theorem dL_law_227 : decode cL_law 227 = .ok (.iadd, 1) := by decide +kernel
theorem dL_law_228 : decode cL_law 228 = .ok (.iaload, 1) := by decide +kernel
theorem dL_law_229 : decode cL_law 229 = .ok (.aload_n 0, 1) := by decide +kernel
theorem dL_law_230 : decode cL_law 230 = .ok (.iload 5, 2) := by decide +kernel
theorem dL_law_232 : decode cL_law 232 = .ok (.iconst 2, 1) := by decide +kernel
theorem dL_law_233 : decode cL_law 233 = .ok (.iadd, 1) := by decide +kernel
theorem dL_law_234 : decode cL_law 234 = .ok (.iaload, 1) := by decide +kernel
theorem dL_law_235 : decode cL_law 235 = .ok (.i2f, 1) := by decide +kernel
theorem dL_law_236 : decode cL_law 236 = .ok (.ldc 113, 2) := by decide +kernel
theorem dL_law_238 : decode cL_law 238 = .ok (.fmul, 1) := by decide +kernel
theorem dL_law_239 : decode cL_law 239 = .ok (.aload_n 3, 1) := by decide +kernel
theorem dL_law_240 : decode cL_law 240 = .ok (.invokestatic 114, 3) := by decide +kernel
theorem dL_law_243 : decode cL_law 243 = .ok (.istore 6, 2) := by decide +kernel
theorem dL_law_245 : decode cL_law 245 = .ok (.aload_n 2, 1) := by decide +kernel
theorem dL_law_246 : decode cL_law 246 = .ok (.aload_n 0, 1) := by decide +kernel
theorem dL_law_247 : decode cL_law 247 = .ok (.iload 5, 2) := by decide +kernel
theorem dL_law_249 : decode cL_law 249 = .ok (.iconst 1, 1) := by decide +kernel
theorem dL_law_250 : decode cL_law 250 = .ok (.iadd, 1) := by decide +kernel
theorem dL_law_251 : decode cL_law 251 = .ok (.iaload, 1) := by decide +kernel
theorem dL_law_252 : decode cL_law 252 = .ok (.aload_n 0, 1) := by decide +kernel
theorem dL_law_253 : decode cL_law 253 = .ok (.iload 5, 2) := by decide +kernel
theorem dL_law_255 : decode cL_law 255 = .ok (.iconst 2, 1) := by decide +kernel
theorem dL_law_256 : decode cL_law 256 = .ok (.iadd, 1) := by decide +kernel
theorem dL_law_257 : decode cL_law 257 = .ok (.iaload, 1) := by decide +kernel
theorem dL_law_258 : decode cL_law 258 = .ok (.i2f, 1) := by decide +kernel
theorem dL_law_259 : decode cL_law 259 = .ok (.ldc 113, 2) := by decide +kernel
theorem dL_law_261 : decode cL_law 261 = .ok (.fmul, 1) := by decide +kernel
theorem dL_law_262 : decode cL_law 262 = .ok (.invokevirtual 117, 3) := by decide +kernel
theorem dL_law_265 : decode cL_law 265 = .ok (.istore 7, 2) := by decide +kernel
theorem dL_law_267 : decode cL_law 267 = .ok (.aload_n 2, 1) := by decide +kernel
theorem dL_law_268 : decode cL_law 268 = .ok (.invokevirtual 109, 3) := by decide +kernel
theorem dL_law_271 : decode cL_law 271 = .ok (.iload 6, 2) := by decide +kernel
theorem dL_law_273 : decode cL_law 273 = .ok (.if_icmp .eq 5, 3) := by decide +kernel
theorem dL_law_276 : decode cL_law 276 = .ok (.iconst 0, 1) := by decide +kernel
theorem dL_law_277 : decode cL_law 277 = .ok (.ireturn, 1) := by decide +kernel
theorem dL_law_278 : decode cL_law 278 = .ok (.iload 6, 2) := by decide +kernel
theorem dL_law_280 : decode cL_law 280 = .ok (.ifCond .ne 15, 3) := by decide +kernel
theorem dL_law_283 : decode cL_law 283 = .ok (.aload_n 3, 1) := by decide +kernel
theorem dL_law_284 : decode cL_law 284 = .ok (.iconst 0, 1) := by decide +kernel
theorem dL_law_285 : decode cL_law 285 = .ok (.laload, 1) := by decide +kernel
theorem dL_law_286 : decode cL_law 286 = .ok (.iload 7, 2) := by decide +kernel
theorem dL_law_288 : decode cL_law 288 = .ok (.i2l, 1) := by decide +kernel
theorem dL_law_289 : decode cL_law 289 = .ok (.lcmp, 1) := by decide +kernel
theorem dL_law_290 : decode cL_law 290 = .ok (.ifCond .eq 5, 3) := by decide +kernel
theorem dL_law_293 : decode cL_law 293 = .ok (.iconst 0, 1) := by decide +kernel
theorem dL_law_294 : decode cL_law 294 = .ok (.ireturn, 1) := by decide +kernel
theorem dL_law_295 : decode cL_law 295 = .ok (.goto 1450, 3) := by decide +kernel
theorem dL_law_298 : decode cL_law 298 = .ok (.aload_n 1, 1) := by decide +kernel
theorem dL_law_299 : decode cL_law 299 = .ok (.aload_n 0, 1) := by decide +kernel
theorem dL_law_300 : decode cL_law 300 = .ok (.iload 5, 2) := by decide +kernel
theorem dL_law_302 : decode cL_law 302 = .ok (.iconst 1, 1) := by decide +kernel
theorem dL_law_303 : decode cL_law 303 = .ok (.iadd, 1) := by decide +kernel
theorem dL_law_304 : decode cL_law 304 = .ok (.iaload, 1) := by decide +kernel
theorem dL_law_305 : decode cL_law 305 = .ok (.aload_n 0, 1) := by decide +kernel
theorem dL_law_306 : decode cL_law 306 = .ok (.iload 5, 2) := by decide +kernel
theorem dL_law_308 : decode cL_law 308 = .ok (.iconst 2, 1) := by decide +kernel
theorem dL_law_309 : decode cL_law 309 = .ok (.iadd, 1) := by decide +kernel
theorem dL_law_310 : decode cL_law 310 = .ok (.iaload, 1) := by decide +kernel
theorem dL_law_311 : decode cL_law 311 = .ok (.aload_n 3, 1) := by decide +kernel
theorem dL_law_312 : decode cL_law 312 = .ok (.invokestatic 118, 3) := by decide +kernel
theorem dL_law_315 : decode cL_law 315 = .ok (.istore 6, 2) := by decide +kernel
theorem dL_law_317 : decode cL_law 317 = .ok (.aload_n 2, 1) := by decide +kernel
theorem dL_law_318 : decode cL_law 318 = .ok (.aload_n 0, 1) := by decide +kernel
theorem dL_law_319 : decode cL_law 319 = .ok (.iload 5, 2) := by decide +kernel
theorem dL_law_321 : decode cL_law 321 = .ok (.iconst 1, 1) := by decide +kernel
theorem dL_law_322 : decode cL_law 322 = .ok (.iadd, 1) := by decide +kernel
theorem dL_law_323 : decode cL_law 323 = .ok (.iaload, 1) := by decide +kernel
theorem dL_law_324 : decode cL_law 324 = .ok (.aload_n 0, 1) := by decide +kernel
theorem dL_law_325 : decode cL_law 325 = .ok (.iload 5, 2) := by decide +kernel
theorem dL_law_327 : decode cL_law 327 = .ok (.iconst 2, 1) := by decide +kernel
theorem dL_law_328 : decode cL_law 328 = .ok (.iadd, 1) := by decide +kernel
theorem dL_law_329 : decode cL_law 329 = .ok (.iaload, 1) := by decide +kernel
theorem dL_law_330 : decode cL_law 330 = .ok (.invokevirtual 121, 3) := by decide +kernel
theorem dL_law_333 : decode cL_law 333 = .ok (.istore 7, 2) := by decide +kernel
theorem dL_law_335 : decode cL_law 335 = .ok (.aload_n 2, 1) := by decide +kernel
theorem dL_law_336 : decode cL_law 336 = .ok (.invokevirtual 109, 3) := by decide +kernel
theorem dL_law_339 : decode cL_law 339 = .ok (.iload 6, 2) := by decide +kernel
theorem dL_law_341 : decode cL_law 341 = .ok (.if_icmp .eq 5, 3) := by decide +kernel
theorem dL_law_344 : decode cL_law 344 = .ok (.iconst 0, 1) := by decide +kernel
theorem dL_law_345 : decode cL_law 345 = .ok (.ireturn, 1) := by decide +kernel
theorem dL_law_346 : decode cL_law 346 = .ok (.iload 6, 2) := by decide +kernel
theorem dL_law_348 : decode cL_law 348 = .ok (.ifCond .ne 15, 3) := by decide +kernel
theorem dL_law_351 : decode cL_law 351 = .ok (.aload_n 3, 1) := by decide +kernel
theorem dL_law_352 : decode cL_law 352 = .ok (.iconst 0, 1) := by decide +kernel
theorem dL_law_353 : decode cL_law 353 = .ok (.laload, 1) := by decide +kernel
theorem dL_law_354 : decode cL_law 354 = .ok (.iload 7, 2) := by decide +kernel
theorem dL_law_356 : decode cL_law 356 = .ok (.i2l, 1) := by decide +kernel
theorem dL_law_357 : decode cL_law 357 = .ok (.lcmp, 1) := by decide +kernel
theorem dL_law_358 : decode cL_law 358 = .ok (.ifCond .eq 5, 3) := by decide +kernel
theorem dL_law_361 : decode cL_law 361 = .ok (.iconst 0, 1) := by decide +kernel
theorem dL_law_362 : decode cL_law 362 = .ok (.ireturn, 1) := by decide +kernel
theorem dL_law_363 : decode cL_law 363 = .ok (.goto 1382, 3) := by decide +kernel
theorem dL_law_366 : decode cL_law 366 = .ok (.aload_n 1, 1) := by decide +kernel
theorem dL_law_367 : decode cL_law 367 = .ok (.aload_n 0, 1) := by decide +kernel
theorem dL_law_368 : decode cL_law 368 = .ok (.iload 5, 2) := by decide +kernel
theorem dL_law_370 : decode cL_law 370 = .ok (.iconst 1, 1) := by decide +kernel
theorem dL_law_371 : decode cL_law 371 = .ok (.iadd, 1) := by decide +kernel
theorem dL_law_372 : decode cL_law 372 = .ok (.iaload, 1) := by decide +kernel
theorem dL_law_373 : decode cL_law 373 = .ok (.aload_n 3, 1) := by decide +kernel
theorem dL_law_374 : decode cL_law 374 = .ok (.invokestatic 122, 3) := by decide +kernel
theorem dL_law_377 : decode cL_law 377 = .ok (.istore 6, 2) := by decide +kernel
theorem dL_law_379 : decode cL_law 379 = .ok (.aload_n 2, 1) := by decide +kernel
theorem dL_law_380 : decode cL_law 380 = .ok (.aload_n 0, 1) := by decide +kernel
theorem dL_law_381 : decode cL_law 381 = .ok (.iload 5, 2) := by decide +kernel
theorem dL_law_383 : decode cL_law 383 = .ok (.iconst 1, 1) := by decide +kernel
theorem dL_law_384 : decode cL_law 384 = .ok (.iadd, 1) := by decide +kernel
theorem dL_law_385 : decode cL_law 385 = .ok (.iaload, 1) := by decide +kernel
theorem dL_law_386 : decode cL_law 386 = .ok (.invokevirtual 125, 3) := by decide +kernel
theorem dL_law_389 : decode cL_law 389 = .ok (.istore 7, 2) := by decide +kernel
theorem dL_law_391 : decode cL_law 391 = .ok (.aload_n 2, 1) := by decide +kernel
theorem dL_law_392 : decode cL_law 392 = .ok (.invokevirtual 109, 3) := by decide +kernel
theorem dL_law_395 : decode cL_law 395 = .ok (.iload 6, 2) := by decide +kernel
theorem dL_law_397 : decode cL_law 397 = .ok (.if_icmp .eq 5, 3) := by decide +kernel
theorem dL_law_400 : decode cL_law 400 = .ok (.iconst 0, 1) := by decide +kernel
theorem dL_law_401 : decode cL_law 401 = .ok (.ireturn, 1) := by decide +kernel
theorem dL_law_402 : decode cL_law 402 = .ok (.iload 6, 2) := by decide +kernel
theorem dL_law_404 : decode cL_law 404 = .ok (.ifCond .ne 15, 3) := by decide +kernel
theorem dL_law_407 : decode cL_law 407 = .ok (.aload_n 3, 1) := by decide +kernel
theorem dL_law_408 : decode cL_law 408 = .ok (.iconst 0, 1) := by decide +kernel
theorem dL_law_409 : decode cL_law 409 = .ok (.laload, 1) := by decide +kernel
theorem dL_law_410 : decode cL_law 410 = .ok (.iload 7, 2) := by decide +kernel
theorem dL_law_412 : decode cL_law 412 = .ok (.i2l, 1) := by decide +kernel
theorem dL_law_413 : decode cL_law 413 = .ok (.lcmp, 1) := by decide +kernel
theorem dL_law_414 : decode cL_law 414 = .ok (.ifCond .eq 5, 3) := by decide +kernel
theorem dL_law_417 : decode cL_law 417 = .ok (.iconst 0, 1) := by decide +kernel
theorem dL_law_418 : decode cL_law 418 = .ok (.ireturn, 1) := by decide +kernel
theorem dL_law_419 : decode cL_law 419 = .ok (.goto 1326, 3) := by decide +kernel
theorem dL_law_422 : decode cL_law 422 = .ok (.aload_n 1, 1) := by decide +kernel
theorem dL_law_423 : decode cL_law 423 = .ok (.aload_n 0, 1) := by decide +kernel
theorem dL_law_424 : decode cL_law 424 = .ok (.iload 5, 2) := by decide +kernel
theorem dL_law_426 : decode cL_law 426 = .ok (.iconst 1, 1) := by decide +kernel
theorem dL_law_427 : decode cL_law 427 = .ok (.iadd, 1) := by decide +kernel
theorem dL_law_428 : decode cL_law 428 = .ok (.iaload, 1) := by decide +kernel
theorem dL_law_429 : decode cL_law 429 = .ok (.aload_n 0, 1) := by decide +kernel
theorem dL_law_430 : decode cL_law 430 = .ok (.iload 5, 2) := by decide +kernel
theorem dL_law_432 : decode cL_law 432 = .ok (.iconst 2, 1) := by decide +kernel
theorem dL_law_433 : decode cL_law 433 = .ok (.iadd, 1) := by decide +kernel
theorem dL_law_434 : decode cL_law 434 = .ok (.iaload, 1) := by decide +kernel
theorem dL_law_435 : decode cL_law 435 = .ok (.aload_n 0, 1) := by decide +kernel
theorem dL_law_436 : decode cL_law 436 = .ok (.iload 5, 2) := by decide +kernel
theorem dL_law_438 : decode cL_law 438 = .ok (.iconst 3, 1) := by decide +kernel
theorem dL_law_439 : decode cL_law 439 = .ok (.iadd, 1) := by decide +kernel
theorem dL_law_440 : decode cL_law 440 = .ok (.iaload, 1) := by decide +kernel
theorem dL_law_441 : decode cL_law 441 = .ok (.i2d, 1) := by decide +kernel
theorem dL_law_442 : decode cL_law 442 = .ok (.ldc2_w 101, 3) := by decide +kernel
theorem dL_law_445 : decode cL_law 445 = .ok (.dmul, 1) := by decide +kernel
theorem dL_law_446 : decode cL_law 446 = .ok (.aload_n 3, 1) := by decide +kernel
theorem dL_law_447 : decode cL_law 447 = .ok (.invokestatic 126, 3) := by decide +kernel
theorem dL_law_450 : decode cL_law 450 = .ok (.istore 6, 2) := by decide +kernel
theorem dL_law_452 : decode cL_law 452 = .ok (.aload_n 2, 1) := by decide +kernel
theorem dL_law_453 : decode cL_law 453 = .ok (.aload_n 0, 1) := by decide +kernel
theorem dL_law_454 : decode cL_law 454 = .ok (.iload 5, 2) := by decide +kernel
theorem dL_law_456 : decode cL_law 456 = .ok (.iconst 1, 1) := by decide +kernel
theorem dL_law_457 : decode cL_law 457 = .ok (.iadd, 1) := by decide +kernel
theorem dL_law_458 : decode cL_law 458 = .ok (.iaload, 1) := by decide +kernel
theorem dL_law_459 : decode cL_law 459 = .ok (.aload_n 0, 1) := by decide +kernel
theorem dL_law_460 : decode cL_law 460 = .ok (.iload 5, 2) := by decide +kernel
theorem dL_law_462 : decode cL_law 462 = .ok (.iconst 2, 1) := by decide +kernel
theorem dL_law_463 : decode cL_law 463 = .ok (.iadd, 1) := by decide +kernel
theorem dL_law_464 : decode cL_law 464 = .ok (.iaload, 1) := by decide +kernel
theorem dL_law_465 : decode cL_law 465 = .ok (.aload_n 0, 1) := by decide +kernel
theorem dL_law_466 : decode cL_law 466 = .ok (.iload 5, 2) := by decide +kernel
theorem dL_law_468 : decode cL_law 468 = .ok (.iconst 3, 1) := by decide +kernel
theorem dL_law_469 : decode cL_law 469 = .ok (.iadd, 1) := by decide +kernel
theorem dL_law_470 : decode cL_law 470 = .ok (.iaload, 1) := by decide +kernel
theorem dL_law_471 : decode cL_law 471 = .ok (.i2d, 1) := by decide +kernel
theorem dL_law_472 : decode cL_law 472 = .ok (.ldc2_w 101, 3) := by decide +kernel
theorem dL_law_475 : decode cL_law 475 = .ok (.dmul, 1) := by decide +kernel
theorem dL_law_476 : decode cL_law 476 = .ok (.invokevirtual 129, 3) := by decide +kernel
theorem dL_law_479 : decode cL_law 479 = .ok (.istore 7, 2) := by decide +kernel
theorem dL_law_481 : decode cL_law 481 = .ok (.aload_n 2, 1) := by decide +kernel
theorem dL_law_482 : decode cL_law 482 = .ok (.invokevirtual 109, 3) := by decide +kernel
theorem dL_law_485 : decode cL_law 485 = .ok (.iload 6, 2) := by decide +kernel
theorem dL_law_487 : decode cL_law 487 = .ok (.if_icmp .eq 5, 3) := by decide +kernel
theorem dL_law_490 : decode cL_law 490 = .ok (.iconst 0, 1) := by decide +kernel
theorem dL_law_491 : decode cL_law 491 = .ok (.ireturn, 1) := by decide +kernel
theorem dL_law_492 : decode cL_law 492 = .ok (.iload 6, 2) := by decide +kernel
theorem dL_law_494 : decode cL_law 494 = .ok (.ifCond .ne 22, 3) := by decide +kernel
theorem dL_law_497 : decode cL_law 497 = .ok (.aload_n 3, 1) := by decide +kernel
theorem dL_law_498 : decode cL_law 498 = .ok (.iconst 0, 1) := by decide +kernel
theorem dL_law_499 : decode cL_law 499 = .ok (.laload, 1) := by decide +kernel
theorem dL_law_500 : decode cL_law 500 = .ok (.iload 7, 2) := by decide +kernel
theorem dL_law_502 : decode cL_law 502 = .ok (.ifCond .eq 7, 3) := by decide +kernel
theorem dL_law_505 : decode cL_law 505 = .ok (.lconst 1, 1) := by decide +kernel
theorem dL_law_506 : decode cL_law 506 = .ok (.goto 4, 3) := by decide +kernel
theorem dL_law_509 : decode cL_law 509 = .ok (.lconst 0, 1) := by decide +kernel
theorem dL_law_510 : decode cL_law 510 = .ok (.lcmp, 1) := by decide +kernel
end
section
theorem dL_law_511 : decode cL_law 511 = .ok (.ifCond .eq 5, 3) := by decide +kernel
theorem dL_law_514 : decode cL_law 514 = .ok (.iconst 0, 1) := by decide +kernel
theorem dL_law_515 : decode cL_law 515 = .ok (.ireturn, 1) := by decide +kernel
theorem dL_law_516 : decode cL_law 516 = .ok (.goto 1229, 3) := by decide +kernel
theorem dL_law_519 : decode cL_law 519 = .ok (.aload_n 1, 1) := by decide +kernel
theorem dL_law_520 : decode cL_law 520 = .ok (.aload_n 0, 1) := by decide +kernel
theorem dL_law_521 : decode cL_law 521 = .ok (.iload 5, 2) := by decide +kernel
theorem dL_law_523 : decode cL_law 523 = .ok (.iconst 1, 1) := by decide +kernel
theorem dL_law_524 : decode cL_law 524 = .ok (.iadd, 1) := by decide +kernel
theorem dL_law_525 : decode cL_law 525 = .ok (.iaload, 1) := by decide +kernel
theorem dL_law_526 : decode cL_law 526 = .ok (.aload_n 0, 1) := by decide +kernel
theorem dL_law_527 : decode cL_law 527 = .ok (.iload 5, 2) := by decide +kernel
theorem dL_law_529 : decode cL_law 529 = .ok (.iconst 2, 1) := by decide +kernel
theorem dL_law_530 : decode cL_law 530 = .ok (.iadd, 1) := by decide +kernel
theorem dL_law_531 : decode cL_law 531 = .ok (.iaload, 1) := by decide +kernel
theorem dL_law_532 : decode cL_law 532 = .ok (.i2f, 1) := by decide +kernel
theorem dL_law_533 : decode cL_law 533 = .ok (.ldc 113, 2) := by decide +kernel
theorem dL_law_535 : decode cL_law 535 = .ok (.fmul, 1) := by decide +kernel
theorem dL_law_536 : decode cL_law 536 = .ok (.aload_n 3, 1) := by decide +kernel
theorem dL_law_537 : decode cL_law 537 = .ok (.invokestatic 130, 3) := by decide +kernel
theorem dL_law_540 : decode cL_law 540 = .ok (.istore 6, 2) := by decide +kernel
theorem dL_law_542 : decode cL_law 542 = .ok (.aload_n 2, 1) := by decide +kernel
theorem dL_law_543 : decode cL_law 543 = .ok (.aload_n 0, 1) := by decide +kernel
theorem dL_law_544 : decode cL_law 544 = .ok (.iload 5, 2) := by decide +kernel
theorem dL_law_546 : decode cL_law 546 = .ok (.iconst 1, 1) := by decide +kernel
theorem dL_law_547 : decode cL_law 547 = .ok (.iadd, 1) := by decide +kernel
theorem dL_law_548 : decode cL_law 548 = .ok (.iaload, 1) := by decide +kernel
theorem dL_law_549 : decode cL_law 549 = .ok (.aload_n 0, 1) := by decide +kernel
theorem dL_law_550 : decode cL_law 550 = .ok (.iload 5, 2) := by decide +kernel
theorem dL_law_552 : decode cL_law 552 = .ok (.iconst 2, 1) := by decide +kernel
theorem dL_law_553 : decode cL_law 553 = .ok (.iadd, 1) := by decide +kernel
theorem dL_law_554 : decode cL_law 554 = .ok (.iaload, 1) := by decide +kernel
theorem dL_law_555 : decode cL_law 555 = .ok (.i2f, 1) := by decide +kernel
theorem dL_law_556 : decode cL_law 556 = .ok (.ldc 113, 2) := by decide +kernel
theorem dL_law_558 : decode cL_law 558 = .ok (.fmul, 1) := by decide +kernel
theorem dL_law_559 : decode cL_law 559 = .ok (.invokevirtual 132, 3) := by decide +kernel
theorem dL_law_562 : decode cL_law 562 = .ok (.istore 7, 2) := by decide +kernel
theorem dL_law_564 : decode cL_law 564 = .ok (.aload_n 2, 1) := by decide +kernel
theorem dL_law_565 : decode cL_law 565 = .ok (.invokevirtual 109, 3) := by decide +kernel
theorem dL_law_568 : decode cL_law 568 = .ok (.iload 6, 2) := by decide +kernel
theorem dL_law_570 : decode cL_law 570 = .ok (.if_icmp .eq 5, 3) := by decide +kernel
theorem dL_law_573 : decode cL_law 573 = .ok (.iconst 0, 1) := by decide +kernel
theorem dL_law_574 : decode cL_law 574 = .ok (.ireturn, 1) := by decide +kernel
theorem dL_law_575 : decode cL_law 575 = .ok (.iload 6, 2) := by decide +kernel
theorem dL_law_577 : decode cL_law 577 = .ok (.ifCond .ne 22, 3) := by decide +kernel
theorem dL_law_580 : decode cL_law 580 = .ok (.aload_n 3, 1) := by decide +kernel
theorem dL_law_581 : decode cL_law 581 = .ok (.iconst 0, 1) := by decide +kernel
theorem dL_law_582 : decode cL_law 582 = .ok (.laload, 1) := by decide +kernel
theorem dL_law_583 : decode cL_law 583 = .ok (.iload 7, 2) := by decide +kernel
theorem dL_law_585 : decode cL_law 585 = .ok (.ifCond .eq 7, 3) := by decide +kernel
theorem dL_law_588 : decode cL_law 588 = .ok (.lconst 1, 1) := by decide +kernel
theorem dL_law_589 : decode cL_law 589 = .ok (.goto 4, 3) := by decide +kernel
theorem dL_law_592 : decode cL_law 592 = .ok (.lconst 0, 1) := by decide +kernel
theorem dL_law_593 : decode cL_law 593 = .ok (.lcmp, 1) := by decide +kernel
theorem dL_law_594 : decode cL_law 594 = .ok (.ifCond .eq 5, 3) := by decide +kernel
theorem dL_law_597 : decode cL_law 597 = .ok (.iconst 0, 1) := by decide +kernel
theorem dL_law_598 : decode cL_law 598 = .ok (.ireturn, 1) := by decide +kernel
theorem dL_law_599 : decode cL_law 599 = .ok (.goto 1146, 3) := by decide +kernel
theorem dL_law_602 : decode cL_law 602 = .ok (.aload_n 1, 1) := by decide +kernel
theorem dL_law_603 : decode cL_law 603 = .ok (.aload_n 0, 1) := by decide +kernel
theorem dL_law_604 : decode cL_law 604 = .ok (.iload 5, 2) := by decide +kernel
theorem dL_law_606 : decode cL_law 606 = .ok (.iconst 1, 1) := by decide +kernel
theorem dL_law_607 : decode cL_law 607 = .ok (.iadd, 1) := by decide +kernel
theorem dL_law_608 : decode cL_law 608 = .ok (.iaload, 1) := by decide +kernel
theorem dL_law_609 : decode cL_law 609 = .ok (.aload_n 0, 1) := by decide +kernel
theorem dL_law_610 : decode cL_law 610 = .ok (.iload 5, 2) := by decide +kernel
theorem dL_law_612 : decode cL_law 612 = .ok (.iconst 2, 1) := by decide +kernel
theorem dL_law_613 : decode cL_law 613 = .ok (.iadd, 1) := by decide +kernel
theorem dL_law_614 : decode cL_law 614 = .ok (.iaload, 1) := by decide +kernel
theorem dL_law_615 : decode cL_law 615 = .ok (.aload_n 3, 1) := by decide +kernel
theorem dL_law_616 : decode cL_law 616 = .ok (.invokestatic 133, 3) := by decide +kernel
theorem dL_law_619 : decode cL_law 619 = .ok (.istore 6, 2) := by decide +kernel
theorem dL_law_621 : decode cL_law 621 = .ok (.aload_n 2, 1) := by decide +kernel
theorem dL_law_622 : decode cL_law 622 = .ok (.aload_n 0, 1) := by decide +kernel
theorem dL_law_623 : decode cL_law 623 = .ok (.iload 5, 2) := by decide +kernel
theorem dL_law_625 : decode cL_law 625 = .ok (.iconst 1, 1) := by decide +kernel
theorem dL_law_626 : decode cL_law 626 = .ok (.iadd, 1) := by decide +kernel
theorem dL_law_627 : decode cL_law 627 = .ok (.iaload, 1) := by decide +kernel
theorem dL_law_628 : decode cL_law 628 = .ok (.aload_n 0, 1) := by decide +kernel
theorem dL_law_629 : decode cL_law 629 = .ok (.iload 5, 2) := by decide +kernel
theorem dL_law_631 : decode cL_law 631 = .ok (.iconst 2, 1) := by decide +kernel
theorem dL_law_632 : decode cL_law 632 = .ok (.iadd, 1) := by decide +kernel
theorem dL_law_633 : decode cL_law 633 = .ok (.iaload, 1) := by decide +kernel
theorem dL_law_634 : decode cL_law 634 = .ok (.invokevirtual 135, 3) := by decide +kernel
theorem dL_law_637 : decode cL_law 637 = .ok (.istore 7, 2) := by decide +kernel
theorem dL_law_639 : decode cL_law 639 = .ok (.aload_n 2, 1) := by decide +kernel
theorem dL_law_640 : decode cL_law 640 = .ok (.invokevirtual 109, 3) := by decide +kernel
theorem dL_law_643 : decode cL_law 643 = .ok (.iload 6, 2) := by decide +kernel
theorem dL_law_645 : decode cL_law 645 = .ok (.if_icmp .eq 5, 3) := by decide +kernel
theorem dL_law_648 : decode cL_law 648 = .ok (.iconst 0, 1) := by decide +kernel
theorem dL_law_649 : decode cL_law 649 = .ok (.ireturn, 1) := by decide +kernel
theorem dL_law_650 : decode cL_law 650 = .ok (.iload 6, 2) := by decide +kernel
theorem dL_law_652 : decode cL_law 652 = .ok (.ifCond .ne 22, 3) := by decide +kernel
theorem dL_law_655 : decode cL_law 655 = .ok (.aload_n 3, 1) := by decide +kernel
theorem dL_law_656 : decode cL_law 656 = .ok (.iconst 0, 1) := by decide +kernel
theorem dL_law_657 : decode cL_law 657 = .ok (.laload, 1) := by decide +kernel
theorem dL_law_658 : decode cL_law 658 = .ok (.iload 7, 2) := by decide +kernel
theorem dL_law_660 : decode cL_law 660 = .ok (.ifCond .eq 7, 3) := by decide +kernel
theorem dL_law_663 : decode cL_law 663 = .ok (.lconst 1, 1) := by decide +kernel
theorem dL_law_664 : decode cL_law 664 = .ok (.goto 4, 3) := by decide +kernel
theorem dL_law_667 : decode cL_law 667 = .ok (.lconst 0, 1) := by decide +kernel
theorem dL_law_668 : decode cL_law 668 = .ok (.lcmp, 1) := by decide +kernel
theorem dL_law_669 : decode cL_law 669 = .ok (.ifCond .eq 5, 3) := by decide +kernel
theorem dL_law_672 : decode cL_law 672 = .ok (.iconst 0, 1) := by decide +kernel
theorem dL_law_673 : decode cL_law 673 = .ok (.ireturn, 1) := by decide +kernel
theorem dL_law_674 : decode cL_law 674 = .ok (.goto 1071, 3) := by decide +kernel
theorem dL_law_677 : decode cL_law 677 = .ok (.aload_n 1, 1) := by decide +kernel
theorem dL_law_678 : decode cL_law 678 = .ok (.aload_n 0, 1) := by decide +kernel
theorem dL_law_679 : decode cL_law 679 = .ok (.iload 5, 2) := by decide +kernel
theorem dL_law_681 : decode cL_law 681 = .ok (.iconst 1, 1) := by decide +kernel
theorem dL_law_682 : decode cL_law 682 = .ok (.iadd, 1) := by decide +kernel
theorem dL_law_683 : decode cL_law 683 = .ok (.iaload, 1) := by decide +kernel
theorem dL_law_684 : decode cL_law 684 = .ok (.i2d, 1) := by decide +kernel
theorem dL_law_685 : decode cL_law 685 = .ok (.ldc2_w 101, 3) := by decide +kernel
theorem dL_law_688 : decode cL_law 688 = .ok (.dmul, 1) := by decide +kernel
theorem dL_law_689 : decode cL_law 689 = .ok (.aload_n 3, 1) := by decide +kernel
theorem dL_law_690 : decode cL_law 690 = .ok (.invokestatic 136, 3) := by decide +kernel
theorem dL_law_693 : decode cL_law 693 = .ok (.istore 6, 2) := by decide +kernel
theorem dL_law_695 : decode cL_law 695 = .ok (.aload_n 2, 1) := by decide +kernel
theorem dL_law_696 : decode cL_law 696 = .ok (.aload_n 0, 1) := by decide +kernel
theorem dL_law_697 : decode cL_law 697 = .ok (.iload 5, 2) := by decide +kernel
theorem dL_law_699 : decode cL_law 699 = .ok (.iconst 1, 1) := by decide +kernel
theorem dL_law_700 : decode cL_law 700 = .ok (.iadd, 1) := by decide +kernel
theorem dL_law_701 : decode cL_law 701 = .ok (.iaload, 1) := by decide +kernel
theorem dL_law_702 : decode cL_law 702 = .ok (.i2d, 1) := by decide +kernel
theorem dL_law_703 : decode cL_law 703 = .ok (.ldc2_w 101, 3) := by decide +kernel
theorem dL_law_706 : decode cL_law 706 = .ok (.dmul, 1) := by decide +kernel
theorem dL_law_707 : decode cL_law 707 = .ok (.invokevirtual 139, 3) := by decide +kernel
theorem dL_law_710 : decode cL_law 710 = .ok (.istore 7, 2) := by decide +kernel
theorem dL_law_712 : decode cL_law 712 = .ok (.aload_n 2, 1) := by decide +kernel
theorem dL_law_713 : decode cL_law 713 = .ok (.invokevirtual 109, 3) := by decide +kernel
theorem dL_law_716 : decode cL_law 716 = .ok (.iload 6, 2) := by decide +kernel
theorem dL_law_718 : decode cL_law 718 = .ok (.if_icmp .eq 5, 3) := by decide +kernel
theorem dL_law_721 : decode cL_law 721 = .ok (.iconst 0, 1) := by decide +kernel
theorem dL_law_722 : decode cL_law 722 = .ok (.ireturn, 1) := by decide +kernel
theorem dL_law_723 : decode cL_law 723 = .ok (.iload 6, 2) := by decide +kernel
theorem dL_law_725 : decode cL_law 725 = .ok (.ifCond .ne 15, 3) := by decide +kernel
theorem dL_law_728 : decode cL_law 728 = .ok (.aload_n 3, 1) := by decide +kernel
theorem dL_law_729 : decode cL_law 729 = .ok (.iconst 0, 1) := by decide +kernel
theorem dL_law_730 : decode cL_law 730 = .ok (.laload, 1) := by decide +kernel
theorem dL_law_731 : decode cL_law 731 = .ok (.iload 7, 2) := by decide +kernel
theorem dL_law_733 : decode cL_law 733 = .ok (.i2l, 1) := by decide +kernel
theorem dL_law_734 : decode cL_law 734 = .ok (.lcmp, 1) := by decide +kernel
theorem dL_law_735 : decode cL_law 735 = .ok (.ifCond .eq 5, 3) := by decide +kernel
theorem dL_law_738 : decode cL_law 738 = .ok (.iconst 0, 1) := by decide +kernel
theorem dL_law_739 : decode cL_law 739 = .ok (.ireturn, 1) := by decide +kernel
theorem dL_law_740 : decode cL_law 740 = .ok (.goto 1005, 3) := by decide +kernel
theorem dL_law_743 : decode cL_law 743 = .ok (.aload_n 1, 1) := by decide +kernel
theorem dL_law_744 : decode cL_law 744 = .ok (.aload_n 0, 1) := by decide +kernel
theorem dL_law_745 : decode cL_law 745 = .ok (.iload 5, 2) := by decide +kernel
theorem dL_law_747 : decode cL_law 747 = .ok (.iconst 1, 1) := by decide +kernel
theorem dL_law_748 : decode cL_law 748 = .ok (.iadd, 1) := by decide +kernel
theorem dL_law_749 : decode cL_law 749 = .ok (.iaload, 1) := by decide +kernel
theorem dL_law_750 : decode cL_law 750 = .ok (.i2f, 1) := by decide +kernel
theorem dL_law_751 : decode cL_law 751 = .ok (.ldc 113, 2) := by decide +kernel
theorem dL_law_753 : decode cL_law 753 = .ok (.fmul, 1) := by decide +kernel
theorem dL_law_754 : decode cL_law 754 = .ok (.aload_n 3, 1) := by decide +kernel
theorem dL_law_755 : decode cL_law 755 = .ok (.invokestatic 140, 3) := by decide +kernel
theorem dL_law_758 : decode cL_law 758 = .ok (.istore 6, 2) := by decide +kernel
theorem dL_law_760 : decode cL_law 760 = .ok (.aload_n 2, 1) := by decide +kernel
theorem dL_law_761 : decode cL_law 761 = .ok (.aload_n 0, 1) := by decide +kernel
theorem dL_law_762 : decode cL_law 762 = .ok (.iload 5, 2) := by decide +kernel
theorem dL_law_764 : decode cL_law 764 = .ok (.iconst 1, 1) := by decide +kernel
theorem dL_law_765 : decode cL_law 765 = .ok (.iadd, 1) := by decide +kernel
theorem dL_law_766 : decode cL_law 766 = .ok (.iaload, 1) := by decide +kernel
theorem dL_law_767 : decode cL_law 767 = .ok (.i2f, 1) := by decide +kernel
theorem dL_law_768 : decode cL_law 768 = .ok (.ldc 113, 2) := by decide +kernel
theorem dL_law_770 : decode cL_law 770 = .ok (.fmul, 1) := by decide +kernel
theorem dL_law_771 : decode cL_law 771 = .ok (.invokevirtual 143, 3) := by decide +kernel
theorem dL_law_774 : decode cL_law 774 = .ok (.istore 7, 2) := by decide +kernel
theorem dL_law_776 : decode cL_law 776 = .ok (.aload_n 2, 1) := by decide +kernel
theorem dL_law_777 : decode cL_law 777 = .ok (.invokevirtual 109, 3) := by decide +kernel
theorem dL_law_780 : decode cL_law 780 = .ok (.iload 6, 2) := by decide +kernel
theorem dL_law_782 : decode cL_law 782 = .ok (.if_icmp .eq 5, 3) := by decide +kernel
theorem dL_law_785 : decode cL_law 785 = .ok (.iconst 0, 1) := by decide +kernel
theorem dL_law_786 : decode cL_law 786 = .ok (.ireturn, 1) := by decide +kernel
theorem dL_law_787 : decode cL_law 787 = .ok (.iload 6, 2) := by decide +kernel
theorem dL_law_789 : decode cL_law 789 = .ok (.ifCond .ne 15, 3) := by decide +kernel
theorem dL_law_792 : decode cL_law 792 = .ok (.aload_n 3, 1) := by decide +kernel
theorem dL_law_793 : decode cL_law 793 = .ok (.iconst 0, 1) := by decide +kernel
theorem dL_law_794 : decode cL_law 794 = .ok (.laload, 1) := by decide +kernel
theorem dL_law_795 : decode cL_law 795 = .ok (.iload 7, 2) := by decide +kernel
theorem dL_law_797 : decode cL_law 797 = .ok (.i2l, 1) := by decide +kernel
theorem dL_law_798 : decode cL_law 798 = .ok (.lcmp, 1) := by decide +kernel
theorem dL_law_799 : decode cL_law 799 = .ok (.ifCond .eq 5, 3) := by decide +kernel
theorem dL_law_802 : decode cL_law 802 = .ok (.iconst 0, 1) := by decide +kernel
theorem dL_law_803 : decode cL_law 803 = .ok (.ireturn, 1) := by decide +kernel
theorem dL_law_804 : decode cL_law 804 = .ok (.goto 941, 3) := by decide +kernel
theorem dL_law_807 : decode cL_law 807 = .ok (.aload_n 1, 1) := by decide +kernel
theorem dL_law_808 : decode cL_law 808 = .ok (.aload_n 0, 1) := by decide +kernel
theorem dL_law_809 : decode cL_law 809 = .ok (.iload 5, 2) := by decide +kernel
theorem dL_law_811 : decode cL_law 811 = .ok (.iconst 1, 1) := by decide +kernel
theorem dL_law_812 : decode cL_law 812 = .ok (.iadd, 1) := by decide +kernel
theorem dL_law_813 : decode cL_law 813 = .ok (.iaload, 1) := by decide +kernel
theorem dL_law_814 : decode cL_law 814 = .ok (.aload_n 3, 1) := by decide +kernel
theorem dL_law_815 : decode cL_law 815 = .ok (.invokestatic 144, 3) := by decide +kernel
theorem dL_law_818 : decode cL_law 818 = .ok (.istore 6, 2) := by decide +kernel
theorem dL_law_820 : decode cL_law 820 = .ok (.aload_n 2, 1) := by decide +kernel
theorem dL_law_821 : decode cL_law 821 = .ok (.aload_n 0, 1) := by decide +kernel
theorem dL_law_822 : decode cL_law 822 = .ok (.iload 5, 2) := by decide +kernel
theorem dL_law_824 : decode cL_law 824 = .ok (.iconst 1, 1) := by decide +kernel
theorem dL_law_825 : decode cL_law 825 = .ok (.iadd, 1) := by decide +kernel
theorem dL_law_826 : decode cL_law 826 = .ok (.iaload, 1) := by decide +kernel
theorem dL_law_827 : decode cL_law 827 = .ok (.invokevirtual 146, 3) := by decide +kernel
theorem dL_law_830 : decode cL_law 830 = .ok (.istore 7, 2) := by decide +kernel
theorem dL_law_832 : decode cL_law 832 = .ok (.aload_n 2, 1) := by decide +kernel
theorem dL_law_833 : decode cL_law 833 = .ok (.invokevirtual 109, 3) := by decide +kernel
theorem dL_law_836 : decode cL_law 836 = .ok (.iload 6, 2) := by decide +kernel
theorem dL_law_838 : decode cL_law 838 = .ok (.if_icmp .eq 5, 3) := by decide +kernel
theorem dL_law_841 : decode cL_law 841 = .ok (.iconst 0, 1) := by decide +kernel
theorem dL_law_842 : decode cL_law 842 = .ok (.ireturn, 1) := by decide +kernel
theorem dL_law_843 : decode cL_law 843 = .ok (.iload 6, 2) := by decide +kernel
theorem dL_law_845 : decode cL_law 845 = .ok (.ifCond .ne 15, 3) := by decide +kernel
theorem dL_law_848 : decode cL_law 848 = .ok (.aload_n 3, 1) := by decide +kernel
theorem dL_law_849 : decode cL_law 849 = .ok (.iconst 0, 1) := by decide +kernel
theorem dL_law_850 : decode cL_law 850 = .ok (.laload, 1) := by decide +kernel
theorem dL_law_851 : decode cL_law 851 = .ok (.iload 7, 2) := by decide +kernel
theorem dL_law_853 : decode cL_law 853 = .ok (.i2l, 1) := by decide +kernel
theorem dL_law_854 : decode cL_law 854 = .ok (.lcmp, 1) := by decide +kernel
theorem dL_law_855 : decode cL_law 855 = .ok (.ifCond .eq 5, 3) := by decide +kernel
theorem dL_law_858 : decode cL_law 858 = .ok (.iconst 0, 1) := by decide +kernel
theorem dL_law_859 : decode cL_law 859 = .ok (.ireturn, 1) := by decide +kernel
theorem dL_law_860 : decode cL_law 860 = .ok (.goto 885, 3) := by decide +kernel
theorem dL_law_863 : decode cL_law 863 = .ok (.aload_n 1, 1) := by decide +kernel
theorem dL_law_864 : decode cL_law 864 = .ok (.aload_n 0, 1) := by decide +kernel
theorem dL_law_865 : decode cL_law 865 = .ok (.iload 5, 2) := by decide +kernel
theorem dL_law_867 : decode cL_law 867 = .ok (.iconst 1, 1) := by decide +kernel
theorem dL_law_868 : decode cL_law 868 = .ok (.iadd, 1) := by decide +kernel
theorem dL_law_869 : decode cL_law 869 = .ok (.iaload, 1) := by decide +kernel
theorem dL_law_870 : decode cL_law 870 = .ok (.aload_n 0, 1) := by decide +kernel
theorem dL_law_871 : decode cL_law 871 = .ok (.iload 5, 2) := by decide +kernel
theorem dL_law_873 : decode cL_law 873 = .ok (.iconst 2, 1) := by decide +kernel
theorem dL_law_874 : decode cL_law 874 = .ok (.iadd, 1) := by decide +kernel
theorem dL_law_875 : decode cL_law 875 = .ok (.iaload, 1) := by decide +kernel
theorem dL_law_876 : decode cL_law 876 = .ok (.aload_n 0, 1) := by decide +kernel
theorem dL_law_877 : decode cL_law 877 = .ok (.iload 5, 2) := by decide +kernel
theorem dL_law_879 : decode cL_law 879 = .ok (.iconst 3, 1) := by decide +kernel
theorem dL_law_880 : decode cL_law 880 = .ok (.iadd, 1) := by decide +kernel
theorem dL_law_881 : decode cL_law 881 = .ok (.iaload, 1) := by decide +kernel
theorem dL_law_882 : decode cL_law 882 = .ok (.aload_n 0, 1) := by decide +kernel
theorem dL_law_883 : decode cL_law 883 = .ok (.iload 5, 2) := by decide +kernel
theorem dL_law_885 : decode cL_law 885 = .ok (.iconst 4, 1) := by decide +kernel
theorem dL_law_886 : decode cL_law 886 = .ok (.iadd, 1) := by decide +kernel
theorem dL_law_887 : decode cL_law 887 = .ok (.iaload, 1) := by decide +kernel
theorem dL_law_888 : decode cL_law 888 = .ok (.ifCond .eq 7, 3) := by decide +kernel
theorem dL_law_891 : decode cL_law 891 = .ok (.iconst 1, 1) := by decide +kernel
theorem dL_law_892 : decode cL_law 892 = .ok (.goto 4, 3) := by decide +kernel
theorem dL_law_895 : decode cL_law 895 = .ok (.iconst 0, 1) := by decide +kernel
theorem dL_law_896 : decode cL_law 896 = .ok (.aload_n 3, 1) := by decide +kernel
theorem dL_law_897 : decode cL_law 897 = .ok (.invokestatic 147, 3) := by decide +kernel
theorem dL_law_900 : decode cL_law 900 = .ok (.istore 6, 2) := by decide +kernel
theorem dL_law_902 : decode cL_law 902 = .ok (.aload_n 2, 1) := by decide +kernel
theorem dL_law_903 : decode cL_law 903 = .ok (.aload_n 0, 1) := by decide +kernel
theorem dL_law_904 : decode cL_law 904 = .ok (.iload 5, 2) := by decide +kernel
theorem dL_law_906 : decode cL_law 906 = .ok (.iconst 1, 1) := by decide +kernel
theorem dL_law_907 : decode cL_law 907 = .ok (.iadd, 1) := by decide +kernel
theorem dL_law_908 : decode cL_law 908 = .ok (.iaload, 1) := by decide +kernel
theorem dL_law_909 : decode cL_law 909 = .ok (.aload_n 0, 1) := by decide +kernel
theorem dL_law_910 : decode cL_law 910 = .ok (.iload 5, 2) := by decide +kernel
theorem dL_law_912 : decode cL_law 912 = .ok (.iconst 2, 1) := by decide +kernel
theorem dL_law_913 : decode cL_law 913 = .ok (.iadd, 1) := by decide +kernel
theorem dL_law_914 : decode cL_law 914 = .ok (.iaload, 1) := by decide +kernel
theorem dL_law_915 : decode cL_law 915 = .ok (.aload_n 0, 1) := by decide +kernel
theorem dL_law_916 : decode cL_law 916 = .ok (.iload 5, 2) := by decide +kernel
theorem dL_law_918 : decode cL_law 918 = .ok (.iconst 3, 1) := by decide +kernel
theorem dL_law_919 : decode cL_law 919 = .ok (.iadd, 1) := by decide +kernel
theorem dL_law_920 : decode cL_law 920 = .ok (.iaload, 1) := by decide +kernel
theorem dL_law_921 : decode cL_law 921 = .ok (.aload_n 0, 1) := by decide +kernel
theorem dL_law_922 : decode cL_law 922 = .ok (.iload 5, 2) := by decide +kernel
theorem dL_law_924 : decode cL_law 924 = .ok (.iconst 4, 1) := by decide +kernel
end
section
theorem dL_law_925 : decode cL_law 925 = .ok (.iadd, 1) := by decide +kernel
theorem dL_law_926 : decode cL_law 926 = .ok (.iaload, 1) := by decide +kernel
theorem dL_law_927 : decode cL_law 927 = .ok (.ifCond .eq 7, 3) := by decide +kernel
theorem dL_law_930 : decode cL_law 930 = .ok (.iconst 1, 1) := by decide +kernel
theorem dL_law_931 : decode cL_law 931 = .ok (.goto 4, 3) := by decide +kernel
theorem dL_law_934 : decode cL_law 934 = .ok (.iconst 0, 1) := by decide +kernel
theorem dL_law_935 : decode cL_law 935 = .ok (.invokevirtual 150, 3) := by decide +kernel
theorem dL_law_938 : decode cL_law 938 = .ok (.istore 7, 2) := by decide +kernel
theorem dL_law_940 : decode cL_law 940 = .ok (.aload_n 2, 1) := by decide +kernel
theorem dL_law_941 : decode cL_law 941 = .ok (.invokevirtual 109, 3) := by decide +kernel
theorem dL_law_944 : decode cL_law 944 = .ok (.iload 6, 2) := by decide +kernel
theorem dL_law_946 : decode cL_law 946 = .ok (.if_icmp .eq 5, 3) := by decide +kernel
theorem dL_law_949 : decode cL_law 949 = .ok (.iconst 0, 1) := by decide +kernel
theorem dL_law_950 : decode cL_law 950 = .ok (.ireturn, 1) := by decide +kernel
theorem dL_law_951 : decode cL_law 951 = .ok (.iload 6, 2) := by decide +kernel
theorem dL_law_953 : decode cL_law 953 = .ok (.ifCond .ne 15, 3) := by decide +kernel
theorem dL_law_956 : decode cL_law 956 = .ok (.aload_n 3, 1) := by decide +kernel
theorem dL_law_957 : decode cL_law 957 = .ok (.iconst 0, 1) := by decide +kernel
theorem dL_law_958 : decode cL_law 958 = .ok (.laload, 1) := by decide +kernel
theorem dL_law_959 : decode cL_law 959 = .ok (.iload 7, 2) := by decide +kernel
theorem dL_law_961 : decode cL_law 961 = .ok (.i2l, 1) := by decide +kernel
theorem dL_law_962 : decode cL_law 962 = .ok (.lcmp, 1) := by decide +kernel
theorem dL_law_963 : decode cL_law 963 = .ok (.ifCond .eq 5, 3) := by decide +kernel
theorem dL_law_966 : decode cL_law 966 = .ok (.iconst 0, 1) := by decide +kernel
theorem dL_law_967 : decode cL_law 967 = .ok (.ireturn, 1) := by decide +kernel
theorem dL_law_968 : decode cL_law 968 = .ok (.goto 777, 3) := by decide +kernel
theorem dL_law_971 : decode cL_law 971 = .ok (.aload_n 1, 1) := by decide +kernel
theorem dL_law_972 : decode cL_law 972 = .ok (.aload_n 0, 1) := by decide +kernel
theorem dL_law_973 : decode cL_law 973 = .ok (.iload 5, 2) := by decide +kernel
theorem dL_law_975 : decode cL_law 975 = .ok (.iconst 1, 1) := by decide +kernel
theorem dL_law_976 : decode cL_law 976 = .ok (.iadd, 1) := by decide +kernel
theorem dL_law_977 : decode cL_law 977 = .ok (.iaload, 1) := by decide +kernel
theorem dL_law_978 : decode cL_law 978 = .ok (.aload_n 0, 1) := by decide +kernel
theorem dL_law_979 : decode cL_law 979 = .ok (.iload 5, 2) := by decide +kernel
theorem dL_law_981 : decode cL_law 981 = .ok (.iconst 2, 1) := by decide +kernel
theorem dL_law_982 : decode cL_law 982 = .ok (.iadd, 1) := by decide +kernel
theorem dL_law_983 : decode cL_law 983 = .ok (.iaload, 1) := by decide +kernel
theorem dL_law_984 : decode cL_law 984 = .ok (.aload_n 0, 1) := by decide +kernel
theorem dL_law_985 : decode cL_law 985 = .ok (.iload 5, 2) := by decide +kernel
theorem dL_law_987 : decode cL_law 987 = .ok (.iconst 3, 1) := by decide +kernel
theorem dL_law_988 : decode cL_law 988 = .ok (.iadd, 1) := by decide +kernel
theorem dL_law_989 : decode cL_law 989 = .ok (.iaload, 1) := by decide +kernel
theorem dL_law_990 : decode cL_law 990 = .ok (.aload_n 0, 1) := by decide +kernel
theorem dL_law_991 : decode cL_law 991 = .ok (.iload 5, 2) := by decide +kernel
theorem dL_law_993 : decode cL_law 993 = .ok (.iconst 4, 1) := by decide +kernel
theorem dL_law_994 : decode cL_law 994 = .ok (.iadd, 1) := by decide +kernel
theorem dL_law_995 : decode cL_law 995 = .ok (.iaload, 1) := by decide +kernel
theorem dL_law_996 : decode cL_law 996 = .ok (.ifCond .eq 7, 3) := by decide +kernel
theorem dL_law_999 : decode cL_law 999 = .ok (.iconst 1, 1) := by decide +kernel
theorem dL_law_1000 : decode cL_law 1000 = .ok (.goto 4, 3) := by decide +kernel
theorem dL_law_1003 : decode cL_law 1003 = .ok (.iconst 0, 1) := by decide +kernel
theorem dL_law_1004 : decode cL_law 1004 = .ok (.aload_n 3, 1) := by decide +kernel
theorem dL_law_1005 : decode cL_law 1005 = .ok (.invokestatic 151, 3) := by decide +kernel
theorem dL_law_1008 : decode cL_law 1008 = .ok (.istore 6, 2) := by decide +kernel
theorem dL_law_1010 : decode cL_law 1010 = .ok (.aload_n 2, 1) := by decide +kernel
theorem dL_law_1011 : decode cL_law 1011 = .ok (.aload_n 0, 1) := by decide +kernel
theorem dL_law_1012 : decode cL_law 1012 = .ok (.iload 5, 2) := by decide +kernel
theorem dL_law_1014 : decode cL_law 1014 = .ok (.iconst 1, 1) := by decide +kernel
theorem dL_law_1015 : decode cL_law 1015 = .ok (.iadd, 1) := by decide +kernel
theorem dL_law_1016 : decode cL_law 1016 = .ok (.iaload, 1) := by decide +kernel
theorem dL_law_1017 : decode cL_law 1017 = .ok (.aload_n 0, 1) := by decide +kernel
theorem dL_law_1018 : decode cL_law 1018 = .ok (.iload 5, 2) := by decide +kernel
theorem dL_law_1020 : decode cL_law 1020 = .ok (.iconst 2, 1) := by decide +kernel
theorem dL_law_1021 : decode cL_law 1021 = .ok (.iadd, 1) := by decide +kernel
theorem dL_law_1022 : decode cL_law 1022 = .ok (.iaload, 1) := by decide +kernel
theorem dL_law_1023 : decode cL_law 1023 = .ok (.aload_n 0, 1) := by decide +kernel
theorem dL_law_1024 : decode cL_law 1024 = .ok (.iload 5, 2) := by decide +kernel
theorem dL_law_1026 : decode cL_law 1026 = .ok (.iconst 3, 1) := by decide +kernel
theorem dL_law_1027 : decode cL_law 1027 = .ok (.iadd, 1) := by decide +kernel
theorem dL_law_1028 : decode cL_law 1028 = .ok (.iaload, 1) := by decide +kernel
theorem dL_law_1029 : decode cL_law 1029 = .ok (.aload_n 0, 1) := by decide +kernel
theorem dL_law_1030 : decode cL_law 1030 = .ok (.iload 5, 2) := by decide +kernel
theorem dL_law_1032 : decode cL_law 1032 = .ok (.iconst 4, 1) := by decide +kernel
theorem dL_law_1033 : decode cL_law 1033 = .ok (.iadd, 1) := by decide +kernel
theorem dL_law_1034 : decode cL_law 1034 = .ok (.iaload, 1) := by decide +kernel
theorem dL_law_1035 : decode cL_law 1035 = .ok (.ifCond .eq 7, 3) := by decide +kernel
theorem dL_law_1038 : decode cL_law 1038 = .ok (.iconst 1, 1) := by decide +kernel
theorem dL_law_1039 : decode cL_law 1039 = .ok (.goto 4, 3) := by decide +kernel
theorem dL_law_1042 : decode cL_law 1042 = .ok (.iconst 0, 1) := by decide +kernel
theorem dL_law_1043 : decode cL_law 1043 = .ok (.invokevirtual 153, 3) := by decide +kernel
theorem dL_law_1046 : decode cL_law 1046 = .ok (.istore 7, 2) := by decide +kernel
theorem dL_law_1048 : decode cL_law 1048 = .ok (.aload_n 2, 1) := by decide +kernel
theorem dL_law_1049 : decode cL_law 1049 = .ok (.invokevirtual 109, 3) := by decide +kernel
theorem dL_law_1052 : decode cL_law 1052 = .ok (.iload 6, 2) := by decide +kernel
theorem dL_law_1054 : decode cL_law 1054 = .ok (.if_icmp .eq 5, 3) := by decide +kernel
theorem dL_law_1057 : decode cL_law 1057 = .ok (.iconst 0, 1) := by decide +kernel
theorem dL_law_1058 : decode cL_law 1058 = .ok (.ireturn, 1) := by decide +kernel
theorem dL_law_1059 : decode cL_law 1059 = .ok (.iload 6, 2) := by decide +kernel
theorem dL_law_1061 : decode cL_law 1061 = .ok (.ifCond .ne 15, 3) := by decide +kernel
theorem dL_law_1064 : decode cL_law 1064 = .ok (.aload_n 3, 1) := by decide +kernel
theorem dL_law_1065 : decode cL_law 1065 = .ok (.iconst 0, 1) := by decide +kernel
theorem dL_law_1066 : decode cL_law 1066 = .ok (.laload, 1) := by decide +kernel
theorem dL_law_1067 : decode cL_law 1067 = .ok (.iload 7, 2) := by decide +kernel
theorem dL_law_1069 : decode cL_law 1069 = .ok (.i2l, 1) := by decide +kernel
theorem dL_law_1070 : decode cL_law 1070 = .ok (.lcmp, 1) := by decide +kernel
theorem dL_law_1071 : decode cL_law 1071 = .ok (.ifCond .eq 5, 3) := by decide +kernel
theorem dL_law_1074 : decode cL_law 1074 = .ok (.iconst 0, 1) := by decide +kernel
theorem dL_law_1075 : decode cL_law 1075 = .ok (.ireturn, 1) := by decide +kernel
theorem dL_law_1076 : decode cL_law 1076 = .ok (.goto 669, 3) := by decide +kernel
theorem dL_law_1079 : decode cL_law 1079 = .ok (.aload_n 1, 1) := by decide +kernel
theorem dL_law_1080 : decode cL_law 1080 = .ok (.aload_n 0, 1) := by decide +kernel
theorem dL_law_1081 : decode cL_law 1081 = .ok (.iload 5, 2) := by decide +kernel
theorem dL_law_1083 : decode cL_law 1083 = .ok (.iconst 1, 1) := by decide +kernel
theorem dL_law_1084 : decode cL_law 1084 = .ok (.iadd, 1) := by decide +kernel
theorem dL_law_1085 : decode cL_law 1085 = .ok (.iaload, 1) := by decide +kernel
theorem dL_law_1086 : decode cL_law 1086 = .ok (.aload_n 0, 1) := by decide +kernel
theorem dL_law_1087 : decode cL_law 1087 = .ok (.iload 5, 2) := by decide +kernel
theorem dL_law_1089 : decode cL_law 1089 = .ok (.iconst 2, 1) := by decide +kernel
theorem dL_law_1090 : decode cL_law 1090 = .ok (.iadd, 1) := by decide +kernel
theorem dL_law_1091 : decode cL_law 1091 = .ok (.iaload, 1) := by decide +kernel
theorem dL_law_1092 : decode cL_law 1092 = .ok (.aload_n 0, 1) := by decide +kernel
theorem dL_law_1093 : decode cL_law 1093 = .ok (.iload 5, 2) := by decide +kernel
theorem dL_law_1095 : decode cL_law 1095 = .ok (.iconst 3, 1) := by decide +kernel
theorem dL_law_1096 : decode cL_law 1096 = .ok (.iadd, 1) := by decide +kernel
theorem dL_law_1097 : decode cL_law 1097 = .ok (.iaload, 1) := by decide +kernel
theorem dL_law_1098 : decode cL_law 1098 = .ok (.aload_n 0, 1) := by decide +kernel
theorem dL_law_1099 : decode cL_law 1099 = .ok (.iload 5, 2) := by decide +kernel
theorem dL_law_1101 : decode cL_law 1101 = .ok (.iconst 4, 1) := by decide +kernel
theorem dL_law_1102 : decode cL_law 1102 = .ok (.iadd, 1) := by decide +kernel
theorem dL_law_1103 : decode cL_law 1103 = .ok (.iaload, 1) := by decide +kernel
theorem dL_law_1104 : decode cL_law 1104 = .ok (.aload_n 3, 1) := by decide +kernel
theorem dL_law_1105 : decode cL_law 1105 = .ok (.invokestatic 154, 3) := by decide +kernel
theorem dL_law_1108 : decode cL_law 1108 = .ok (.istore 6, 2) := by decide +kernel
theorem dL_law_1110 : decode cL_law 1110 = .ok (.aload_n 2, 1) := by decide +kernel
theorem dL_law_1111 : decode cL_law 1111 = .ok (.aload_n 0, 1) := by decide +kernel
theorem dL_law_1112 : decode cL_law 1112 = .ok (.iload 5, 2) := by decide +kernel
theorem dL_law_1114 : decode cL_law 1114 = .ok (.iconst 1, 1) := by decide +kernel
theorem dL_law_1115 : decode cL_law 1115 = .ok (.iadd, 1) := by decide +kernel
theorem dL_law_1116 : decode cL_law 1116 = .ok (.iaload, 1) := by decide +kernel
theorem dL_law_1117 : decode cL_law 1117 = .ok (.aload_n 0, 1) := by decide +kernel
theorem dL_law_1118 : decode cL_law 1118 = .ok (.iload 5, 2) := by decide +kernel
theorem dL_law_1120 : decode cL_law 1120 = .ok (.iconst 2, 1) := by decide +kernel
theorem dL_law_1121 : decode cL_law 1121 = .ok (.iadd, 1) := by decide +kernel
theorem dL_law_1122 : decode cL_law 1122 = .ok (.iaload, 1) := by decide +kernel
theorem dL_law_1123 : decode cL_law 1123 = .ok (.aload_n 0, 1) := by decide +kernel
theorem dL_law_1124 : decode cL_law 1124 = .ok (.iload 5, 2) := by decide +kernel
theorem dL_law_1126 : decode cL_law 1126 = .ok (.iconst 3, 1) := by decide +kernel
theorem dL_law_1127 : decode cL_law 1127 = .ok (.iadd, 1) := by decide +kernel
theorem dL_law_1128 : decode cL_law 1128 = .ok (.iaload, 1) := by decide +kernel
theorem dL_law_1129 : decode cL_law 1129 = .ok (.aload_n 0, 1) := by decide +kernel
theorem dL_law_1130 : decode cL_law 1130 = .ok (.iload 5, 2) := by decide +kernel
theorem dL_law_1132 : decode cL_law 1132 = .ok (.iconst 4, 1) := by decide +kernel
theorem dL_law_1133 : decode cL_law 1133 = .ok (.iadd, 1) := by decide +kernel
theorem dL_law_1134 : decode cL_law 1134 = .ok (.iaload, 1) := by decide +kernel
theorem dL_law_1135 : decode cL_law 1135 = .ok (.invokevirtual 157, 3) := by decide +kernel
theorem dL_law_1138 : decode cL_law 1138 = .ok (.istore 7, 2) := by decide +kernel
theorem dL_law_1140 : decode cL_law 1140 = .ok (.aload_n 2, 1) := by decide +kernel
theorem dL_law_1141 : decode cL_law 1141 = .ok (.invokevirtual 109, 3) := by decide +kernel
theorem dL_law_1144 : decode cL_law 1144 = .ok (.iload 6, 2) := by decide +kernel
theorem dL_law_1146 : decode cL_law 1146 = .ok (.if_icmp .eq 5, 3) := by decide +kernel
theorem dL_law_1149 : decode cL_law 1149 = .ok (.iconst 0, 1) := by decide +kernel
theorem dL_law_1150 : decode cL_law 1150 = .ok (.ireturn, 1) := by decide +kernel
theorem dL_law_1151 : decode cL_law 1151 = .ok (.iload 6, 2) := by decide +kernel
theorem dL_law_1153 : decode cL_law 1153 = .ok (.ifCond .ne 22, 3) := by decide +kernel
theorem dL_law_1156 : decode cL_law 1156 = .ok (.aload_n 3, 1) := by decide +kernel
theorem dL_law_1157 : decode cL_law 1157 = .ok (.iconst 0, 1) := by decide +kernel
theorem dL_law_1158 : decode cL_law 1158 = .ok (.laload, 1) := by decide +kernel
theorem dL_law_1159 : decode cL_law 1159 = .ok (.iload 7, 2) := by decide +kernel
theorem dL_law_1161 : decode cL_law 1161 = .ok (.ifCond .eq 7, 3) := by decide +kernel
theorem dL_law_1164 : decode cL_law 1164 = .ok (.lconst 1, 1) := by decide +kernel
theorem dL_law_1165 : decode cL_law 1165 = .ok (.goto 4, 3) := by decide +kernel
theorem dL_law_1168 : decode cL_law 1168 = .ok (.lconst 0, 1) := by decide +kernel
theorem dL_law_1169 : decode cL_law 1169 = .ok (.lcmp, 1) := by decide +kernel
theorem dL_law_1170 : decode cL_law 1170 = .ok (.ifCond .eq 5, 3) := by decide +kernel
theorem dL_law_1173 : decode cL_law 1173 = .ok (.iconst 0, 1) := by decide +kernel
theorem dL_law_1174 : decode cL_law 1174 = .ok (.ireturn, 1) := by decide +kernel
theorem dL_law_1175 : decode cL_law 1175 = .ok (.goto 570, 3) := by decide +kernel
theorem dL_law_1178 : decode cL_law 1178 = .ok (.aload_n 1, 1) := by decide +kernel
theorem dL_law_1179 : decode cL_law 1179 = .ok (.aload_n 0, 1) := by decide +kernel
theorem dL_law_1180 : decode cL_law 1180 = .ok (.iload 5, 2) := by decide +kernel
theorem dL_law_1182 : decode cL_law 1182 = .ok (.iconst 1, 1) := by decide +kernel
theorem dL_law_1183 : decode cL_law 1183 = .ok (.iadd, 1) := by decide +kernel
theorem dL_law_1184 : decode cL_law 1184 = .ok (.iaload, 1) := by decide +kernel
theorem dL_law_1185 : decode cL_law 1185 = .ok (.aload_n 0, 1) := by decide +kernel
theorem dL_law_1186 : decode cL_law 1186 = .ok (.iload 5, 2) := by decide +kernel
theorem dL_law_1188 : decode cL_law 1188 = .ok (.iconst 2, 1) := by decide +kernel
theorem dL_law_1189 : decode cL_law 1189 = .ok (.iadd, 1) := by decide +kernel
theorem dL_law_1190 : decode cL_law 1190 = .ok (.iaload, 1) := by decide +kernel
theorem dL_law_1191 : decode cL_law 1191 = .ok (.aload_n 0, 1) := by decide +kernel
theorem dL_law_1192 : decode cL_law 1192 = .ok (.iload 5, 2) := by decide +kernel
theorem dL_law_1194 : decode cL_law 1194 = .ok (.iconst 3, 1) := by decide +kernel
theorem dL_law_1195 : decode cL_law 1195 = .ok (.iadd, 1) := by decide +kernel
theorem dL_law_1196 : decode cL_law 1196 = .ok (.iaload, 1) := by decide +kernel
theorem dL_law_1197 : decode cL_law 1197 = .ok (.aload_n 0, 1) := by decide +kernel
theorem dL_law_1198 : decode cL_law 1198 = .ok (.iload 5, 2) := by decide +kernel
theorem dL_law_1200 : decode cL_law 1200 = .ok (.iconst 4, 1) := by decide +kernel
theorem dL_law_1201 : decode cL_law 1201 = .ok (.iadd, 1) := by decide +kernel
theorem dL_law_1202 : decode cL_law 1202 = .ok (.iaload, 1) := by decide +kernel
theorem dL_law_1203 : decode cL_law 1203 = .ok (.aload_n 3, 1) := by decide +kernel
theorem dL_law_1204 : decode cL_law 1204 = .ok (.invokestatic 158, 3) := by decide +kernel
theorem dL_law_1207 : decode cL_law 1207 = .ok (.istore 6, 2) := by decide +kernel
theorem dL_law_1209 : decode cL_law 1209 = .ok (.aload_n 2, 1) := by decide +kernel
theorem dL_law_1210 : decode cL_law 1210 = .ok (.aload_n 0, 1) := by decide +kernel
theorem dL_law_1211 : decode cL_law 1211 = .ok (.iload 5, 2) := by decide +kernel
theorem dL_law_1213 : decode cL_law 1213 = .ok (.iconst 1, 1) := by decide +kernel
theorem dL_law_1214 : decode cL_law 1214 = .ok (.iadd, 1) := by decide +kernel
theorem dL_law_1215 : decode cL_law 1215 = .ok (.iaload, 1) := by decide +kernel
theorem dL_law_1216 : decode cL_law 1216 = .ok (.aload_n 0, 1) := by decide +kernel
theorem dL_law_1217 : decode cL_law 1217 = .ok (.iload 5, 2) := by decide +kernel
theorem dL_law_1219 : decode cL_law 1219 = .ok (.iconst 2, 1) := by decide +kernel
theorem dL_law_1220 : decode cL_law 1220 = .ok (.iadd, 1) := by decide +kernel
theorem dL_law_1221 : decode cL_law 1221 = .ok (.iaload, 1) := by decide +kernel
theorem dL_law_1222 : decode cL_law 1222 = .ok (.aload_n 0, 1) := by decide +kernel
theorem dL_law_1223 : decode cL_law 1223 = .ok (.iload 5, 2) := by decide +kernel
theorem dL_law_1225 : decode cL_law 1225 = .ok (.iconst 3, 1) := by decide +kernel
theorem dL_law_1226 : decode cL_law 1226 = .ok (.iadd, 1) := by decide +kernel
theorem dL_law_1227 : decode cL_law 1227 = .ok (.iaload, 1) := by decide +kernel
theorem dL_law_1228 : decode cL_law 1228 = .ok (.aload_n 0, 1) := by decide +kernel
theorem dL_law_1229 : decode cL_law 1229 = .ok (.iload 5, 2) := by decide +kernel
theorem dL_law_1231 : decode cL_law 1231 = .ok (.iconst 4, 1) := by decide +kernel
theorem dL_law_1232 : decode cL_law 1232 = .ok (.iadd, 1) := by decide +kernel
theorem dL_law_1233 : decode cL_law 1233 = .ok (.iaload, 1) := by decide +kernel
theorem dL_law_1234 : decode cL_law 1234 = .ok (.invokevirtual 160, 3) := by decide +kernel
theorem dL_law_1237 : decode cL_law 1237 = .ok (.istore 7, 2) := by decide +kernel
theorem dL_law_1239 : decode cL_law 1239 = .ok (.aload_n 2, 1) := by decide +kernel
theorem dL_law_1240 : decode cL_law 1240 = .ok (.invokevirtual 109, 3) := by decide +kernel
theorem dL_law_1243 : decode cL_law 1243 = .ok (.iload 6, 2) := by decide +kernel
theorem dL_law_1245 : decode cL_law 1245 = .ok (.if_icmp .eq 5, 3) := by decide +kernel
theorem dL_law_1248 : decode cL_law 1248 = .ok (.iconst 0, 1) := by decide +kernel
theorem dL_law_1249 : decode cL_law 1249 = .ok (.ireturn, 1) := by decide +kernel
theorem dL_law_1250 : decode cL_law 1250 = .ok (.iload 6, 2) := by decide +kernel
theorem dL_law_1252 : decode cL_law 1252 = .ok (.ifCond .ne 15, 3) := by decide +kernel
theorem dL_law_1255 : decode cL_law 1255 = .ok (.aload_n 3, 1) := by decide +kernel
theorem dL_law_1256 : decode cL_law 1256 = .ok (.iconst 0, 1) := by decide +kernel
theorem dL_law_1257 : decode cL_law 1257 = .ok (.laload, 1) := by decide +kernel
theorem dL_law_1258 : decode cL_law 1258 = .ok (.iload 7, 2) := by decide +kernel
theorem dL_law_1260 : decode cL_law 1260 = .ok (.i2l, 1) := by decide +kernel
theorem dL_law_1261 : decode cL_law 1261 = .ok (.lcmp, 1) := by decide +kernel
theorem dL_law_1262 : decode cL_law 1262 = .ok (.ifCond .eq 5, 3) := by decide +kernel
theorem dL_law_1265 : decode cL_law 1265 = .ok (.iconst 0, 1) := by decide +kernel
theorem dL_law_1266 : decode cL_law 1266 = .ok (.ireturn, 1) := by decide +kernel
theorem dL_law_1267 : decode cL_law 1267 = .ok (.goto 478, 3) := by decide +kernel
theorem dL_law_1270 : decode cL_law 1270 = .ok (.aload_n 1, 1) := by decide +kernel
theorem dL_law_1271 : decode cL_law 1271 = .ok (.aload_n 0, 1) := by decide +kernel
theorem dL_law_1272 : decode cL_law 1272 = .ok (.iload 5, 2) := by decide +kernel
theorem dL_law_1274 : decode cL_law 1274 = .ok (.iconst 1, 1) := by decide +kernel
theorem dL_law_1275 : decode cL_law 1275 = .ok (.iadd, 1) := by decide +kernel
theorem dL_law_1276 : decode cL_law 1276 = .ok (.iaload, 1) := by decide +kernel
theorem dL_law_1277 : decode cL_law 1277 = .ok (.aload_n 3, 1) := by decide +kernel
theorem dL_law_1278 : decode cL_law 1278 = .ok (.invokestatic 161, 3) := by decide +kernel
theorem dL_law_1281 : decode cL_law 1281 = .ok (.istore 6, 2) := by decide +kernel
theorem dL_law_1283 : decode cL_law 1283 = .ok (.aload_n 2, 1) := by decide +kernel
theorem dL_law_1284 : decode cL_law 1284 = .ok (.aload_n 0, 1) := by decide +kernel
theorem dL_law_1285 : decode cL_law 1285 = .ok (.iload 5, 2) := by decide +kernel
theorem dL_law_1287 : decode cL_law 1287 = .ok (.iconst 1, 1) := by decide +kernel
theorem dL_law_1288 : decode cL_law 1288 = .ok (.iadd, 1) := by decide +kernel
theorem dL_law_1289 : decode cL_law 1289 = .ok (.iaload, 1) := by decide +kernel
theorem dL_law_1290 : decode cL_law 1290 = .ok (.invokevirtual 163, 3) := by decide +kernel
theorem dL_law_1293 : decode cL_law 1293 = .ok (.istore 7, 2) := by decide +kernel
theorem dL_law_1295 : decode cL_law 1295 = .ok (.aload_n 2, 1) := by decide +kernel
theorem dL_law_1296 : decode cL_law 1296 = .ok (.invokevirtual 109, 3) := by decide +kernel
theorem dL_law_1299 : decode cL_law 1299 = .ok (.iload 6, 2) := by decide +kernel
theorem dL_law_1301 : decode cL_law 1301 = .ok (.if_icmp .eq 5, 3) := by decide +kernel
theorem dL_law_1304 : decode cL_law 1304 = .ok (.iconst 0, 1) := by decide +kernel
theorem dL_law_1305 : decode cL_law 1305 = .ok (.ireturn, 1) := by decide +kernel
theorem dL_law_1306 : decode cL_law 1306 = .ok (.iload 6, 2) := by decide +kernel
theorem dL_law_1308 : decode cL_law 1308 = .ok (.ifCond .ne 15, 3) := by decide +kernel
theorem dL_law_1311 : decode cL_law 1311 = .ok (.aload_n 3, 1) := by decide +kernel
theorem dL_law_1312 : decode cL_law 1312 = .ok (.iconst 0, 1) := by decide +kernel
theorem dL_law_1313 : decode cL_law 1313 = .ok (.laload, 1) := by decide +kernel
theorem dL_law_1314 : decode cL_law 1314 = .ok (.iload 7, 2) := by decide +kernel
theorem dL_law_1316 : decode cL_law 1316 = .ok (.i2l, 1) := by decide +kernel
theorem dL_law_1317 : decode cL_law 1317 = .ok (.lcmp, 1) := by decide +kernel
theorem dL_law_1318 : decode cL_law 1318 = .ok (.ifCond .eq 5, 3) := by decide +kernel
theorem dL_law_1321 : decode cL_law 1321 = .ok (.iconst 0, 1) := by decide +kernel
theorem dL_law_1322 : decode cL_law 1322 = .ok (.ireturn, 1) := by decide +kernel
theorem dL_law_1323 : decode cL_law 1323 = .ok (.goto 422, 3) := by decide +kernel
theorem dL_law_1326 : decode cL_law 1326 = .ok (.aload_n 1, 1) := by decide +kernel
theorem dL_law_1327 : decode cL_law 1327 = .ok (.aload_n 0, 1) := by decide +kernel
theorem dL_law_1328 : decode cL_law 1328 = .ok (.iload 5, 2) := by decide +kernel
end
section
theorem dL_law_1330 : decode cL_law 1330 = .ok (.iconst 1, 1) := by decide +kernel
theorem dL_law_1331 : decode cL_law 1331 = .ok (.iadd, 1) := by decide +kernel
theorem dL_law_1332 : decode cL_law 1332 = .ok (.iaload, 1) := by decide +kernel
theorem dL_law_1333 : decode cL_law 1333 = .ok (.aload_n 3, 1) := by decide +kernel
theorem dL_law_1334 : decode cL_law 1334 = .ok (.invokestatic 164, 3) := by decide +kernel
theorem dL_law_1337 : decode cL_law 1337 = .ok (.istore 6, 2) := by decide +kernel
theorem dL_law_1339 : decode cL_law 1339 = .ok (.aload_n 2, 1) := by decide +kernel
theorem dL_law_1340 : decode cL_law 1340 = .ok (.aload_n 0, 1) := by decide +kernel
theorem dL_law_1341 : decode cL_law 1341 = .ok (.iload 5, 2) := by decide +kernel
theorem dL_law_1343 : decode cL_law 1343 = .ok (.iconst 1, 1) := by decide +kernel
theorem dL_law_1344 : decode cL_law 1344 = .ok (.iadd, 1) := by decide +kernel
theorem dL_law_1345 : decode cL_law 1345 = .ok (.iaload, 1) := by decide +kernel
theorem dL_law_1346 : decode cL_law 1346 = .ok (.invokevirtual 166, 3) := by decide +kernel
theorem dL_law_1349 : decode cL_law 1349 = .ok (.istore 7, 2) := by decide +kernel
theorem dL_law_1351 : decode cL_law 1351 = .ok (.aload_n 2, 1) := by decide +kernel
theorem dL_law_1352 : decode cL_law 1352 = .ok (.invokevirtual 109, 3) := by decide +kernel
theorem dL_law_1355 : decode cL_law 1355 = .ok (.iload 6, 2) := by decide +kernel
theorem dL_law_1357 : decode cL_law 1357 = .ok (.if_icmp .eq 5, 3) := by decide +kernel
theorem dL_law_1360 : decode cL_law 1360 = .ok (.iconst 0, 1) := by decide +kernel
theorem dL_law_1361 : decode cL_law 1361 = .ok (.ireturn, 1) := by decide +kernel
theorem dL_law_1362 : decode cL_law 1362 = .ok (.iload 6, 2) := by decide +kernel
theorem dL_law_1364 : decode cL_law 1364 = .ok (.ifCond .ne 15, 3) := by decide +kernel
theorem dL_law_1367 : decode cL_law 1367 = .ok (.aload_n 3, 1) := by decide +kernel
theorem dL_law_1368 : decode cL_law 1368 = .ok (.iconst 0, 1) := by decide +kernel
theorem dL_law_1369 : decode cL_law 1369 = .ok (.laload, 1) := by decide +kernel
theorem dL_law_1370 : decode cL_law 1370 = .ok (.iload 7, 2) := by decide +kernel
theorem dL_law_1372 : decode cL_law 1372 = .ok (.i2l, 1) := by decide +kernel
theorem dL_law_1373 : decode cL_law 1373 = .ok (.lcmp, 1) := by decide +kernel
theorem dL_law_1374 : decode cL_law 1374 = .ok (.ifCond .eq 5, 3) := by decide +kernel
theorem dL_law_1377 : decode cL_law 1377 = .ok (.iconst 0, 1) := by decide +kernel
theorem dL_law_1378 : decode cL_law 1378 = .ok (.ireturn, 1) := by decide +kernel
theorem dL_law_1379 : decode cL_law 1379 = .ok (.goto 366, 3) := by decide +kernel
theorem dL_law_1382 : decode cL_law 1382 = .ok (.aload_n 1, 1) := by decide +kernel
theorem dL_law_1383 : decode cL_law 1383 = .ok (.aload_n 0, 1) := by decide +kernel
theorem dL_law_1384 : decode cL_law 1384 = .ok (.iload 5, 2) := by decide +kernel
theorem dL_law_1386 : decode cL_law 1386 = .ok (.iconst 1, 1) := by decide +kernel
theorem dL_law_1387 : decode cL_law 1387 = .ok (.iadd, 1) := by decide +kernel
theorem dL_law_1388 : decode cL_law 1388 = .ok (.iaload, 1) := by decide +kernel
theorem dL_law_1389 : decode cL_law 1389 = .ok (.aload 4, 2) := by decide +kernel
theorem dL_law_1391 : decode cL_law 1391 = .ok (.invokestatic 167, 3) := by decide +kernel
theorem dL_law_1394 : decode cL_law 1394 = .ok (.istore 6, 2) := by decide +kernel
theorem dL_law_1396 : decode cL_law 1396 = .ok (.aload_n 2, 1) := by decide +kernel
theorem dL_law_1397 : decode cL_law 1397 = .ok (.aload_n 0, 1) := by decide +kernel
theorem dL_law_1398 : decode cL_law 1398 = .ok (.iload 5, 2) := by decide +kernel
theorem dL_law_1400 : decode cL_law 1400 = .ok (.iconst 1, 1) := by decide +kernel
theorem dL_law_1401 : decode cL_law 1401 = .ok (.iadd, 1) := by decide +kernel
theorem dL_law_1402 : decode cL_law 1402 = .ok (.iaload, 1) := by decide +kernel
theorem dL_law_1403 : decode cL_law 1403 = .ok (.invokevirtual 170, 3) := by decide +kernel
theorem dL_law_1406 : decode cL_law 1406 = .ok (.dstore 7, 2) := by decide +kernel
theorem dL_law_1408 : decode cL_law 1408 = .ok (.aload_n 2, 1) := by decide +kernel
theorem dL_law_1409 : decode cL_law 1409 = .ok (.invokevirtual 109, 3) := by decide +kernel
theorem dL_law_1412 : decode cL_law 1412 = .ok (.iload 6, 2) := by decide +kernel
theorem dL_law_1414 : decode cL_law 1414 = .ok (.if_icmp .eq 5, 3) := by decide +kernel
theorem dL_law_1417 : decode cL_law 1417 = .ok (.iconst 0, 1) := by decide +kernel
theorem dL_law_1418 : decode cL_law 1418 = .ok (.ireturn, 1) := by decide +kernel
theorem dL_law_1419 : decode cL_law 1419 = .ok (.iload 6, 2) := by decide +kernel
theorem dL_law_1421 : decode cL_law 1421 = .ok (.ifCond .ne 35, 3) := by decide +kernel
theorem dL_law_1424 : decode cL_law 1424 = .ok (.aload 4, 2) := by decide +kernel
theorem dL_law_1426 : decode cL_law 1426 = .ok (.iconst 0, 1) := by decide +kernel
theorem dL_law_1427 : decode cL_law 1427 = .ok (.daload, 1) := by decide +kernel
theorem dL_law_1428 : decode cL_law 1428 = .ok (.dload 7, 2) := by decide +kernel
theorem dL_law_1430 : decode cL_law 1430 = .ok (.dcmp .l, 1) := by decide +kernel
theorem dL_law_1431 : decode cL_law 1431 = .ok (.ifCond .eq 25, 3) := by decide +kernel
theorem dL_law_1434 : decode cL_law 1434 = .ok (.aload 4, 2) := by decide +kernel
theorem dL_law_1436 : decode cL_law 1436 = .ok (.iconst 0, 1) := by decide +kernel
theorem dL_law_1437 : decode cL_law 1437 = .ok (.daload, 1) := by decide +kernel
theorem dL_law_1438 : decode cL_law 1438 = .ok (.aload 4, 2) := by decide +kernel
theorem dL_law_1440 : decode cL_law 1440 = .ok (.iconst 0, 1) := by decide +kernel
theorem dL_law_1441 : decode cL_law 1441 = .ok (.daload, 1) := by decide +kernel
theorem dL_law_1442 : decode cL_law 1442 = .ok (.dcmp .l, 1) := by decide +kernel
theorem dL_law_1443 : decode cL_law 1443 = .ok (.ifCond .eq 11, 3) := by decide +kernel
theorem dL_law_1446 : decode cL_law 1446 = .ok (.dload 7, 2) := by decide +kernel
theorem dL_law_1448 : decode cL_law 1448 = .ok (.dload 7, 2) := by decide +kernel
theorem dL_law_1450 : decode cL_law 1450 = .ok (.dcmp .l, 1) := by decide +kernel
theorem dL_law_1451 : decode cL_law 1451 = .ok (.ifCond .ne 5, 3) := by decide +kernel
theorem dL_law_1454 : decode cL_law 1454 = .ok (.iconst 0, 1) := by decide +kernel
theorem dL_law_1455 : decode cL_law 1455 = .ok (.ireturn, 1) := by decide +kernel
theorem dL_law_1456 : decode cL_law 1456 = .ok (.goto 289, 3) := by decide +kernel
theorem dL_law_1459 : decode cL_law 1459 = .ok (.aload_n 1, 1) := by decide +kernel
theorem dL_law_1460 : decode cL_law 1460 = .ok (.aload_n 0, 1) := by decide +kernel
theorem dL_law_1461 : decode cL_law 1461 = .ok (.iload 5, 2) := by decide +kernel
theorem dL_law_1463 : decode cL_law 1463 = .ok (.iconst 1, 1) := by decide +kernel
theorem dL_law_1464 : decode cL_law 1464 = .ok (.iadd, 1) := by decide +kernel
theorem dL_law_1465 : decode cL_law 1465 = .ok (.iaload, 1) := by decide +kernel
theorem dL_law_1466 : decode cL_law 1466 = .ok (.aload 4, 2) := by decide +kernel
theorem dL_law_1468 : decode cL_law 1468 = .ok (.invokestatic 171, 3) := by decide +kernel
theorem dL_law_1471 : decode cL_law 1471 = .ok (.istore 6, 2) := by decide +kernel
theorem dL_law_1473 : decode cL_law 1473 = .ok (.aload_n 2, 1) := by decide +kernel
theorem dL_law_1474 : decode cL_law 1474 = .ok (.aload_n 0, 1) := by decide +kernel
theorem dL_law_1475 : decode cL_law 1475 = .ok (.iload 5, 2) := by decide +kernel
theorem dL_law_1477 : decode cL_law 1477 = .ok (.iconst 1, 1) := by decide +kernel
theorem dL_law_1478 : decode cL_law 1478 = .ok (.iadd, 1) := by decide +kernel
theorem dL_law_1479 : decode cL_law 1479 = .ok (.iaload, 1) := by decide +kernel
theorem dL_law_1480 : decode cL_law 1480 = .ok (.invokevirtual 173, 3) := by decide +kernel
theorem dL_law_1483 : decode cL_law 1483 = .ok (.fstore 7, 2) := by decide +kernel
theorem dL_law_1485 : decode cL_law 1485 = .ok (.aload_n 2, 1) := by decide +kernel
theorem dL_law_1486 : decode cL_law 1486 = .ok (.invokevirtual 109, 3) := by decide +kernel
theorem dL_law_1489 : decode cL_law 1489 = .ok (.iload 6, 2) := by decide +kernel
theorem dL_law_1491 : decode cL_law 1491 = .ok (.if_icmp .eq 5, 3) := by decide +kernel
theorem dL_law_1494 : decode cL_law 1494 = .ok (.iconst 0, 1) := by decide +kernel
theorem dL_law_1495 : decode cL_law 1495 = .ok (.ireturn, 1) := by decide +kernel
theorem dL_law_1496 : decode cL_law 1496 = .ok (.iload 6, 2) := by decide +kernel
theorem dL_law_1498 : decode cL_law 1498 = .ok (.ifCond .ne 36, 3) := by decide +kernel
theorem dL_law_1501 : decode cL_law 1501 = .ok (.aload 4, 2) := by decide +kernel
theorem dL_law_1503 : decode cL_law 1503 = .ok (.iconst 0, 1) := by decide +kernel
theorem dL_law_1504 : decode cL_law 1504 = .ok (.daload, 1) := by decide +kernel
theorem dL_law_1505 : decode cL_law 1505 = .ok (.fload 7, 2) := by decide +kernel
theorem dL_law_1507 : decode cL_law 1507 = .ok (.f2d, 1) := by decide +kernel
theorem dL_law_1508 : decode cL_law 1508 = .ok (.dcmp .l, 1) := by decide +kernel
theorem dL_law_1509 : decode cL_law 1509 = .ok (.ifCond .eq 25, 3) := by decide +kernel
theorem dL_law_1512 : decode cL_law 1512 = .ok (.aload 4, 2) := by decide +kernel
theorem dL_law_1514 : decode cL_law 1514 = .ok (.iconst 0, 1) := by decide +kernel
theorem dL_law_1515 : decode cL_law 1515 = .ok (.daload, 1) := by decide +kernel
theorem dL_law_1516 : decode cL_law 1516 = .ok (.aload 4, 2) := by decide +kernel
theorem dL_law_1518 : decode cL_law 1518 = .ok (.iconst 0, 1) := by decide +kernel
theorem dL_law_1519 : decode cL_law 1519 = .ok (.daload, 1) := by decide +kernel
theorem dL_law_1520 : decode cL_law 1520 = .ok (.dcmp .l, 1) := by decide +kernel
theorem dL_law_1521 : decode cL_law 1521 = .ok (.ifCond .eq 11, 3) := by decide +kernel
theorem dL_law_1524 : decode cL_law 1524 = .ok (.fload 7, 2) := by decide +kernel
theorem dL_law_1526 : decode cL_law 1526 = .ok (.fload 7, 2) := by decide +kernel
theorem dL_law_1528 : decode cL_law 1528 = .ok (.fcmp .l, 1) := by decide +kernel
theorem dL_law_1529 : decode cL_law 1529 = .ok (.ifCond .ne 5, 3) := by decide +kernel
theorem dL_law_1532 : decode cL_law 1532 = .ok (.iconst 0, 1) := by decide +kernel
theorem dL_law_1533 : decode cL_law 1533 = .ok (.ireturn, 1) := by decide +kernel
theorem dL_law_1534 : decode cL_law 1534 = .ok (.goto 211, 3) := by decide +kernel
theorem dL_law_1537 : decode cL_law 1537 = .ok (.aload_n 1, 1) := by decide +kernel
theorem dL_law_1538 : decode cL_law 1538 = .ok (.aload_n 0, 1) := by decide +kernel
theorem dL_law_1539 : decode cL_law 1539 = .ok (.iload 5, 2) := by decide +kernel
theorem dL_law_1541 : decode cL_law 1541 = .ok (.iconst 1, 1) := by decide +kernel
theorem dL_law_1542 : decode cL_law 1542 = .ok (.iadd, 1) := by decide +kernel
theorem dL_law_1543 : decode cL_law 1543 = .ok (.iaload, 1) := by decide +kernel
theorem dL_law_1544 : decode cL_law 1544 = .ok (.aload_n 0, 1) := by decide +kernel
theorem dL_law_1545 : decode cL_law 1545 = .ok (.iload 5, 2) := by decide +kernel
theorem dL_law_1547 : decode cL_law 1547 = .ok (.iconst 2, 1) := by decide +kernel
theorem dL_law_1548 : decode cL_law 1548 = .ok (.iadd, 1) := by decide +kernel
theorem dL_law_1549 : decode cL_law 1549 = .ok (.iaload, 1) := by decide +kernel
theorem dL_law_1550 : decode cL_law 1550 = .ok (.aload_n 3, 1) := by decide +kernel
theorem dL_law_1551 : decode cL_law 1551 = .ok (.invokestatic 174, 3) := by decide +kernel
theorem dL_law_1554 : decode cL_law 1554 = .ok (.istore 6, 2) := by decide +kernel
theorem dL_law_1556 : decode cL_law 1556 = .ok (.aload_n 2, 1) := by decide +kernel
theorem dL_law_1557 : decode cL_law 1557 = .ok (.aload_n 0, 1) := by decide +kernel
theorem dL_law_1558 : decode cL_law 1558 = .ok (.iload 5, 2) := by decide +kernel
theorem dL_law_1560 : decode cL_law 1560 = .ok (.iconst 1, 1) := by decide +kernel
theorem dL_law_1561 : decode cL_law 1561 = .ok (.iadd, 1) := by decide +kernel
theorem dL_law_1562 : decode cL_law 1562 = .ok (.iaload, 1) := by decide +kernel
theorem dL_law_1563 : decode cL_law 1563 = .ok (.aload_n 0, 1) := by decide +kernel
theorem dL_law_1564 : decode cL_law 1564 = .ok (.iload 5, 2) := by decide +kernel
theorem dL_law_1566 : decode cL_law 1566 = .ok (.iconst 2, 1) := by decide +kernel
theorem dL_law_1567 : decode cL_law 1567 = .ok (.iadd, 1) := by decide +kernel
theorem dL_law_1568 : decode cL_law 1568 = .ok (.iaload, 1) := by decide +kernel
theorem dL_law_1569 : decode cL_law 1569 = .ok (.invokevirtual 176, 3) := by decide +kernel
theorem dL_law_1572 : decode cL_law 1572 = .ok (.istore 7, 2) := by decide +kernel
theorem dL_law_1574 : decode cL_law 1574 = .ok (.aload_n 2, 1) := by decide +kernel
theorem dL_law_1575 : decode cL_law 1575 = .ok (.invokevirtual 109, 3) := by decide +kernel
theorem dL_law_1578 : decode cL_law 1578 = .ok (.iload 6, 2) := by decide +kernel
theorem dL_law_1580 : decode cL_law 1580 = .ok (.if_icmp .eq 5, 3) := by decide +kernel
theorem dL_law_1583 : decode cL_law 1583 = .ok (.iconst 0, 1) := by decide +kernel
theorem dL_law_1584 : decode cL_law 1584 = .ok (.ireturn, 1) := by decide +kernel
theorem dL_law_1585 : decode cL_law 1585 = .ok (.iload 6, 2) := by decide +kernel
theorem dL_law_1587 : decode cL_law 1587 = .ok (.ifCond .ne 15, 3) := by decide +kernel
theorem dL_law_1590 : decode cL_law 1590 = .ok (.aload_n 3, 1) := by decide +kernel
theorem dL_law_1591 : decode cL_law 1591 = .ok (.iconst 0, 1) := by decide +kernel
theorem dL_law_1592 : decode cL_law 1592 = .ok (.laload, 1) := by decide +kernel
theorem dL_law_1593 : decode cL_law 1593 = .ok (.iload 7, 2) := by decide +kernel
theorem dL_law_1595 : decode cL_law 1595 = .ok (.i2l, 1) := by decide +kernel
theorem dL_law_1596 : decode cL_law 1596 = .ok (.lcmp, 1) := by decide +kernel
theorem dL_law_1597 : decode cL_law 1597 = .ok (.ifCond .eq 5, 3) := by decide +kernel
theorem dL_law_1600 : decode cL_law 1600 = .ok (.iconst 0, 1) := by decide +kernel
theorem dL_law_1601 : decode cL_law 1601 = .ok (.ireturn, 1) := by decide +kernel
theorem dL_law_1602 : decode cL_law 1602 = .ok (.goto 143, 3) := by decide +kernel
theorem dL_law_1605 : decode cL_law 1605 = .ok (.aload_n 1, 1) := by decide +kernel
theorem dL_law_1606 : decode cL_law 1606 = .ok (.aload_n 0, 1) := by decide +kernel
theorem dL_law_1607 : decode cL_law 1607 = .ok (.iload 5, 2) := by decide +kernel
theorem dL_law_1609 : decode cL_law 1609 = .ok (.iconst 1, 1) := by decide +kernel
theorem dL_law_1610 : decode cL_law 1610 = .ok (.iadd, 1) := by decide +kernel
theorem dL_law_1611 : decode cL_law 1611 = .ok (.iaload, 1) := by decide +kernel
theorem dL_law_1612 : decode cL_law 1612 = .ok (.ifCond .eq 7, 3) := by decide +kernel
theorem dL_law_1615 : decode cL_law 1615 = .ok (.iconst 1, 1) := by decide +kernel
theorem dL_law_1616 : decode cL_law 1616 = .ok (.goto 4, 3) := by decide +kernel
theorem dL_law_1619 : decode cL_law 1619 = .ok (.iconst 0, 1) := by decide +kernel
theorem dL_law_1620 : decode cL_law 1620 = .ok (.aload_n 3, 1) := by decide +kernel
theorem dL_law_1621 : decode cL_law 1621 = .ok (.invokestatic 177, 3) := by decide +kernel
theorem dL_law_1624 : decode cL_law 1624 = .ok (.istore 6, 2) := by decide +kernel
theorem dL_law_1626 : decode cL_law 1626 = .ok (.aload_n 2, 1) := by decide +kernel
theorem dL_law_1627 : decode cL_law 1627 = .ok (.aload_n 0, 1) := by decide +kernel
theorem dL_law_1628 : decode cL_law 1628 = .ok (.iload 5, 2) := by decide +kernel
theorem dL_law_1630 : decode cL_law 1630 = .ok (.iconst 1, 1) := by decide +kernel
theorem dL_law_1631 : decode cL_law 1631 = .ok (.iadd, 1) := by decide +kernel
theorem dL_law_1632 : decode cL_law 1632 = .ok (.iaload, 1) := by decide +kernel
theorem dL_law_1633 : decode cL_law 1633 = .ok (.ifCond .eq 7, 3) := by decide +kernel
theorem dL_law_1636 : decode cL_law 1636 = .ok (.iconst 1, 1) := by decide +kernel
theorem dL_law_1637 : decode cL_law 1637 = .ok (.goto 4, 3) := by decide +kernel
theorem dL_law_1640 : decode cL_law 1640 = .ok (.iconst 0, 1) := by decide +kernel
theorem dL_law_1641 : decode cL_law 1641 = .ok (.invokevirtual 180, 3) := by decide +kernel
theorem dL_law_1644 : decode cL_law 1644 = .ok (.istore 7, 2) := by decide +kernel
theorem dL_law_1646 : decode cL_law 1646 = .ok (.aload_n 2, 1) := by decide +kernel
theorem dL_law_1647 : decode cL_law 1647 = .ok (.invokevirtual 109, 3) := by decide +kernel
theorem dL_law_1650 : decode cL_law 1650 = .ok (.iload 6, 2) := by decide +kernel
theorem dL_law_1652 : decode cL_law 1652 = .ok (.if_icmp .eq 5, 3) := by decide +kernel
theorem dL_law_1655 : decode cL_law 1655 = .ok (.iconst 0, 1) := by decide +kernel
theorem dL_law_1656 : decode cL_law 1656 = .ok (.ireturn, 1) := by decide +kernel
theorem dL_law_1657 : decode cL_law 1657 = .ok (.iload 6, 2) := by decide +kernel
theorem dL_law_1659 : decode cL_law 1659 = .ok (.ifCond .ne 15, 3) := by decide +kernel
theorem dL_law_1662 : decode cL_law 1662 = .ok (.aload_n 3, 1) := by decide +kernel
theorem dL_law_1663 : decode cL_law 1663 = .ok (.iconst 0, 1) := by decide +kernel
theorem dL_law_1664 : decode cL_law 1664 = .ok (.laload, 1) := by decide +kernel
theorem dL_law_1665 : decode cL_law 1665 = .ok (.iload 7, 2) := by decide +kernel
theorem dL_law_1667 : decode cL_law 1667 = .ok (.i2l, 1) := by decide +kernel
theorem dL_law_1668 : decode cL_law 1668 = .ok (.lcmp, 1) := by decide +kernel
theorem dL_law_1669 : decode cL_law 1669 = .ok (.ifCond .eq 5, 3) := by decide +kernel
theorem dL_law_1672 : decode cL_law 1672 = .ok (.iconst 0, 1) := by decide +kernel
theorem dL_law_1673 : decode cL_law 1673 = .ok (.ireturn, 1) := by decide +kernel
theorem dL_law_1674 : decode cL_law 1674 = .ok (.goto 71, 3) := by decide +kernel
theorem dL_law_1677 : decode cL_law 1677 = .ok (.aload_n 1, 1) := by decide +kernel
theorem dL_law_1678 : decode cL_law 1678 = .ok (.aload_n 0, 1) := by decide +kernel
theorem dL_law_1679 : decode cL_law 1679 = .ok (.iload 5, 2) := by decide +kernel
theorem dL_law_1681 : decode cL_law 1681 = .ok (.iconst 1, 1) := by decide +kernel
theorem dL_law_1682 : decode cL_law 1682 = .ok (.iadd, 1) := by decide +kernel
theorem dL_law_1683 : decode cL_law 1683 = .ok (.iaload, 1) := by decide +kernel
theorem dL_law_1684 : decode cL_law 1684 = .ok (.aload_n 0, 1) := by decide +kernel
theorem dL_law_1685 : decode cL_law 1685 = .ok (.iload 5, 2) := by decide +kernel
theorem dL_law_1687 : decode cL_law 1687 = .ok (.iconst 2, 1) := by decide +kernel
theorem dL_law_1688 : decode cL_law 1688 = .ok (.iadd, 1) := by decide +kernel
theorem dL_law_1689 : decode cL_law 1689 = .ok (.iaload, 1) := by decide +kernel
theorem dL_law_1690 : decode cL_law 1690 = .ok (.aload_n 3, 1) := by decide +kernel
theorem dL_law_1691 : decode cL_law 1691 = .ok (.invokestatic 181, 3) := by decide +kernel
theorem dL_law_1694 : decode cL_law 1694 = .ok (.istore 6, 2) := by decide +kernel
theorem dL_law_1696 : decode cL_law 1696 = .ok (.aload_n 2, 1) := by decide +kernel
theorem dL_law_1697 : decode cL_law 1697 = .ok (.aload_n 0, 1) := by decide +kernel
theorem dL_law_1698 : decode cL_law 1698 = .ok (.iload 5, 2) := by decide +kernel
theorem dL_law_1700 : decode cL_law 1700 = .ok (.iconst 1, 1) := by decide +kernel
theorem dL_law_1701 : decode cL_law 1701 = .ok (.iadd, 1) := by decide +kernel
theorem dL_law_1702 : decode cL_law 1702 = .ok (.iaload, 1) := by decide +kernel
theorem dL_law_1703 : decode cL_law 1703 = .ok (.aload_n 0, 1) := by decide +kernel
theorem dL_law_1704 : decode cL_law 1704 = .ok (.iload 5, 2) := by decide +kernel
theorem dL_law_1706 : decode cL_law 1706 = .ok (.iconst 2, 1) := by decide +kernel
theorem dL_law_1707 : decode cL_law 1707 = .ok (.iadd, 1) := by decide +kernel
theorem dL_law_1708 : decode cL_law 1708 = .ok (.iaload, 1) := by decide +kernel
theorem dL_law_1709 : decode cL_law 1709 = .ok (.invokevirtual 183, 3) := by decide +kernel
theorem dL_law_1712 : decode cL_law 1712 = .ok (.istore 7, 2) := by decide +kernel
theorem dL_law_1714 : decode cL_law 1714 = .ok (.aload_n 2, 1) := by decide +kernel
theorem dL_law_1715 : decode cL_law 1715 = .ok (.invokevirtual 109, 3) := by decide +kernel
theorem dL_law_1718 : decode cL_law 1718 = .ok (.iload 6, 2) := by decide +kernel
theorem dL_law_1720 : decode cL_law 1720 = .ok (.if_icmp .eq 5, 3) := by decide +kernel
theorem dL_law_1723 : decode cL_law 1723 = .ok (.iconst 0, 1) := by decide +kernel
theorem dL_law_1724 : decode cL_law 1724 = .ok (.ireturn, 1) := by decide +kernel
theorem dL_law_1725 : decode cL_law 1725 = .ok (.iload 6, 2) := by decide +kernel
theorem dL_law_1727 : decode cL_law 1727 = .ok (.ifCond .ne 15, 3) := by decide +kernel
theorem dL_law_1730 : decode cL_law 1730 = .ok (.aload_n 3, 1) := by decide +kernel
theorem dL_law_1731 : decode cL_law 1731 = .ok (.iconst 0, 1) := by decide +kernel
theorem dL_law_1732 : decode cL_law 1732 = .ok (.laload, 1) := by decide +kernel
theorem dL_law_1733 : decode cL_law 1733 = .ok (.iload 7, 2) := by decide +kernel
theorem dL_law_1735 : decode cL_law 1735 = .ok (.i2l, 1) := by decide +kernel
theorem dL_law_1736 : decode cL_law 1736 = .ok (.lcmp, 1) := by decide +kernel
theorem dL_law_1737 : decode cL_law 1737 = .ok (.ifCond .eq 5, 3) := by decide +kernel
theorem dL_law_1740 : decode cL_law 1740 = .ok (.iconst 0, 1) := by decide +kernel
theorem dL_law_1741 : decode cL_law 1741 = .ok (.ireturn, 1) := by decide +kernel
theorem dL_law_1742 : decode cL_law 1742 = .ok (.goto 3, 3) := by decide +kernel
theorem dL_law_1745 : decode cL_law 1745 = .ok (.iinc 5 5, 3) := by decide +kernel
theorem dL_law_1748 : decode cL_law 1748 = .ok (.goto (-1720), 3) := by decide +kernel
theorem dL_law_1751 : decode cL_law 1751 = .ok (.iconst 1, 1) := by decide +kernel
theorem dL_law_1752 : decode cL_law 1752 = .ok (.ireturn, 1) := by decide +kernel
end
section
/-! Rows of our own: numbers as Nat and Bool, arrays of them, calls that change nothing, calls that may throw. -/
def b2i : Bool → Int32
  | true => 1
  | false => 0
theorem b2i_0 {b : Bool} : b2i b = 0 ↔ b = false := by cases b <;> decide
theorem b2i_1 {b : Bool} : ¬ b2i b = 0 ↔ b = true := by cases b <;> decide
theorem b2i_nar (b : Bool) : narrow .boolean (.int (b2i b)) = .int (b2i b) := by cases b <;> rfl
theorem b2i_vp (b : Bool) : vp_nar .boolean (b2i b) = b2i b := by cases b <;> rfl
theorem b2i_inj {a b : Bool} : b2i a = b2i b ↔ a = b := by cases a <;> cases b <;> decide
def up {α : Type} (f : Nat → α) (k : Nat) (v : α) : Nat → α := fun j => if j = k then v else f j
theorem up_s {α : Type} (f : Nat → α) (k : Nat) (v : α) : up f k v k = v := by simp [up]
theorem up_n {α : Type} (f : Nat → α) {k j : Nat} (v : α) (h : j ≠ k) : up f k v j = f j := by simp [up, h]
theorem up_nI (f : Nat → Nat) (k x : Nat) : upd (fun j => nI (f j)) k (nI x) = fun j => nI (up f k x j) := by
  funext j; unfold upd up; split <;> rfl
theorem up_b2i (f : Nat → Bool) (k : Nat) (b : Bool) : upd (fun j => b2i (f j)) k (b2i b) = fun j => b2i (up f k b j) := by
  funext j; unfold upd up; split <;> rfl
theorem up_vf {α : Type} (f : Nat → α) (k : Nat) (x : α) : vf_upd f k x = up f k x := rfl
/-- the order of two doubles, asked -/
def oLt (o : Option Ordering) : Bool := match o with | some .lt => true | _ => false
def oLe (o : Option Ordering) : Bool := match o with | some .lt => true | some .eq => true | _ => false
def oGt (o : Option Ordering) : Bool := match o with | some .gt => true | _ => false
def oGe (o : Option Ordering) : Bool := match o with | some .gt => true | some .eq => true | _ => false
def oEq (o : Option Ordering) : Bool := match o with | some .eq => true | _ => false
theorem oc_g_ge (o : Option Ordering) : 0 ≤ Op.cmpValue o .g ↔ oLt o = false := by cases o with | none => decide | some x => cases x <;> decide
theorem oc_g_gt (o : Option Ordering) : 0 < Op.cmpValue o .g ↔ oLe o = false := by cases o with | none => decide | some x => cases x <;> decide
theorem oc_g_le (o : Option Ordering) : Op.cmpValue o .g ≤ 0 ↔ oLe o = true := by cases o with | none => decide | some x => cases x <;> decide
theorem oc_l_le (o : Option Ordering) : Op.cmpValue o .l ≤ 0 ↔ oGt o = false := by cases o with | none => decide | some x => cases x <;> decide
theorem oc_l_lt (o : Option Ordering) : Op.cmpValue o .l < 0 ↔ oGe o = false := by cases o with | none => decide | some x => cases x <;> decide
theorem oc_l_ne (o : Option Ordering) : ¬ Op.cmpValue o .l = 0 ↔ oEq o = false := by cases o with | none => decide | some x => cases x <;> decide
theorem oc_l_eq (o : Option Ordering) : Op.cmpValue o .l = 0 ↔ oEq o = true := by cases o with | none => decide | some x => cases x <;> decide
theorem bnt {b : Bool} (h : ¬ b = false) : b = true := by cases b <;> simp_all
theorem bnf {b : Bool} (h : ¬ b = true) : b = false := by cases b <;> simp_all
section KD
variable {p : Program} {l : Launch} {e : Env} {R : Room} {s : State} {m : MethodId} {args : Array Value} {below : List Frame} {meth : Method} {c : Code} {H : Heap} {locs : List Loc} {cells slots : Nat} {Q : State → Prop}
variable {cc : ByteArray} {pc : Nat} {ls : Array Slot} {rest : List Value}
theorem kt_i {x y : Int32} (h : x = y) (k : W p l e R s m args below meth c H locs cells slots Q (F0 m pc ls (.int y :: rest))) : W p l e R s m args below meth c H locs cells slots Q (F0 m pc ls (.int x :: rest)) := by subst h; exact k
theorem kt_d {x y : UInt64} (h : x = y) (k : W p l e R s m args below meth c H locs cells slots Q (F0 m pc ls (.double y :: rest))) : W p l e R s m args below meth c H locs cells slots Q (F0 m pc ls (.double x :: rest)) := by subst h; exact k
theorem kn_iadd (hx : p.tables.exec = Jvm.exec) (hb : c.code = cc) {a b : Nat} (hdg : decode cc pc = .ok (.iadd, 1)) (k : W p l e R s m args below meth c H locs cells slots Q (F0 m (pc + 1) ls (.int (nI (a + b)) :: rest))) : W p l e R s m args below meth c H locs cells slots Q (F0 m pc ls (.int (nI b) :: .int (nI a) :: rest)) := lv_iadd hx hb hdg (kt_i (nI_add a b) k)
theorem kn_imul (hx : p.tables.exec = Jvm.exec) (hb : c.code = cc) {a b : Nat} (hdg : decode cc pc = .ok (.imul, 1)) (k : W p l e R s m args below meth c H locs cells slots Q (F0 m (pc + 1) ls (.int (nI (a * b)) :: rest))) : W p l e R s m args below meth c H locs cells slots Q (F0 m pc ls (.int (nI b) :: .int (nI a) :: rest)) := lv_imul hx hb hdg (kt_i (pk_mul a b) k)
theorem kn_isub (hx : p.tables.exec = Jvm.exec) (hb : c.code = cc) {a b : Nat} (h : b ≤ a) (hdg : decode cc pc = .ok (.isub, 1)) (k : W p l e R s m args below meth c H locs cells slots Q (F0 m (pc + 1) ls (.int (nI (a - b)) :: rest))) : W p l e R s m args below meth c H locs cells slots Q (F0 m pc ls (.int (nI b) :: .int (nI a) :: rest)) := lv_isub hx hb hdg (kt_i (pk_sub h) k)
theorem kb_eq (hx : p.tables.exec = Jvm.exec) (hb : c.code = cc) {b : Bool} {off : Int} {tgt : Nat} (hdg : decode cc pc = .ok (.ifCond .eq off, 3)) (ht : (pc : Int) + off = (tgt : Int))
    (kt : b = false → W p l e R s m args below meth c H locs cells slots Q (F0 m tgt ls rest)) (kf : b = true → W p l e R s m args below meth c H locs cells slots Q (F0 m (pc + 3) ls rest)) : W p l e R s m args below meth c H locs cells slots Q (F0 m pc ls (.int (b2i b) :: rest)) := lv_if_eq hx hb hdg ht (fun h => kt (b2i_0.mp h)) (fun h => kf (b2i_1.mp h))
theorem kb_ne (hx : p.tables.exec = Jvm.exec) (hb : c.code = cc) {b : Bool} {off : Int} {tgt : Nat} (hdg : decode cc pc = .ok (.ifCond .ne off, 3)) (ht : (pc : Int) + off = (tgt : Int))
    (kt : b = true → W p l e R s m args below meth c H locs cells slots Q (F0 m tgt ls rest)) (kf : b = false → W p l e R s m args below meth c H locs cells slots Q (F0 m (pc + 3) ls rest)) : W p l e R s m args below meth c H locs cells slots Q (F0 m pc ls (.int (b2i b) :: rest)) := lv_if_ne hx hb hdg ht (fun h => kt (b2i_1.mp h)) (fun h => kf (b2i_0.mp h))
theorem kb_icmp_eq (hx : p.tables.exec = Jvm.exec) (hb : c.code = cc) {a b : Bool} {off : Int} {tgt : Nat} (hdg : decode cc pc = .ok (.if_icmp .eq off, 3)) (ht : (pc : Int) + off = (tgt : Int))
    (kt : a = b → W p l e R s m args below meth c H locs cells slots Q (F0 m tgt ls rest)) (kf : ¬ a = b → W p l e R s m args below meth c H locs cells slots Q (F0 m (pc + 3) ls rest)) : W p l e R s m args below meth c H locs cells slots Q (F0 m pc ls (.int (b2i b) :: .int (b2i a) :: rest)) := lv_icmp_eq hx hb hdg ht (fun h => kt (b2i_inj.mp h)) (fun h => kf (fun q => h (b2i_inj.mpr q)))
theorem kb_icmp_ne (hx : p.tables.exec = Jvm.exec) (hb : c.code = cc) {a b : Bool} {off : Int} {tgt : Nat} (hdg : decode cc pc = .ok (.if_icmp .ne off, 3)) (ht : (pc : Int) + off = (tgt : Int))
    (kt : ¬ a = b → W p l e R s m args below meth c H locs cells slots Q (F0 m tgt ls rest)) (kf : a = b → W p l e R s m args below meth c H locs cells slots Q (F0 m (pc + 3) ls rest)) : W p l e R s m args below meth c H locs cells slots Q (F0 m pc ls (.int (b2i b) :: .int (b2i a) :: rest)) := lv_icmp_ne hx hb hdg ht (fun h => kt (fun q => h (b2i_inj.mpr q))) (fun h => kf (b2i_inj.mp h))
theorem kn_eq (hx : p.tables.exec = Jvm.exec) (hb : c.code = cc) {a : Nat} (ha : a < 2147483648) {off : Int} {tgt : Nat} (hdg : decode cc pc = .ok (.ifCond .eq off, 3)) (ht : (pc : Int) + off = (tgt : Int))
    (kt : a = 0 → W p l e R s m args below meth c H locs cells slots Q (F0 m tgt ls rest)) (kf : a ≠ 0 → W p l e R s m args below meth c H locs cells slots Q (F0 m (pc + 3) ls rest)) : W p l e R s m args below meth c H locs cells slots Q (F0 m pc ls (.int (nI a) :: rest)) := lv_if_eq hx hb hdg ht (fun h => kt ((nI_eq ha (by decide)).mp h)) (fun h => kf (fun q => h (by rw [q]; rfl)))
theorem kn_ne (hx : p.tables.exec = Jvm.exec) (hb : c.code = cc) {a : Nat} (ha : a < 2147483648) {off : Int} {tgt : Nat} (hdg : decode cc pc = .ok (.ifCond .ne off, 3)) (ht : (pc : Int) + off = (tgt : Int))
    (kt : a ≠ 0 → W p l e R s m args below meth c H locs cells slots Q (F0 m tgt ls rest)) (kf : a = 0 → W p l e R s m args below meth c H locs cells slots Q (F0 m (pc + 3) ls rest)) : W p l e R s m args below meth c H locs cells slots Q (F0 m pc ls (.int (nI a) :: rest)) := lv_if_ne hx hb hdg ht (fun h => kt (fun q => h (by rw [q]; rfl))) (fun h => kf ((nI_eq ha (by decide)).mp h))
theorem kn_ifle (hx : p.tables.exec = Jvm.exec) (hb : c.code = cc) {a : Nat} (ha : a < 2147483648) {off : Int} {tgt : Nat} (hdg : decode cc pc = .ok (.ifCond .le off, 3)) (ht : (pc : Int) + off = (tgt : Int))
    (kt : a = 0 → W p l e R s m args below meth c H locs cells slots Q (F0 m tgt ls rest)) (kf : a ≠ 0 → W p l e R s m args below meth c H locs cells slots Q (F0 m (pc + 3) ls rest)) : W p l e R s m args below meth c H locs cells slots Q (F0 m pc ls (.int (nI a) :: rest)) := lv_if_le hx hb hdg ht (fun h => kt (by rcases Nat.eq_zero_or_pos a with q | q; exact q; exact absurd h (nI_nle q ha))) (fun h => kf (fun q => h (by rw [q]; decide)))
theorem kn_iflt (hx : p.tables.exec = Jvm.exec) (hb : c.code = cc) {a : Nat} (ha : a < 2147483648) {off : Int} {tgt : Nat} (hdg : decode cc pc = .ok (.ifCond .lt off, 3)) (ht : (pc : Int) + off = (tgt : Int))
    (kf : W p l e R s m args below meth c H locs cells slots Q (F0 m (pc + 3) ls rest)) : W p l e R s m args below meth c H locs cells slots Q (F0 m pc ls (.int (nI a) :: rest)) := lv_if_lt hx hb hdg ht (fun h => absurd h (nI_pos ha)) (fun _ => kf)
theorem kn_ifge (hx : p.tables.exec = Jvm.exec) (hb : c.code = cc) {a : Nat} (ha : a < 2147483648) {off : Int} {tgt : Nat} (hdg : decode cc pc = .ok (.ifCond .ge off, 3)) (ht : (pc : Int) + off = (tgt : Int))
    (kt : W p l e R s m args below meth c H locs cells slots Q (F0 m tgt ls rest)) : W p l e R s m args below meth c H locs cells slots Q (F0 m pc ls (.int (nI a) :: rest)) := lv_if_ge hx hb hdg ht (fun _ => kt) (fun h => absurd (nI_pos' ha) h)
theorem kn_icmp_eq (hx : p.tables.exec = Jvm.exec) (hb : c.code = cc) {a b : Nat} (ha : a < 2147483648) (hb2 : b < 2147483648) {off : Int} {tgt : Nat} (hdg : decode cc pc = .ok (.if_icmp .eq off, 3)) (ht : (pc : Int) + off = (tgt : Int))
    (kt : a = b → W p l e R s m args below meth c H locs cells slots Q (F0 m tgt ls rest)) (kf : a ≠ b → W p l e R s m args below meth c H locs cells slots Q (F0 m (pc + 3) ls rest)) : W p l e R s m args below meth c H locs cells slots Q (F0 m pc ls (.int (nI b) :: .int (nI a) :: rest)) := lv_icmp_eq hx hb hdg ht (fun h => kt ((nI_eq ha hb2).mp h)) (fun h => kf (fun q => h (by rw [q])))
theorem kn_icmp_ne (hx : p.tables.exec = Jvm.exec) (hb : c.code = cc) {a b : Nat} (ha : a < 2147483648) (hb2 : b < 2147483648) {off : Int} {tgt : Nat} (hdg : decode cc pc = .ok (.if_icmp .ne off, 3)) (ht : (pc : Int) + off = (tgt : Int))
    (kt : a ≠ b → W p l e R s m args below meth c H locs cells slots Q (F0 m tgt ls rest)) (kf : a = b → W p l e R s m args below meth c H locs cells slots Q (F0 m (pc + 3) ls rest)) : W p l e R s m args below meth c H locs cells slots Q (F0 m pc ls (.int (nI b) :: .int (nI a) :: rest)) := lv_icmp_ne hx hb hdg ht (fun h => kt (fun q => h (by rw [q]))) (fun h => kf ((nI_eq ha hb2).mp h))
theorem kn_icmp_lt (hx : p.tables.exec = Jvm.exec) (hb : c.code = cc) {a b : Nat} (ha : a < 2147483648) (hb2 : b < 2147483648) {off : Int} {tgt : Nat} (hdg : decode cc pc = .ok (.if_icmp .lt off, 3)) (ht : (pc : Int) + off = (tgt : Int))
    (kt : a < b → W p l e R s m args below meth c H locs cells slots Q (F0 m tgt ls rest)) (kf : b ≤ a → W p l e R s m args below meth c H locs cells slots Q (F0 m (pc + 3) ls rest)) : W p l e R s m args below meth c H locs cells slots Q (F0 m pc ls (.int (nI b) :: .int (nI a) :: rest)) := lv_icmp_lt hx hb hdg ht (fun h => kt ((nI_ltI ha hb2).mp h)) (fun h => kf (Nat.not_lt.mp fun q => h ((nI_ltI ha hb2).mpr q)))
theorem kn_icmp_ge (hx : p.tables.exec = Jvm.exec) (hb : c.code = cc) {a b : Nat} (ha : a < 2147483648) (hb2 : b < 2147483648) {off : Int} {tgt : Nat} (hdg : decode cc pc = .ok (.if_icmp .ge off, 3)) (ht : (pc : Int) + off = (tgt : Int))
    (kt : b ≤ a → W p l e R s m args below meth c H locs cells slots Q (F0 m tgt ls rest)) (kf : a < b → W p l e R s m args below meth c H locs cells slots Q (F0 m (pc + 3) ls rest)) : W p l e R s m args below meth c H locs cells slots Q (F0 m pc ls (.int (nI b) :: .int (nI a) :: rest)) := lv_icmp_ge hx hb hdg ht (fun h => kt ((nI_leI hb2 ha).mp h)) (fun h => kf (Nat.not_le.mp fun q => h ((nI_leI hb2 ha).mpr q)))
theorem kn_icmp_gt (hx : p.tables.exec = Jvm.exec) (hb : c.code = cc) {a b : Nat} (ha : a < 2147483648) (hb2 : b < 2147483648) {off : Int} {tgt : Nat} (hdg : decode cc pc = .ok (.if_icmp .gt off, 3)) (ht : (pc : Int) + off = (tgt : Int))
    (kt : b < a → W p l e R s m args below meth c H locs cells slots Q (F0 m tgt ls rest)) (kf : a ≤ b → W p l e R s m args below meth c H locs cells slots Q (F0 m (pc + 3) ls rest)) : W p l e R s m args below meth c H locs cells slots Q (F0 m pc ls (.int (nI b) :: .int (nI a) :: rest)) := lv_icmp_gt hx hb hdg ht (fun h => kt ((nI_ltI hb2 ha).mp h)) (fun h => kf (Nat.not_lt.mp fun q => h ((nI_ltI hb2 ha).mpr q)))
theorem kn_icmp_le (hx : p.tables.exec = Jvm.exec) (hb : c.code = cc) {a b : Nat} (ha : a < 2147483648) (hb2 : b < 2147483648) {off : Int} {tgt : Nat} (hdg : decode cc pc = .ok (.if_icmp .le off, 3)) (ht : (pc : Int) + off = (tgt : Int))
    (kt : a ≤ b → W p l e R s m args below meth c H locs cells slots Q (F0 m tgt ls rest)) (kf : b < a → W p l e R s m args below meth c H locs cells slots Q (F0 m (pc + 3) ls rest)) : W p l e R s m args below meth c H locs cells slots Q (F0 m pc ls (.int (nI b) :: .int (nI a) :: rest)) := lv_icmp_le hx hb hdg ht (fun h => kt ((nI_leI ha hb2).mp h)) (fun h => kf (Nat.not_le.mp fun q => h ((nI_leI ha hb2).mpr q)))
theorem kc_dg_ge (hx : p.tables.exec = Jvm.exec) (hb : c.code = cc) {x y : UInt64} {off : Int} {tgt : Nat} (d1 : decode cc pc = .ok (.dcmp .g, 1)) (d2 : decode cc (pc + 1) = .ok (.ifCond .ge off, 3)) (ht : ((pc + 1 : Nat) : Int) + off = (tgt : Int))
    (kt : oLt (FP.dcmp x y) = false → W p l e R s m args below meth c H locs cells slots Q (F0 m tgt ls rest)) (kf : oLt (FP.dcmp x y) = true → W p l e R s m args below meth c H locs cells slots Q (F0 m (pc + 4) ls rest)) : W p l e R s m args below meth c H locs cells slots Q (F0 m pc ls (.double y :: .double x :: rest)) := lv_dcmp hx hb d1 (lv_if_ge hx hb d2 ht (fun h => kt ((oc_g_ge _).mp h)) (fun h => kf (bnt fun q => h ((oc_g_ge _).mpr q))))
theorem kc_dg_gt (hx : p.tables.exec = Jvm.exec) (hb : c.code = cc) {x y : UInt64} {off : Int} {tgt : Nat} (d1 : decode cc pc = .ok (.dcmp .g, 1)) (d2 : decode cc (pc + 1) = .ok (.ifCond .gt off, 3)) (ht : ((pc + 1 : Nat) : Int) + off = (tgt : Int))
    (kt : oLe (FP.dcmp x y) = false → W p l e R s m args below meth c H locs cells slots Q (F0 m tgt ls rest)) (kf : oLe (FP.dcmp x y) = true → W p l e R s m args below meth c H locs cells slots Q (F0 m (pc + 4) ls rest)) : W p l e R s m args below meth c H locs cells slots Q (F0 m pc ls (.double y :: .double x :: rest)) := lv_dcmp hx hb d1 (lv_if_gt hx hb d2 ht (fun h => kt ((oc_g_gt _).mp h)) (fun h => kf (bnt fun q => h ((oc_g_gt _).mpr q))))
theorem kc_dg_le (hx : p.tables.exec = Jvm.exec) (hb : c.code = cc) {x y : UInt64} {off : Int} {tgt : Nat} (d1 : decode cc pc = .ok (.dcmp .g, 1)) (d2 : decode cc (pc + 1) = .ok (.ifCond .le off, 3)) (ht : ((pc + 1 : Nat) : Int) + off = (tgt : Int))
    (kt : oLe (FP.dcmp x y) = true → W p l e R s m args below meth c H locs cells slots Q (F0 m tgt ls rest)) (kf : oLe (FP.dcmp x y) = false → W p l e R s m args below meth c H locs cells slots Q (F0 m (pc + 4) ls rest)) : W p l e R s m args below meth c H locs cells slots Q (F0 m pc ls (.double y :: .double x :: rest)) := lv_dcmp hx hb d1 (lv_if_le hx hb d2 ht (fun h => kt ((oc_g_le _).mp h)) (fun h => kf (bnf fun q => h ((oc_g_le _).mpr q))))
theorem kc_dl_le (hx : p.tables.exec = Jvm.exec) (hb : c.code = cc) {x y : UInt64} {off : Int} {tgt : Nat} (d1 : decode cc pc = .ok (.dcmp .l, 1)) (d2 : decode cc (pc + 1) = .ok (.ifCond .le off, 3)) (ht : ((pc + 1 : Nat) : Int) + off = (tgt : Int))
    (kt : oGt (FP.dcmp x y) = false → W p l e R s m args below meth c H locs cells slots Q (F0 m tgt ls rest)) (kf : oGt (FP.dcmp x y) = true → W p l e R s m args below meth c H locs cells slots Q (F0 m (pc + 4) ls rest)) : W p l e R s m args below meth c H locs cells slots Q (F0 m pc ls (.double y :: .double x :: rest)) := lv_dcmp hx hb d1 (lv_if_le hx hb d2 ht (fun h => kt ((oc_l_le _).mp h)) (fun h => kf (bnt fun q => h ((oc_l_le _).mpr q))))
theorem kc_dl_lt (hx : p.tables.exec = Jvm.exec) (hb : c.code = cc) {x y : UInt64} {off : Int} {tgt : Nat} (d1 : decode cc pc = .ok (.dcmp .l, 1)) (d2 : decode cc (pc + 1) = .ok (.ifCond .lt off, 3)) (ht : ((pc + 1 : Nat) : Int) + off = (tgt : Int))
    (kt : oGe (FP.dcmp x y) = false → W p l e R s m args below meth c H locs cells slots Q (F0 m tgt ls rest)) (kf : oGe (FP.dcmp x y) = true → W p l e R s m args below meth c H locs cells slots Q (F0 m (pc + 4) ls rest)) : W p l e R s m args below meth c H locs cells slots Q (F0 m pc ls (.double y :: .double x :: rest)) := lv_dcmp hx hb d1 (lv_if_lt hx hb d2 ht (fun h => kt ((oc_l_lt _).mp h)) (fun h => kf (bnt fun q => h ((oc_l_lt _).mpr q))))
theorem kc_dl_ne (hx : p.tables.exec = Jvm.exec) (hb : c.code = cc) {x y : UInt64} {off : Int} {tgt : Nat} (d1 : decode cc pc = .ok (.dcmp .l, 1)) (d2 : decode cc (pc + 1) = .ok (.ifCond .ne off, 3)) (ht : ((pc + 1 : Nat) : Int) + off = (tgt : Int))
    (kt : oEq (FP.dcmp x y) = false → W p l e R s m args below meth c H locs cells slots Q (F0 m tgt ls rest)) (kf : oEq (FP.dcmp x y) = true → W p l e R s m args below meth c H locs cells slots Q (F0 m (pc + 4) ls rest)) : W p l e R s m args below meth c H locs cells slots Q (F0 m pc ls (.double y :: .double x :: rest)) := lv_dcmp hx hb d1 (lv_if_ne hx hb d2 ht (fun h => kt ((oc_l_ne _).mp h)) (fun h => kf (bnt fun q => ((oc_l_ne _).mpr q) h)))
theorem kc_dl_eq (hx : p.tables.exec = Jvm.exec) (hb : c.code = cc) {x y : UInt64} {off : Int} {tgt : Nat} (d1 : decode cc pc = .ok (.dcmp .l, 1)) (d2 : decode cc (pc + 1) = .ok (.ifCond .eq off, 3)) (ht : ((pc + 1 : Nat) : Int) + off = (tgt : Int))
    (kt : oEq (FP.dcmp x y) = true → W p l e R s m args below meth c H locs cells slots Q (F0 m tgt ls rest)) (kf : oEq (FP.dcmp x y) = false → W p l e R s m args below meth c H locs cells slots Q (F0 m (pc + 4) ls rest)) : W p l e R s m args below meth c H locs cells slots Q (F0 m pc ls (.double y :: .double x :: rest)) := lv_dcmp hx hb d1 (lv_if_eq hx hb d2 ht (fun h => kt ((oc_l_eq _).mp h)) (fun h => kf (bnf fun q => h ((oc_l_eq _).mpr q))))
theorem kc_fg_ge (hx : p.tables.exec = Jvm.exec) (hb : c.code = cc) {x y : UInt32} {off : Int} {tgt : Nat} (d1 : decode cc pc = .ok (.fcmp .g, 1)) (d2 : decode cc (pc + 1) = .ok (.ifCond .ge off, 3)) (ht : ((pc + 1 : Nat) : Int) + off = (tgt : Int))
    (kt : oLt (FP.fcmp x y) = false → W p l e R s m args below meth c H locs cells slots Q (F0 m tgt ls rest)) (kf : oLt (FP.fcmp x y) = true → W p l e R s m args below meth c H locs cells slots Q (F0 m (pc + 4) ls rest)) : W p l e R s m args below meth c H locs cells slots Q (F0 m pc ls (.float y :: .float x :: rest)) := lv_fcmp hx hb d1 (lv_if_ge hx hb d2 ht (fun h => kt ((oc_g_ge _).mp h)) (fun h => kf (bnt fun q => h ((oc_g_ge _).mpr q))))
theorem kc_fg_gt (hx : p.tables.exec = Jvm.exec) (hb : c.code = cc) {x y : UInt32} {off : Int} {tgt : Nat} (d1 : decode cc pc = .ok (.fcmp .g, 1)) (d2 : decode cc (pc + 1) = .ok (.ifCond .gt off, 3)) (ht : ((pc + 1 : Nat) : Int) + off = (tgt : Int))
    (kt : oLe (FP.fcmp x y) = false → W p l e R s m args below meth c H locs cells slots Q (F0 m tgt ls rest)) (kf : oLe (FP.fcmp x y) = true → W p l e R s m args below meth c H locs cells slots Q (F0 m (pc + 4) ls rest)) : W p l e R s m args below meth c H locs cells slots Q (F0 m pc ls (.float y :: .float x :: rest)) := lv_fcmp hx hb d1 (lv_if_gt hx hb d2 ht (fun h => kt ((oc_g_gt _).mp h)) (fun h => kf (bnt fun q => h ((oc_g_gt _).mpr q))))
theorem kc_fg_le (hx : p.tables.exec = Jvm.exec) (hb : c.code = cc) {x y : UInt32} {off : Int} {tgt : Nat} (d1 : decode cc pc = .ok (.fcmp .g, 1)) (d2 : decode cc (pc + 1) = .ok (.ifCond .le off, 3)) (ht : ((pc + 1 : Nat) : Int) + off = (tgt : Int))
    (kt : oLe (FP.fcmp x y) = true → W p l e R s m args below meth c H locs cells slots Q (F0 m tgt ls rest)) (kf : oLe (FP.fcmp x y) = false → W p l e R s m args below meth c H locs cells slots Q (F0 m (pc + 4) ls rest)) : W p l e R s m args below meth c H locs cells slots Q (F0 m pc ls (.float y :: .float x :: rest)) := lv_fcmp hx hb d1 (lv_if_le hx hb d2 ht (fun h => kt ((oc_g_le _).mp h)) (fun h => kf (bnf fun q => h ((oc_g_le _).mpr q))))
theorem kc_fl_le (hx : p.tables.exec = Jvm.exec) (hb : c.code = cc) {x y : UInt32} {off : Int} {tgt : Nat} (d1 : decode cc pc = .ok (.fcmp .l, 1)) (d2 : decode cc (pc + 1) = .ok (.ifCond .le off, 3)) (ht : ((pc + 1 : Nat) : Int) + off = (tgt : Int))
    (kt : oGt (FP.fcmp x y) = false → W p l e R s m args below meth c H locs cells slots Q (F0 m tgt ls rest)) (kf : oGt (FP.fcmp x y) = true → W p l e R s m args below meth c H locs cells slots Q (F0 m (pc + 4) ls rest)) : W p l e R s m args below meth c H locs cells slots Q (F0 m pc ls (.float y :: .float x :: rest)) := lv_fcmp hx hb d1 (lv_if_le hx hb d2 ht (fun h => kt ((oc_l_le _).mp h)) (fun h => kf (bnt fun q => h ((oc_l_le _).mpr q))))
theorem kc_fl_lt (hx : p.tables.exec = Jvm.exec) (hb : c.code = cc) {x y : UInt32} {off : Int} {tgt : Nat} (d1 : decode cc pc = .ok (.fcmp .l, 1)) (d2 : decode cc (pc + 1) = .ok (.ifCond .lt off, 3)) (ht : ((pc + 1 : Nat) : Int) + off = (tgt : Int))
    (kt : oGe (FP.fcmp x y) = false → W p l e R s m args below meth c H locs cells slots Q (F0 m tgt ls rest)) (kf : oGe (FP.fcmp x y) = true → W p l e R s m args below meth c H locs cells slots Q (F0 m (pc + 4) ls rest)) : W p l e R s m args below meth c H locs cells slots Q (F0 m pc ls (.float y :: .float x :: rest)) := lv_fcmp hx hb d1 (lv_if_lt hx hb d2 ht (fun h => kt ((oc_l_lt _).mp h)) (fun h => kf (bnt fun q => h ((oc_l_lt _).mpr q))))
theorem kc_fl_ne (hx : p.tables.exec = Jvm.exec) (hb : c.code = cc) {x y : UInt32} {off : Int} {tgt : Nat} (d1 : decode cc pc = .ok (.fcmp .l, 1)) (d2 : decode cc (pc + 1) = .ok (.ifCond .ne off, 3)) (ht : ((pc + 1 : Nat) : Int) + off = (tgt : Int))
    (kt : oEq (FP.fcmp x y) = false → W p l e R s m args below meth c H locs cells slots Q (F0 m tgt ls rest)) (kf : oEq (FP.fcmp x y) = true → W p l e R s m args below meth c H locs cells slots Q (F0 m (pc + 4) ls rest)) : W p l e R s m args below meth c H locs cells slots Q (F0 m pc ls (.float y :: .float x :: rest)) := lv_fcmp hx hb d1 (lv_if_ne hx hb d2 ht (fun h => kt ((oc_l_ne _).mp h)) (fun h => kf (bnt fun q => ((oc_l_ne _).mpr q) h)))
theorem kc_fl_eq (hx : p.tables.exec = Jvm.exec) (hb : c.code = cc) {x y : UInt32} {off : Int} {tgt : Nat} (d1 : decode cc pc = .ok (.fcmp .l, 1)) (d2 : decode cc (pc + 1) = .ok (.ifCond .eq off, 3)) (ht : ((pc + 1 : Nat) : Int) + off = (tgt : Int))
    (kt : oEq (FP.fcmp x y) = true → W p l e R s m args below meth c H locs cells slots Q (F0 m tgt ls rest)) (kf : oEq (FP.fcmp x y) = false → W p l e R s m args below meth c H locs cells slots Q (F0 m (pc + 4) ls rest)) : W p l e R s m args below meth c H locs cells slots Q (F0 m pc ls (.float y :: .float x :: rest)) := lv_fcmp hx hb d1 (lv_if_eq hx hb d2 ht (fun h => kt ((oc_l_eq _).mp h)) (fun h => kf (bnf fun q => h ((oc_l_eq _).mpr q))))
variable {D : va_G} {cl : List vw_C} {A : Nat → Prop} {a : Nat} {tys : List (ClassId × FieldType)} {ws : va_W} {H0 : Heap}
theorem kn_iald (hx : p.tables.exec = Jvm.exec) (hb : c.code = cc) (hK : va_K D cl tys s) (hP : va_P D cl ws H) (q0 t0 : Nat) {cA : ClassId} {n : Nat} {f : Nat → Nat} (ha : ws[q0]? = some (a, .inl (cA, n, .inl (fun j => nI (f j))))) (ht : tys[t0]? = some (cA, .int)) {i : Nat} (hi : i < n) (hn : n < 2147483648) (hdg : decode cc pc = .ok (.iaload, 1))
    (kk : W p l e R s m args below meth c H locs cells slots Q (F0 m (pc + 1) ls (.int (nI (f i)) :: rest))) : W p l e R s m args below meth c H locs cells slots Q (F0 m pc ls (.int (nI i) :: .ref a :: rest)) :=
  va_iald hx hb hK hP q0 t0 ha ht (vp_in_nI hi hn) hdg (kt_i (by rw [nI_clamp (Nat.lt_trans hi hn)]) kk)
theorem kn_zald (hx : p.tables.exec = Jvm.exec) (hb : c.code = cc) (hK : va_K D cl tys s) (hP : va_P D cl ws H) (q0 t0 : Nat) {cA : ClassId} {n : Nat} {f : Nat → Bool} (ha : ws[q0]? = some (a, .inl (cA, n, .inl (fun j => b2i (f j))))) (ht : tys[t0]? = some (cA, .boolean)) {i : Nat} (hi : i < n) (hn : n < 2147483648) (hdg : decode cc pc = .ok (.baload, 1))
    (kk : W p l e R s m args below meth c H locs cells slots Q (F0 m (pc + 1) ls (.int (b2i (f i)) :: rest))) : W p l e R s m args below meth c H locs cells slots Q (F0 m pc ls (.int (nI i) :: .ref a :: rest)) :=
  va_zald hx hb hK hP q0 t0 ha ht (vp_in_nI hi hn) hdg (kt_i (by rw [nI_clamp (Nat.lt_trans hi hn)]) kk)
theorem kn_dald (hx : p.tables.exec = Jvm.exec) (hb : c.code = cc) (hK : va_K D cl tys s) (hP : va_P D cl ws H) (q0 t0 : Nat) {cA : ClassId} {n : Nat} {f : Nat → UInt64} (ha : ws[q0]? = some (a, .inl (cA, n, .inr (.inr (.inr (.inl f)))))) (ht : tys[t0]? = some (cA, .double)) {i : Nat} (hi : i < n) (hn : n < 2147483648) (hdg : decode cc pc = .ok (.daload, 1))
    (kk : W p l e R s m args below meth c H locs cells slots Q (F0 m (pc + 1) ls (.double (f i) :: rest))) : W p l e R s m args below meth c H locs cells slots Q (F0 m pc ls (.int (nI i) :: .ref a :: rest)) :=
  va_dald hx hb hK hP q0 t0 ha ht (vp_in_nI hi hn) hdg (kt_d (by rw [nI_clamp (Nat.lt_trans hi hn)]) kk)
theorem kn_iast (hx : p.tables.exec = Jvm.exec) (hb : c.code = cc) (hK : va_K D cl tys s) (hP : va_P D cl ws H) (hD : va_D A ws) (hS : va_S A H0 H locs) (q0 t0 : Nat) {cA : ClassId} {n : Nat} {f : Nat → Nat} (ha : ws[q0]? = some (a, .inl (cA, n, .inl (fun j => nI (f j))))) (ht : tys[t0]? = some (cA, .int)) {i x : Nat} (hi : i < n) (hn : n < 2147483648) (hdg : decode cc pc = .ok (.iastore, 1))
    (kk : ∀ (H1 : Heap) (locs1 : List Loc), va_P D cl (ws.set q0 (a, .inl (cA, n, .inl (fun j => nI (up f i x j))))) H1 → va_D A (ws.set q0 (a, .inl (cA, n, .inl (fun j => nI (up f i x j))))) → va_S A H0 H1 locs1 → W p l e R s m args below meth c H1 locs1 cells slots Q (F0 m (pc + 1) ls rest)) : W p l e R s m args below meth c H locs cells slots Q (F0 m pc ls (.int (nI x) :: .int (nI i) :: .ref a :: rest)) := by
  refine va_iast hx hb hK hP hD hS q0 t0 ha ht (vp_in_nI hi hn) hdg ?_
  rw [nI_clamp (Nat.lt_trans hi hn), up_nI]
  exact kk
theorem kn_zast (hx : p.tables.exec = Jvm.exec) (hb : c.code = cc) (hK : va_K D cl tys s) (hP : va_P D cl ws H) (hD : va_D A ws) (hS : va_S A H0 H locs) (q0 t0 : Nat) {cA : ClassId} {n : Nat} {f : Nat → Bool} (ha : ws[q0]? = some (a, .inl (cA, n, .inl (fun j => b2i (f j))))) (ht : tys[t0]? = some (cA, .boolean)) {i : Nat} {x : Bool} (hi : i < n) (hn : n < 2147483648) (hdg : decode cc pc = .ok (.bastore, 1))
    (kk : ∀ (H1 : Heap) (locs1 : List Loc), va_P D cl (ws.set q0 (a, .inl (cA, n, .inl (fun j => b2i (up f i x j))))) H1 → va_D A (ws.set q0 (a, .inl (cA, n, .inl (fun j => b2i (up f i x j))))) → va_S A H0 H1 locs1 → W p l e R s m args below meth c H1 locs1 cells slots Q (F0 m (pc + 1) ls rest)) : W p l e R s m args below meth c H locs cells slots Q (F0 m pc ls (.int (b2i x) :: .int (nI i) :: .ref a :: rest)) := by
  refine va_zast hx hb hK hP hD hS q0 t0 ha ht (vp_in_nI hi hn) hdg ?_
  rw [nI_clamp (Nat.lt_trans hi hn), b2i_vp, up_b2i]
  exact kk
theorem kn_dast (hx : p.tables.exec = Jvm.exec) (hb : c.code = cc) (hK : va_K D cl tys s) (hP : va_P D cl ws H) (hD : va_D A ws) (hS : va_S A H0 H locs) (q0 t0 : Nat) {cA : ClassId} {n : Nat} {f : Nat → UInt64} (ha : ws[q0]? = some (a, .inl (cA, n, .inr (.inr (.inr (.inl f)))))) (ht : tys[t0]? = some (cA, .double)) {i : Nat} {x : UInt64} (hi : i < n) (hn : n < 2147483648) (hdg : decode cc pc = .ok (.dastore, 1))
    (kk : ∀ (H1 : Heap) (locs1 : List Loc), va_P D cl (ws.set q0 (a, .inl (cA, n, .inr (.inr (.inr (.inl (up f i x))))))) H1 → va_D A (ws.set q0 (a, .inl (cA, n, .inr (.inr (.inr (.inl (up f i x))))))) → va_S A H0 H1 locs1 → W p l e R s m args below meth c H1 locs1 cells slots Q (F0 m (pc + 1) ls rest)) : W p l e R s m args below meth c H locs cells slots Q (F0 m pc ls (.double x :: .int (nI i) :: .ref a :: rest)) := by
  refine va_dast hx hb hK hP hD hS q0 t0 ha ht (vp_in_nI hi hn) hdg ?_
  rw [nI_clamp (Nat.lt_trans hi hn), up_vf]
  exact kk
end KD
/-! ## calls that leave the heap as it was -/
def rd_Qi (post : Int32 → Prop) : Array Value → State → Outcome → State → Prop := fun _ st oc t => (∃ r : Int32, oc = .returned (some (.int r)) ∧ post r) ∧ t.heap = st.heap
def rd_Qd (post : UInt64 → Prop) : Array Value → State → Outcome → State → Prop := fun _ st oc t => (∃ r : UInt64, oc = .returned (some (.double r)) ∧ post r) ∧ t.heap = st.heap
def rd_Qf (post : UInt32 → Prop) : Array Value → State → Outcome → State → Prop := fun _ st oc t => (∃ r : UInt32, oc = .returned (some (.float r)) ∧ post r) ∧ t.heap = st.heap
def rd_Qv (post : Prop) : Array Value → State → Outcome → State → Prop := fun _ st oc t => (oc = .returned none ∧ post) ∧ t.heap = st.heap
/-- what is thrown, nothing old changed -/
def rd_X (px : String → Prop) : String → State → State → Prop := fun E st t => px E ∧ va_F (fun _ => False) st t
section RD
variable {p : Program} {l : Launch} {e : Env} {R : Room} {s : State} {m : MethodId} {args : Array Value} {below : List Frame} {meth : Method} {c : Code} {H : Heap} {locs : List Loc} {cells slots : Nat} {Q : State → Prop}
variable {pc mc ms mc' ms' : Nat} {ls : Array Slot} {rest st0 : List Value} {a : Array Value} {px px' : String → Prop} {free' : Addr → Prop} {Qc : Array Value → State → Outcome → State → Prop}
theorem rd_nil {L : List Loc} (h : ∀ q ∈ L, (fun _ : Addr => False) q.base) : L = [] := List.eq_nil_iff_forall_not_mem.mpr fun q hq => h q hq
theorem rd_calli {post : Int32 → Prop} (hr : va_Run p l e R s m args below meth c H locs cells slots 0 0 (F0 m pc ls st0) rest (rd_Qi post a) (fun _ => False))
    (kk : ∀ r : Int32, post r → W p l e R s m args below meth c H locs cells slots Q (F0 m (pc + 3) ls (.int r :: rest))) : W p l e R s m args below meth c H locs cells slots Q (F0 m pc ls st0) := by
  intro T hT X
  obtain ⟨v, st₀, t, T', L, h0, X', hL, e1, e2, ⟨⟨r, hv, hp⟩, hh⟩, st⟩ := hr T hT X
  cases hv
  cases rd_nil hL
  rw [List.append_nil] at X'
  obtain ⟨t2, a1, b1⟩ := kk r hp T' (by rw [e1, hh, h0]) X'
  exact ⟨t2, st t2 a1, b1⟩
theorem rd_calld {post : UInt64 → Prop} (hr : va_Run p l e R s m args below meth c H locs cells slots 0 0 (F0 m pc ls st0) rest (rd_Qd post a) (fun _ => False))
    (kk : ∀ r : UInt64, post r → W p l e R s m args below meth c H locs cells slots Q (F0 m (pc + 3) ls (.double r :: rest))) : W p l e R s m args below meth c H locs cells slots Q (F0 m pc ls st0) := by
  intro T hT X
  obtain ⟨v, st₀, t, T', L, h0, X', hL, e1, e2, ⟨⟨r, hv, hp⟩, hh⟩, st⟩ := hr T hT X
  cases hv
  cases rd_nil hL
  rw [List.append_nil] at X'
  obtain ⟨t2, a1, b1⟩ := kk r hp T' (by rw [e1, hh, h0]) X'
  exact ⟨t2, st t2 a1, b1⟩
theorem rd_callf {post : UInt32 → Prop} (hr : va_Run p l e R s m args below meth c H locs cells slots 0 0 (F0 m pc ls st0) rest (rd_Qf post a) (fun _ => False))
    (kk : ∀ r : UInt32, post r → W p l e R s m args below meth c H locs cells slots Q (F0 m (pc + 3) ls (.float r :: rest))) : W p l e R s m args below meth c H locs cells slots Q (F0 m pc ls st0) := by
  intro T hT X
  obtain ⟨v, st₀, t, T', L, h0, X', hL, e1, e2, ⟨⟨r, hv, hp⟩, hh⟩, st⟩ := hr T hT X
  cases hv
  cases rd_nil hL
  rw [List.append_nil] at X'
  obtain ⟨t2, a1, b1⟩ := kk r hp T' (by rw [e1, hh, h0]) X'
  exact ⟨t2, st t2 a1, b1⟩
/-- a call that may throw, ahead of all writes, in a method without handlers -/
theorem kx_calli {post : Int32 → Prop} (hr : vx_Run p l e R s m args below meth c s.heap [] cells slots mc ms (F0 m pc ls st0) rest (rd_Qi post a) (rd_X px) (fun _ => False)) (hno : ∀ x ∈ c.exceptionTable.toList, False) (hlocks : meth.locks = false) (hpx : ∀ E, px E → px' E) (hc : cells + mc ≤ mc') (hs : slots + ms ≤ ms')
    (kk : ∀ r : Int32, post r → W p l e R s m args below meth c s.heap [] (cells + mc) (slots + ms) (vx_MQ below Qc (rd_X px') args s mc' ms' free') (F0 m (pc + 3) ls (.int r :: rest))) : W p l e R s m args below meth c s.heap [] cells slots (vx_MQ below Qc (rd_X px') args s mc' ms' free') (F0 m pc ls st0) := by
  intro T hT X
  rcases hr T hT X with ⟨v, st₀, t, T', L, h0, X', hL, e1, e2, ⟨⟨r, hv, hp⟩, hh⟩, st⟩ | ⟨q, st₀, t, T', L, E, ce, h0, X', hL, e1, e2, ⟨hp, hF⟩, hce, hcv, hcl, st⟩
  · cases hv
    cases rd_nil hL
    obtain ⟨t2, a1, b1⟩ := kk r hp T' (by rw [e1, hh, h0]) X'
    exact ⟨t2, st t2 a1, b1⟩
  · cases rd_nil hL
    obtain ⟨t2, a1, b1⟩ := (vx_out (Qc := Qc) (XC := rd_X px') (free := free') (H := T'.heap) (pc := pc) (ls := ls) (rest := rest) (fun x hx => (hno x hx).elim) hlocks (by rw [e1]; exact hce) hcv hcl (fun t9 ht9 _ => ⟨hpx E hp, by rw [ht9, e1]; unfold va_F at hF; rw [h0] at hF; exact hF.1, by rw [ht9, e1]; unfold va_F at hF; rw [h0] at hF; exact hF.2⟩) (fun z hz => absurd hz List.not_mem_nil) hc hs : vx_W p l e R s m args below meth c T'.heap [] (cells + mc) (slots + ms) (vx_MQ below Qc (rd_X px') args s mc' ms' free') (F0 m pc ls rest) q) T' rfl X'
    exact ⟨t2, st.trans a1, b1⟩
/-- a call that may throw, ahead of all writes, in a method without handlers -/
theorem kx_calld {post : UInt64 → Prop} (hr : vx_Run p l e R s m args below meth c s.heap [] cells slots mc ms (F0 m pc ls st0) rest (rd_Qd post a) (rd_X px) (fun _ => False)) (hno : ∀ x ∈ c.exceptionTable.toList, False) (hlocks : meth.locks = false) (hpx : ∀ E, px E → px' E) (hc : cells + mc ≤ mc') (hs : slots + ms ≤ ms')
    (kk : ∀ r : UInt64, post r → W p l e R s m args below meth c s.heap [] (cells + mc) (slots + ms) (vx_MQ below Qc (rd_X px') args s mc' ms' free') (F0 m (pc + 3) ls (.double r :: rest))) : W p l e R s m args below meth c s.heap [] cells slots (vx_MQ below Qc (rd_X px') args s mc' ms' free') (F0 m pc ls st0) := by
  intro T hT X
  rcases hr T hT X with ⟨v, st₀, t, T', L, h0, X', hL, e1, e2, ⟨⟨r, hv, hp⟩, hh⟩, st⟩ | ⟨q, st₀, t, T', L, E, ce, h0, X', hL, e1, e2, ⟨hp, hF⟩, hce, hcv, hcl, st⟩
  · cases hv
    cases rd_nil hL
    obtain ⟨t2, a1, b1⟩ := kk r hp T' (by rw [e1, hh, h0]) X'
    exact ⟨t2, st t2 a1, b1⟩
  · cases rd_nil hL
    obtain ⟨t2, a1, b1⟩ := (vx_out (Qc := Qc) (XC := rd_X px') (free := free') (H := T'.heap) (pc := pc) (ls := ls) (rest := rest) (fun x hx => (hno x hx).elim) hlocks (by rw [e1]; exact hce) hcv hcl (fun t9 ht9 _ => ⟨hpx E hp, by rw [ht9, e1]; unfold va_F at hF; rw [h0] at hF; exact hF.1, by rw [ht9, e1]; unfold va_F at hF; rw [h0] at hF; exact hF.2⟩) (fun z hz => absurd hz List.not_mem_nil) hc hs : vx_W p l e R s m args below meth c T'.heap [] (cells + mc) (slots + ms) (vx_MQ below Qc (rd_X px') args s mc' ms' free') (F0 m pc ls rest) q) T' rfl X'
    exact ⟨t2, st.trans a1, b1⟩
/-- a call that may throw, ahead of all writes, in a method without handlers -/
theorem kx_callf {post : UInt32 → Prop} (hr : vx_Run p l e R s m args below meth c s.heap [] cells slots mc ms (F0 m pc ls st0) rest (rd_Qf post a) (rd_X px) (fun _ => False)) (hno : ∀ x ∈ c.exceptionTable.toList, False) (hlocks : meth.locks = false) (hpx : ∀ E, px E → px' E) (hc : cells + mc ≤ mc') (hs : slots + ms ≤ ms')
    (kk : ∀ r : UInt32, post r → W p l e R s m args below meth c s.heap [] (cells + mc) (slots + ms) (vx_MQ below Qc (rd_X px') args s mc' ms' free') (F0 m (pc + 3) ls (.float r :: rest))) : W p l e R s m args below meth c s.heap [] cells slots (vx_MQ below Qc (rd_X px') args s mc' ms' free') (F0 m pc ls st0) := by
  intro T hT X
  rcases hr T hT X with ⟨v, st₀, t, T', L, h0, X', hL, e1, e2, ⟨⟨r, hv, hp⟩, hh⟩, st⟩ | ⟨q, st₀, t, T', L, E, ce, h0, X', hL, e1, e2, ⟨hp, hF⟩, hce, hcv, hcl, st⟩
  · cases hv
    cases rd_nil hL
    obtain ⟨t2, a1, b1⟩ := kk r hp T' (by rw [e1, hh, h0]) X'
    exact ⟨t2, st t2 a1, b1⟩
  · cases rd_nil hL
    obtain ⟨t2, a1, b1⟩ := (vx_out (Qc := Qc) (XC := rd_X px') (free := free') (H := T'.heap) (pc := pc) (ls := ls) (rest := rest) (fun x hx => (hno x hx).elim) hlocks (by rw [e1]; exact hce) hcv hcl (fun t9 ht9 _ => ⟨hpx E hp, by rw [ht9, e1]; unfold va_F at hF; rw [h0] at hF; exact hF.1, by rw [ht9, e1]; unfold va_F at hF; rw [h0] at hF; exact hF.2⟩) (fun z hz => absurd hz List.not_mem_nil) hc hs : vx_W p l e R s m args below meth c T'.heap [] (cells + mc) (slots + ms) (vx_MQ below Qc (rd_X px') args s mc' ms' free') (F0 m pc ls rest) q) T' rfl X'
    exact ⟨t2, st.trans a1, b1⟩
/-- a call that may throw, ahead of all writes, in a method without handlers -/
theorem kx_callv {post : Prop} (hr : vx_Run p l e R s m args below meth c s.heap [] cells slots mc ms (F0 m pc ls st0) rest (rd_Qv post a) (rd_X px) (fun _ => False)) (hno : ∀ x ∈ c.exceptionTable.toList, False) (hlocks : meth.locks = false) (hpx : ∀ E, px E → px' E) (hc : cells + mc ≤ mc') (hs : slots + ms ≤ ms')
    (kk : post → W p l e R s m args below meth c s.heap [] (cells + mc) (slots + ms) (vx_MQ below Qc (rd_X px') args s mc' ms' free') (F0 m (pc + 3) ls rest)) : W p l e R s m args below meth c s.heap [] cells slots (vx_MQ below Qc (rd_X px') args s mc' ms' free') (F0 m pc ls st0) := by
  intro T hT X
  rcases hr T hT X with ⟨v, st₀, t, T', L, h0, X', hL, e1, e2, ⟨⟨hv, hp⟩, hh⟩, st⟩ | ⟨q, st₀, t, T', L, E, ce, h0, X', hL, e1, e2, ⟨hp, hF⟩, hce, hcv, hcl, st⟩
  · cases hv
    cases rd_nil hL
    obtain ⟨t2, a1, b1⟩ := kk hp T' (by rw [e1, hh, h0]) X'
    exact ⟨t2, st t2 a1, b1⟩
  · cases rd_nil hL
    obtain ⟨t2, a1, b1⟩ := (vx_out (Qc := Qc) (XC := rd_X px') (free := free') (H := T'.heap) (pc := pc) (ls := ls) (rest := rest) (fun x hx => (hno x hx).elim) hlocks (by rw [e1]; exact hce) hcv hcl (fun t9 ht9 _ => ⟨hpx E hp, by rw [ht9, e1]; unfold va_F at hF; rw [h0] at hF; exact hF.1, by rw [ht9, e1]; unfold va_F at hF; rw [h0] at hF; exact hF.2⟩) (fun z hz => absurd hz List.not_mem_nil) hc hs : vx_W p l e R s m args below meth c T'.heap [] (cells + mc) (slots + ms) (vx_MQ below Qc (rd_X px') args s mc' ms' free') (F0 m pc ls rest) q) T' rfl X'
    exact ⟨t2, st.trans a1, b1⟩
end RD
end
section
/-! What a state is: the board's four cells, the model's eight, the array classes; the pure words of what the methods answer. -/
abbrev WB (h0 hn hd hq : Nat) (cZ cD cI : ClassId) (nb : Nat → Bool) (v : Nat → UInt64) (ln : Nat → Nat) (go : Bool) (mv : Int32) : va_W := [(h0, .inr (1, [.ref hn, .ref hd, .ref hq, .int (b2i go), .int mv])), (hn, .inl (cZ, 165, .inl (fun j => b2i (nb j)))), (hd, .inl (cD, 165, .inr (.inr (.inr (.inl v))))), (hq, .inl (cI, 12, .inl (fun j => nI (ln j))))]
abbrev WM (k0 kv ko ks km kt kp kb : Nat) (cZ cD cI : ClassId) (th : Nat) (mv : Nat → UInt64) (io : Nat → Bool) (sz : Nat → Nat) (mk : Nat → UInt64) (se : Nat → Bool) (pv : Nat → UInt64) (pd : Nat → Bool) (op : Bool) (mw : Int32) : va_W := [(k0, .inr (2, [.int (nI th), .ref kv, .ref ko, .ref ks, .ref km, .ref kt, .ref kp, .ref kb, .int (b2i op), .int mw])), (kv, .inl (cD, 144, .inr (.inr (.inr (.inl mv))))), (ko, .inl (cZ, 144, .inl (fun j => b2i (io j)))), (ks, .inl (cI, 12, .inl (fun j => nI (sz j)))), (km, .inl (cD, 18, .inr (.inr (.inr (.inl mk))))), (kt, .inl (cZ, 18, .inl (fun j => b2i (se j)))), (kp, .inl (cD, 2, .inr (.inr (.inr (.inl pv))))), (kb, .inl (cZ, 2, .inl (fun j => b2i (pd j))))]
abbrev TY (cZ cD cI : ClassId) : List (ClassId × FieldType) := [(cZ, .boolean), (cD, .double), (cI, .int)]
theorem b2i_fit (b : Bool) : fits .boolean (.int (b2i b)) = true := by cases b <;> rfl
theorem nI_min {a b : Nat} (ha : a < 2147483648) (hb : b < 2147483648) : (if nI b < nI a then nI b else nI a) = nI (Nat.min a b) := by
  by_cases h : b < a
  · rw [if_pos ((nI_ltI hb ha).mpr h)]; congr 1; simp [Nat.min_def]; omega
  · rw [if_neg (fun q => h ((nI_ltI hb ha).mp q))]; congr 1; simp [Nat.min_def]; omega
/-- the relation k of two things, given whether each is a number and how they compare -/
def rk (k : Nat) (o : Option Ordering) : Bool := match k with | 0 => oLt o | 1 => oLe o | 2 => oGt o | 3 => oGe o | 4 => oEq o | _ => !oEq o
def rl (x y : Bool) (k : Nat) (o : Option Ordering) : Bool := if x && y then rk k o else decide (k = 5)
theorem rl_n1 {x y : Bool} {k : Nat} {o : Option Ordering} (h : x = false) : rl x y k o = decide (k = 5) := by simp [rl, h]
theorem rl_n2 {x y : Bool} {k : Nat} {o : Option Ordering} (h : y = false) : rl x y k o = decide (k = 5) := by simp [rl, h]
theorem rl_y {x y : Bool} {k : Nat} {o : Option Ordering} (h1 : x = true) (h2 : y = true) : rl x y k o = rk k o := by simp [rl, h1, h2]
theorem rk_big {k : Nat} {o : Option Ordering} (h : 5 ≤ k) : rk k o = !oEq o := by
  match k, h with
  | k + 5, _ => rfl
/-- two places of a board -/
def rp (nb : Nat → Bool) (v : Nat → UInt64) (a b k : Nat) : Bool := rl (nb a) (nb b) k (FP.dcmp (v a) (v b))
/-- the place of the latest -/
def lp (ln : Nat → Nat) (t : Nat) : Nat := if ln t = 0 then 164 else t * 12 + (ln t - 1)
theorem lp_lt {ln : Nat → Nat} (h : ∀ j, ln j ≤ 12) {t : Nat} (ht : t < 12) : lp ln t < 165 := by
  have := h t; unfold lp; split <;> omega
theorem lp_0 {ln : Nat → Nat} {t : Nat} (h : ln t = 0) : lp ln t = 164 := by simp [lp, h]
theorem lp_1 {ln : Nat → Nat} {t : Nat} (h : ln t ≠ 0) : lp ln t = t * 12 + (ln t - 1) := by simp [lp, h]
/-- likeness: 2 equal, 1 both out, 0 else -/
def lk (nb : Nat → Bool) (v : Nat → UInt64) (a b : Nat) : Nat := if nb a = false ∧ nb b = false then 1 else if rp nb v a b 4 = true then 2 else 0
theorem lk_le {nb : Nat → Bool} {v : Nat → UInt64} {a b : Nat} : lk nb v a b ≤ 2 := by unfold lk; split; omega; split <;> omega
/-- is the place a (of gauge g) ahead of b (of gauge h) -/
def ahp (nb : Nat → Bool) (v : Nat → UInt64) (a b g h : Nat) : Bool := if lk nb v a b = 0 then nb a && (!nb b || rp nb v a b 2) else decide (g < h)
def ahd (nb : Nat → Bool) (v : Nat → UInt64) (ln : Nat → Nat) (g h : Nat) : Bool := ahp nb v (lp ln (g * 2 + 0)) (lp ln (h * 2 + 0)) g h
/-- how many of 0 .. n-1 hold P -/
def cn (P : Nat → Bool) : Nat → Nat
  | 0 => 0
  | n + 1 => cn P n + (if P n then 1 else 0)
theorem cn_t {P : Nat → Bool} {i : Nat} (h : P i = true) : cn P (i + 1) = cn P i + 1 := by simp [cn, h]
theorem cn_f {P : Nat → Bool} {i : Nat} (h : P i = false) : cn P (i + 1) = cn P i := by simp [cn, h]
theorem cn_le (P : Nat → Bool) : ∀ n, cn P n ≤ n
  | 0 => Nat.le_refl _
  | n + 1 => by have := cn_le P n; unfold cn; split <;> omega
/-- how far P holds from i on, k steps at most -/
def tk (P : Nat → Bool) : Nat → Nat → Nat
  | 0, i => i
  | k + 1, i => if P i then tk P k (i + 1) else i
theorem tk_t {P : Nat → Bool} {k i : Nat} (h : P i = true) : tk P (k + 1) i = tk P k (i + 1) := by simp [tk, h]
theorem tk_f {P : Nat → Bool} {k i : Nat} (h : P i = false) : tk P (k + 1) i = i := by simp [tk, h]
theorem tk_le (P : Nat → Bool) : ∀ k i, tk P k i ≤ i + k
  | 0, i => Nat.le_refl _
  | k + 1, i => by have := tk_le P k (i + 1); unfold tk; split <;> omega
theorem rb_gt {n i : Nat} (hn : n < 1000) (hi : i < 1000) : nI n - nI 1 < nI i ↔ n ≤ i := by
  rw [Int32.lt_iff_toInt_lt, pk_sub_toInt (by omega) (by omega), nI_toInt (by omega)]; omega
theorem rb_sub {n i : Nat} (hi : i < n) (hn : n < 1000) : nI n - nI 1 - nI i = nI (n - 1 - i) := by
  rw [pk_sub (by omega), pk_sub (by omega)]
/-- stand: by the level, by the wind -/
def sW (nb : Nat → Bool) (v : Nat → UInt64) (ln : Nat → Nat) (g : Nat) : Nat := if nb (144 + g * 3 + 2) = false then 0 else if nb (lp ln (g * 2 + 1)) = false then 30 else if rp nb v (lp ln (g * 2 + 1)) (144 + g * 3 + 2) 0 = true then 10 else 20
def sL (nb : Nat → Bool) (v : Nat → UInt64) (ln : Nat → Nat) (g : Nat) : Nat := if ln (g * 2 + 0) = 0 then 0 else if nb (lp ln (g * 2 + 0)) = false then 1 else if rp nb v (lp ln (g * 2 + 0)) (144 + g * 3 + 0) 0 = true then 2 else if rp nb v (lp ln (g * 2 + 0)) (144 + g * 3 + 1) 2 = true then 3
  else if rp nb v (lp ln (g * 2 + 0)) (144 + g * 3 + 0) 4 = true ∨ rp nb v (lp ln (g * 2 + 0)) (144 + g * 3 + 1) 4 = true then 4 else if nb (144 + g * 3 + 0) = true ∨ nb (144 + g * 3 + 1) = true then 6 else 5
def gr (nb : Nat → Bool) (v : Nat → UInt64) (ln : Nat → Nat) (w k : Nat) : Nat := cn (fun g => rp nb v (lp ln (g * 2 + w)) (162 + w) k) 6
def ga (nb : Nat → Bool) (v : Nat → UInt64) (ln : Nat → Nat) (g : Nat) : Nat := cn (fun j => ahd nb v ln j g) 6
end
section
set_option maxHeartbeats 4000000 in
set_option maxRecDepth 100000 in
theorem c_X0_stripOf (l : Launch) (g : Nat) (w : Nat) : Met l yX0_stripOf wsX0_stripOf ({ frames := 0, cells := 0, slots := 0, locals := 0 }) (va_Pc [.int (nI g), .int (nI w)] (fun _ => True)) (rd_Qi (fun r => r = nI (g * 2 + w))) 0 0 (fun _ => False) := by
  refine Met.ofW (cc := cX0_stripOf) (maxL := 2) (ret := some .int) (by decide) rfl ?_
  intro p e s m args below meth c s₁ B hml hv
  obtain ⟨rfl, -⟩ := hv
  have hx := B.exec
  have hb := B.bytes
  have hr := B.returns
  have hts := atoms_spec (ws := wsX0_stripOf) B.pre
  have hown : s.vm.findClass RX0 = some m.cls := findClass_of_methodNamed B.named
  have hlocks := B.notSynchronized
  have hl := lv_entry ([.int (nI g), .int (nI w)]) (n := 2) (Nat.le_of_ble_eq_true rfl)
  rw [lg_entry_eq]
  generalize (lg_sl ([.int (nI g), .int (nI w)]) ++ List.replicate (2 - (lg_sl ([.int (nI g), .int (nI w)])).length) Slot.unset).toArray = ls at hl ⊢
  have hl : lv_has ls 2 [(0, .int (nI g)), (1, .int (nI w))] := hl
  refine lv_iload_n hx hb dX0_stripOf_0 rfl (lv_at hl 0 rfl) ?_
  refine lv_iconst (v := nI 2) hx hb dX0_stripOf_1 (by decide) ?_
  refine kn_imul hx hb dX0_stripOf_2 ?_
  refine lv_iload_n hx hb dX0_stripOf_3 rfl (lv_at hl 1 rfl) ?_
  refine kn_iadd hx hb dX0_stripOf_4 ?_
  exact W.iret (v := nI ((g * 2) + w)) hx hb hr (fun t9 ht9 hW9 => ⟨⟨_, rfl, congrArg nI (show (g * 2) + w = (g * 2 + w) from by first | rfl | (simp []; done))⟩, ht9⟩) (fun q hq => absurd hq List.not_mem_nil) dX0_stripOf_5
set_option maxHeartbeats 4000000 in
set_option maxRecDepth 100000 in
theorem c_X0_stripPlace (l : Launch) (t : Nat) (i : Nat) : Met l yX0_stripPlace wsX0_stripPlace ({ frames := 0, cells := 0, slots := 0, locals := 0 }) (va_Pc [.int (nI t), .int (nI i)] (fun _ => True)) (rd_Qi (fun r => r = nI (t * 12 + i))) 0 0 (fun _ => False) := by
  refine Met.ofW (cc := cX0_stripPlace) (maxL := 2) (ret := some .int) (by decide) rfl ?_
  intro p e s m args below meth c s₁ B hml hv
  obtain ⟨rfl, -⟩ := hv
  have hx := B.exec
  have hb := B.bytes
  have hr := B.returns
  have hts := atoms_spec (ws := wsX0_stripPlace) B.pre
  have hown : s.vm.findClass RX0 = some m.cls := findClass_of_methodNamed B.named
  have hlocks := B.notSynchronized
  have hl := lv_entry ([.int (nI t), .int (nI i)]) (n := 2) (Nat.le_of_ble_eq_true rfl)
  rw [lg_entry_eq]
  generalize (lg_sl ([.int (nI t), .int (nI i)]) ++ List.replicate (2 - (lg_sl ([.int (nI t), .int (nI i)])).length) Slot.unset).toArray = ls at hl ⊢
  have hl : lv_has ls 2 [(0, .int (nI t)), (1, .int (nI i))] := hl
  refine lv_iload_n hx hb dX0_stripPlace_0 rfl (lv_at hl 0 rfl) ?_
  refine lv_bipush (v := nI 12) hx hb dX0_stripPlace_1 (by decide) ?_
  refine kn_imul hx hb dX0_stripPlace_3 ?_
  refine lv_iload_n hx hb dX0_stripPlace_4 rfl (lv_at hl 1 rfl) ?_
  refine kn_iadd hx hb dX0_stripPlace_5 ?_
  exact W.iret (v := nI ((t * 12) + i)) hx hb hr (fun t9 ht9 hW9 => ⟨⟨_, rfl, congrArg nI (show (t * 12) + i = (t * 12 + i) from by first | rfl | (simp []; done))⟩, ht9⟩) (fun q hq => absurd hq List.not_mem_nil) dX0_stripPlace_6
set_option maxHeartbeats 4000000 in
set_option maxRecDepth 100000 in
theorem c_X0_markPlace (l : Launch) (g : Nat) (k : Nat) : Met l yX0_markPlace wsX0_markPlace ({ frames := 0, cells := 0, slots := 0, locals := 0 }) (va_Pc [.int (nI g), .int (nI k)] (fun _ => True)) (rd_Qi (fun r => r = nI (144 + g * 3 + k))) 0 0 (fun _ => False) := by
  refine Met.ofW (cc := cX0_markPlace) (maxL := 2) (ret := some .int) (by decide) rfl ?_
  intro p e s m args below meth c s₁ B hml hv
  obtain ⟨rfl, -⟩ := hv
  have hx := B.exec
  have hb := B.bytes
  have hr := B.returns
  have hts := atoms_spec (ws := wsX0_markPlace) B.pre
  have hown : s.vm.findClass RX0 = some m.cls := findClass_of_methodNamed B.named
  have hlocks := B.notSynchronized
  have hl := lv_entry ([.int (nI g), .int (nI k)]) (n := 2) (Nat.le_of_ble_eq_true rfl)
  rw [lg_entry_eq]
  generalize (lg_sl ([.int (nI g), .int (nI k)]) ++ List.replicate (2 - (lg_sl ([.int (nI g), .int (nI k)])).length) Slot.unset).toArray = ls at hl ⊢
  have hl : lv_has ls 2 [(0, .int (nI g)), (1, .int (nI k))] := hl
  refine lv_sipush (v := nI 144) hx hb dX0_markPlace_0 (by decide) ?_
  refine lv_iload_n hx hb dX0_markPlace_3 rfl (lv_at hl 0 rfl) ?_
  refine lv_iconst (v := nI 3) hx hb dX0_markPlace_4 (by decide) ?_
  refine kn_imul hx hb dX0_markPlace_5 ?_
  refine kn_iadd hx hb dX0_markPlace_6 ?_
  refine lv_iload_n hx hb dX0_markPlace_7 rfl (lv_at hl 1 rfl) ?_
  refine kn_iadd hx hb dX0_markPlace_8 ?_
  exact W.iret (v := nI ((144 + (g * 3)) + k)) hx hb hr (fun t9 ht9 hW9 => ⟨⟨_, rfl, rfl⟩, ht9⟩) (fun q hq => absurd hq List.not_mem_nil) dX0_markPlace_9
set_option maxHeartbeats 4000000 in
set_option maxRecDepth 100000 in
theorem c_X0_probePlace (l : Launch) (w : Nat) : Met l yX0_probePlace wsX0_probePlace ({ frames := 0, cells := 0, slots := 0, locals := 0 }) (va_Pc [.int (nI w)] (fun _ => True)) (rd_Qi (fun r => r = nI (162 + w))) 0 0 (fun _ => False) := by
  refine Met.ofW (cc := cX0_probePlace) (maxL := 1) (ret := some .int) (by decide) rfl ?_
  intro p e s m args below meth c s₁ B hml hv
  obtain ⟨rfl, -⟩ := hv
  have hx := B.exec
  have hb := B.bytes
  have hr := B.returns
  have hts := atoms_spec (ws := wsX0_probePlace) B.pre
  have hown : s.vm.findClass RX0 = some m.cls := findClass_of_methodNamed B.named
  have hlocks := B.notSynchronized
  have hl := lv_entry ([.int (nI w)]) (n := 1) (Nat.le_of_ble_eq_true rfl)
  rw [lg_entry_eq]
  generalize (lg_sl ([.int (nI w)]) ++ List.replicate (1 - (lg_sl ([.int (nI w)])).length) Slot.unset).toArray = ls at hl ⊢
  have hl : lv_has ls 1 [(0, .int (nI w))] := hl
  refine lv_sipush (v := nI 162) hx hb dX0_probePlace_0 (by decide) ?_
  refine lv_iload_n hx hb dX0_probePlace_3 rfl (lv_at hl 0 rfl) ?_
  refine kn_iadd hx hb dX0_probePlace_4 ?_
  exact W.iret (v := nI (162 + w)) hx hb hr (fun t9 ht9 hW9 => ⟨⟨_, rfl, rfl⟩, ht9⟩) (fun q hq => absurd hq List.not_mem_nil) dX0_probePlace_5
set_option maxHeartbeats 4000000 in
set_option maxRecDepth 100000 in
theorem c_X0_latestPlace (l : Launch) (D : va_G) (h0 hn hd hq : Nat) (cZ cD cI : ClassId) (nb : Nat → Bool) (v : Nat → UInt64) (ln : Nat → Nat) (go : Bool) (mv : Int32) (hln : ∀ j, ln j ≤ 12) (g : Nat) (w : Nat) (hg : g < 6) (hw : w < 2) : Met l yX0_latestPlace wsX0_latestPlace ({ frames := 1, cells := 0, slots := 0, locals := 21 }) (va_Pc [.ref h0, .int (nI g), .int (nI w)] (fun U => va_P D vwCl (WB h0 hn hd hq cZ cD cI nb v ln go mv) U.heap ∧ va_K D vwCl (TY cZ cD cI) U)) (rd_Qi (fun r => r = nI (lp ln (g * 2 + w)))) 0 0 (fun _ => False) := by
  refine Met.ofW (cc := cX0_latestPlace) (maxL := 4) (ret := some .int) (by decide) rfl ?_
  intro p e s m args below meth c s₁ B hml hv
  obtain ⟨rfl, hP, hK⟩ := hv
  have hx := B.exec
  have hb := B.bytes
  have hr := B.returns
  have hts := atoms_spec (ws := wsX0_latestPlace) B.pre
  have hown : s.vm.findClass RX0 = some m.cls := findClass_of_methodNamed B.named
  have hlocks := B.notSynchronized
  have hl := lv_entry ([.ref h0, .int (nI g), .int (nI w)]) (n := 4) (Nat.le_of_ble_eq_true rfl)
  rw [lg_entry_eq]
  generalize (lg_sl ([.ref h0, .int (nI g), .int (nI w)]) ++ List.replicate (4 - (lg_sl ([.ref h0, .int (nI g), .int (nI w)])).length) Slot.unset).toArray = ls at hl ⊢
  have hl : lv_has ls 4 [(0, .ref h0), (1, .int (nI g)), (2, .int (nI w))] := hl
  have hinRX0 : ∀ w ∈ wsX00, w ∈ wsX0_latestPlace := by decide +kernel
  have hf_17 := hts (.fieldLink RX0 17 "HarbourBoard" "lengths" "[I") (by decide +kernel)
  have h1 := hln (g * 2 + w)
  refine lv_iload_n hx hb dX0_latestPlace_0 rfl (lv_at hl 1 rfl) ?_
  refine lv_iload_n hx hb dX0_latestPlace_1 rfl (lv_at hl 2 rfl) ?_
  refine rd_calli (va_runS (As := [.int (nI g), .int (nI w)]) (rest := []) ⟨hx, hb, hml, hown, hts⟩ (c_X0_stripOf l g w ) (va_cwS 2 hts gX0_latestPlace_X0_stripOf rfl rfl rfl (by decide +kernel) ⟨Nat.le_of_ble_eq_true rfl, Nat.le_of_ble_eq_true rfl⟩) ⟨fun a U g mk q => q, fun U hU hW => ⟨rfl, trivial⟩⟩ rfl rfl hl.1 rfl (lv_room (Nat.le_of_ble_eq_true rfl)) dX0_latestPlace_2 ⟨Nat.le_of_ble_eq_true rfl, Nat.le_of_ble_eq_true rfl⟩) (fun r_1 hr_1 => ?_)
  subst hr_1
  refine lv_istore_n (lv' := [(3, .int (nI (g * 2 + w))), (0, .ref h0), (1, .int (nI g)), (2, .int (nI w))]) hx hb dX0_latestPlace_5 rfl hl (by decide) rfl (fun ls hl => ?_)
  refine lv_aload_n hx hb dX0_latestPlace_6 rfl (lv_at hl 1 rfl) ?_
  refine va_get (D := D) (ci := 1) (v := .ref hq) (C := RX0) (T := TX0) (N := 5) hx hb hts hinRX0 hown hK hP 0 rfl rfl 2 (by decide) hf_17 (fun _ h9 => h9) rfl dX0_latestPlace_7 ?_
  refine lv_iload_n hx hb dX0_latestPlace_10 rfl (lv_at hl 0 rfl) ?_
  refine kn_iald hx hb hK hP 3 2 rfl rfl (by omega) (by decide) dX0_latestPlace_11 ?_
  refine kn_ne (tgt := 21) hx hb (by omega) dX0_latestPlace_12 (by decide) (fun c_3 => ?_) (fun c_3 => ?_)
  · refine lv_iload_n hx hb dX0_latestPlace_21 rfl (lv_at hl 0 rfl) ?_
    refine lv_aload_n hx hb dX0_latestPlace_22 rfl (lv_at hl 1 rfl) ?_
    refine va_get (D := D) (ci := 1) (v := .ref hq) (C := RX0) (T := TX0) (N := 5) hx hb hts hinRX0 hown hK hP 0 rfl rfl 2 (by decide) hf_17 (fun _ h9 => h9) rfl dX0_latestPlace_23 ?_
    refine lv_iload_n hx hb dX0_latestPlace_26 rfl (lv_at hl 0 rfl) ?_
    refine kn_iald hx hb hK hP 3 2 rfl rfl (by omega) (by decide) dX0_latestPlace_27 ?_
    refine lv_iconst (v := nI 1) hx hb dX0_latestPlace_28 (by decide) ?_
    refine kn_isub hx hb (by omega) dX0_latestPlace_29 ?_
    refine rd_calli (va_runS (As := [.int (nI (g * 2 + w)), .int (nI ((ln (g * 2 + w)) - 1))]) (rest := []) ⟨hx, hb, hml, hown, hts⟩ (c_X0_stripPlace l (g * 2 + w) ((ln (g * 2 + w)) - 1) ) (va_cwS 2 hts gX0_latestPlace_X0_stripPlace rfl rfl rfl (by decide +kernel) ⟨Nat.le_of_ble_eq_true rfl, Nat.le_of_ble_eq_true rfl⟩) ⟨fun a U g mk q => q, fun U hU hW => ⟨rfl, trivial⟩⟩ rfl rfl hl.1 rfl (lv_room (Nat.le_of_ble_eq_true rfl)) dX0_latestPlace_30 ⟨Nat.le_of_ble_eq_true rfl, Nat.le_of_ble_eq_true rfl⟩) (fun r_4 hr_4 => ?_)
    subst hr_4
    exact W.iret (v := nI ((g * 2 + w) * 12 + ((ln (g * 2 + w)) - 1))) hx hb hr (fun t9 ht9 hW9 => ⟨⟨_, rfl, congrArg nI (lp_1 c_3).symm⟩, ht9⟩) (fun q hq => absurd hq List.not_mem_nil) dX0_latestPlace_33
  · refine lv_sipush (v := nI 164) hx hb dX0_latestPlace_15 (by decide) ?_
    refine lv_goto (tgt := 33) hx hb dX0_latestPlace_18 (by decide) ?_
    exact W.iret (v := nI 164) hx hb hr (fun t9 ht9 hW9 => ⟨⟨_, rfl, congrArg nI (lp_0 c_3).symm⟩, ht9⟩) (fun q hq => absurd hq List.not_mem_nil) dX0_latestPlace_33
set_option maxHeartbeats 4000000 in
set_option maxRecDepth 100000 in
theorem c_X0_isRelated (l : Launch) (D : va_G) (h0 hn hd hq : Nat) (cZ cD cI : ClassId) (nb : Nat → Bool) (v : Nat → UInt64) (ln : Nat → Nat) (go : Bool) (mv : Int32) (hln : ∀ j, ln j ≤ 12) (a : Nat) (b : Nat) (k : Nat) (ha : a < 165) (hbb : b < 165) (hk : k < 2147483648) : Met l yX0_isRelated wsX0_isRelated ({ frames := 0, cells := 0, slots := 0, locals := 0 }) (va_Pc [.ref h0, .int (nI a), .int (nI b), .int (nI k)] (fun U => va_P D vwCl (WB h0 hn hd hq cZ cD cI nb v ln go mv) U.heap ∧ va_K D vwCl (TY cZ cD cI) U)) (rd_Qi (fun r => r = b2i (rp nb v a b k))) 0 0 (fun _ => False) := by
  refine Met.ofW (cc := cX0_isRelated) (maxL := 8) (ret := some .boolean) (by decide) rfl ?_
  intro p e s m args below meth c s₁ B hml hv
  obtain ⟨rfl, hP, hK⟩ := hv
  have hx := B.exec
  have hb := B.bytes
  have hr := B.returns
  have hts := atoms_spec (ws := wsX0_isRelated) B.pre
  have hown : s.vm.findClass RX0 = some m.cls := findClass_of_methodNamed B.named
  have hlocks := B.notSynchronized
  have hl := lv_entry ([.ref h0, .int (nI a), .int (nI b), .int (nI k)]) (n := 8) (Nat.le_of_ble_eq_true rfl)
  rw [lg_entry_eq]
  generalize (lg_sl ([.ref h0, .int (nI a), .int (nI b), .int (nI k)]) ++ List.replicate (8 - (lg_sl ([.ref h0, .int (nI a), .int (nI b), .int (nI k)])).length) Slot.unset).toArray = ls at hl ⊢
  have hl : lv_has ls 8 [(0, .ref h0), (1, .int (nI a)), (2, .int (nI b)), (3, .int (nI k))] := hl
  have hinRX0 : ∀ w ∈ wsX00, w ∈ wsX0_isRelated := by decide +kernel
  have hf_9 := hts (.fieldLink RX0 9 "HarbourBoard" "isNumber" "[Z") (by decide +kernel)
  have hf_13 := hts (.fieldLink RX0 13 "HarbourBoard" "numbers" "[D") (by decide +kernel)
  refine lv_aload_n hx hb dX0_isRelated_0 rfl (lv_at hl 0 rfl) ?_
  refine va_get (D := D) (ci := 1) (v := .ref hn) (C := RX0) (T := TX0) (N := 5) hx hb hts hinRX0 hown hK hP 0 rfl rfl 0 (by decide) hf_9 (fun _ h9 => h9) rfl dX0_isRelated_1 ?_
  refine lv_iload_n hx hb dX0_isRelated_4 rfl (lv_at hl 1 rfl) ?_
  refine kn_zald hx hb hK hP 1 0 rfl rfl (by omega) (by decide) dX0_isRelated_5 ?_
  refine kb_eq (tgt := 18) hx hb dX0_isRelated_6 (by decide) (fun c_1 => ?_) (fun c_1 => ?_)
  · refine lv_iload_n hx hb dX0_isRelated_18 rfl (lv_at hl 3 rfl) ?_
    refine lv_iconst (v := nI 5) hx hb dX0_isRelated_19 (by decide) ?_
    refine kn_icmp_ne (tgt := 27) hx hb (by omega) (by decide) dX0_isRelated_20 (by decide) (fun c_2 => ?_) (fun c_2 => ?_)
    · refine lv_iconst (v := nI 0) hx hb dX0_isRelated_27 (by decide) ?_
      refine kt_i (y := b2i false) rfl ?_
      exact W.zret (v := b2i false) hx hb hr (b2i_nar _) (fun t9 ht9 hW9 => ⟨⟨_, rfl, congrArg b2i (show false = rp nb v a b k from by unfold rp; rw [rl_n1 c_1]; simp [c_2])⟩, ht9⟩) (fun q hq => absurd hq List.not_mem_nil) dX0_isRelated_28
    · refine lv_iconst (v := nI 1) hx hb dX0_isRelated_23 (by decide) ?_
      refine lv_goto (tgt := 28) hx hb dX0_isRelated_24 (by decide) ?_
      refine kt_i (y := b2i true) rfl ?_
      exact W.zret (v := b2i true) hx hb hr (b2i_nar _) (fun t9 ht9 hW9 => ⟨⟨_, rfl, congrArg b2i (show true = rp nb v a b k from by unfold rp; rw [rl_n1 c_1]; simp [c_2])⟩, ht9⟩) (fun q hq => absurd hq List.not_mem_nil) dX0_isRelated_28
  · refine lv_aload_n hx hb dX0_isRelated_9 rfl (lv_at hl 0 rfl) ?_
    refine va_get (D := D) (ci := 1) (v := .ref hn) (C := RX0) (T := TX0) (N := 5) hx hb hts hinRX0 hown hK hP 0 rfl rfl 0 (by decide) hf_9 (fun _ h9 => h9) rfl dX0_isRelated_10 ?_
    refine lv_iload_n hx hb dX0_isRelated_13 rfl (lv_at hl 2 rfl) ?_
    refine kn_zald hx hb hK hP 1 0 rfl rfl (by omega) (by decide) dX0_isRelated_14 ?_
    refine kb_ne (tgt := 29) hx hb dX0_isRelated_15 (by decide) (fun c_3 => ?_) (fun c_3 => ?_)
    · refine lv_aload_n hx hb dX0_isRelated_29 rfl (lv_at hl 0 rfl) ?_
      refine va_get (D := D) (ci := 1) (v := .ref hd) (C := RX0) (T := TX0) (N := 5) hx hb hts hinRX0 hown hK hP 0 rfl rfl 1 (by decide) hf_13 (fun _ h9 => h9) rfl dX0_isRelated_30 ?_
      refine lv_iload_n hx hb dX0_isRelated_33 rfl (lv_at hl 1 rfl) ?_
      refine kn_dald hx hb hK hP 2 1 rfl rfl (by omega) (by decide) dX0_isRelated_34 ?_
      refine lv_dstore (lv' := [(4, .double (v a)), (0, .ref h0), (1, .int (nI a)), (2, .int (nI b)), (3, .int (nI k))]) hx hb dX0_isRelated_35 hl (by decide) rfl (fun ls hl => ?_)
      refine lv_aload_n hx hb dX0_isRelated_37 rfl (lv_at hl 1 rfl) ?_
      refine va_get (D := D) (ci := 1) (v := .ref hd) (C := RX0) (T := TX0) (N := 5) hx hb hts hinRX0 hown hK hP 0 rfl rfl 1 (by decide) hf_13 (fun _ h9 => h9) rfl dX0_isRelated_38 ?_
      refine lv_iload_n hx hb dX0_isRelated_41 rfl (lv_at hl 3 rfl) ?_
      refine kn_dald hx hb hK hP 2 1 rfl rfl (by omega) (by decide) dX0_isRelated_42 ?_
      refine lv_dstore (lv' := [(6, .double (v b)), (4, .double (v a)), (0, .ref h0), (1, .int (nI a)), (2, .int (nI b)), (3, .int (nI k))]) hx hb dX0_isRelated_43 hl (by decide) rfl (fun ls hl => ?_)
      refine lv_iload_n hx hb dX0_isRelated_45 rfl (lv_at hl 5 rfl) ?_
      rcases (show k = 0 ∨ k = 1 ∨ k = 2 ∨ k = 3 ∨ k = 4 ∨ 5 ≤ k by omega) with rfl | rfl | rfl | rfl | rfl | hk5
      · refine lv_tableIn (tgt := 80) hx hb dX0_isRelated_46 (by decide) (by decide) rfl (by decide) ?_
        refine lv_dload hx hb dX0_isRelated_80 (lv_at hl 1 rfl) ?_
        refine lv_dload hx hb dX0_isRelated_82 (lv_at hl 0 rfl) ?_
        refine kc_dg_ge (tgt := 92) hx hb dX0_isRelated_84 dX0_isRelated_85 (by decide) (fun c_4 => ?_) (fun c_4 => ?_)
        · refine lv_iconst (v := nI 0) hx hb dX0_isRelated_92 (by decide) ?_
          refine kt_i (y := b2i false) rfl ?_
          exact W.zret (v := b2i false) hx hb hr (b2i_nar _) (fun t9 ht9 hW9 => ⟨⟨_, rfl, congrArg b2i (show false = rp nb v a b 0 from by unfold rp; rw [rl_y c_1 c_3]; exact c_4.symm)⟩, ht9⟩) (fun q hq => absurd hq List.not_mem_nil) dX0_isRelated_93
        · refine lv_iconst (v := nI 1) hx hb dX0_isRelated_88 (by decide) ?_
          refine lv_goto (tgt := 93) hx hb dX0_isRelated_89 (by decide) ?_
          refine kt_i (y := b2i true) rfl ?_
          exact W.zret (v := b2i true) hx hb hr (b2i_nar _) (fun t9 ht9 hW9 => ⟨⟨_, rfl, congrArg b2i (show true = rp nb v a b 0 from by unfold rp; rw [rl_y c_1 c_3]; exact c_4.symm)⟩, ht9⟩) (fun q hq => absurd hq List.not_mem_nil) dX0_isRelated_93
      · refine lv_tableIn (tgt := 94) hx hb dX0_isRelated_46 (by decide) (by decide) rfl (by decide) ?_
        refine lv_dload hx hb dX0_isRelated_94 (lv_at hl 1 rfl) ?_
        refine lv_dload hx hb dX0_isRelated_96 (lv_at hl 0 rfl) ?_
        refine kc_dg_gt (tgt := 106) hx hb dX0_isRelated_98 dX0_isRelated_99 (by decide) (fun c_5 => ?_) (fun c_5 => ?_)
        · refine lv_iconst (v := nI 0) hx hb dX0_isRelated_106 (by decide) ?_
          refine kt_i (y := b2i false) rfl ?_
          exact W.zret (v := b2i false) hx hb hr (b2i_nar _) (fun t9 ht9 hW9 => ⟨⟨_, rfl, congrArg b2i (show false = rp nb v a b 1 from by unfold rp; rw [rl_y c_1 c_3]; exact c_5.symm)⟩, ht9⟩) (fun q hq => absurd hq List.not_mem_nil) dX0_isRelated_107
        · refine lv_iconst (v := nI 1) hx hb dX0_isRelated_102 (by decide) ?_
          refine lv_goto (tgt := 107) hx hb dX0_isRelated_103 (by decide) ?_
          refine kt_i (y := b2i true) rfl ?_
          exact W.zret (v := b2i true) hx hb hr (b2i_nar _) (fun t9 ht9 hW9 => ⟨⟨_, rfl, congrArg b2i (show true = rp nb v a b 1 from by unfold rp; rw [rl_y c_1 c_3]; exact c_5.symm)⟩, ht9⟩) (fun q hq => absurd hq List.not_mem_nil) dX0_isRelated_107
      · refine lv_tableIn (tgt := 108) hx hb dX0_isRelated_46 (by decide) (by decide) rfl (by decide) ?_
        refine lv_dload hx hb dX0_isRelated_108 (lv_at hl 1 rfl) ?_
        refine lv_dload hx hb dX0_isRelated_110 (lv_at hl 0 rfl) ?_
        refine kc_dl_le (tgt := 120) hx hb dX0_isRelated_112 dX0_isRelated_113 (by decide) (fun c_6 => ?_) (fun c_6 => ?_)
        · refine lv_iconst (v := nI 0) hx hb dX0_isRelated_120 (by decide) ?_
          refine kt_i (y := b2i false) rfl ?_
          exact W.zret (v := b2i false) hx hb hr (b2i_nar _) (fun t9 ht9 hW9 => ⟨⟨_, rfl, congrArg b2i (show false = rp nb v a b 2 from by unfold rp; rw [rl_y c_1 c_3]; exact c_6.symm)⟩, ht9⟩) (fun q hq => absurd hq List.not_mem_nil) dX0_isRelated_121
        · refine lv_iconst (v := nI 1) hx hb dX0_isRelated_116 (by decide) ?_
          refine lv_goto (tgt := 121) hx hb dX0_isRelated_117 (by decide) ?_
          refine kt_i (y := b2i true) rfl ?_
          exact W.zret (v := b2i true) hx hb hr (b2i_nar _) (fun t9 ht9 hW9 => ⟨⟨_, rfl, congrArg b2i (show true = rp nb v a b 2 from by unfold rp; rw [rl_y c_1 c_3]; exact c_6.symm)⟩, ht9⟩) (fun q hq => absurd hq List.not_mem_nil) dX0_isRelated_121
      · refine lv_tableIn (tgt := 122) hx hb dX0_isRelated_46 (by decide) (by decide) rfl (by decide) ?_
        refine lv_dload hx hb dX0_isRelated_122 (lv_at hl 1 rfl) ?_
        refine lv_dload hx hb dX0_isRelated_124 (lv_at hl 0 rfl) ?_
        refine kc_dl_lt (tgt := 134) hx hb dX0_isRelated_126 dX0_isRelated_127 (by decide) (fun c_7 => ?_) (fun c_7 => ?_)
        · refine lv_iconst (v := nI 0) hx hb dX0_isRelated_134 (by decide) ?_
          refine kt_i (y := b2i false) rfl ?_
          exact W.zret (v := b2i false) hx hb hr (b2i_nar _) (fun t9 ht9 hW9 => ⟨⟨_, rfl, congrArg b2i (show false = rp nb v a b 3 from by unfold rp; rw [rl_y c_1 c_3]; exact c_7.symm)⟩, ht9⟩) (fun q hq => absurd hq List.not_mem_nil) dX0_isRelated_135
        · refine lv_iconst (v := nI 1) hx hb dX0_isRelated_130 (by decide) ?_
          refine lv_goto (tgt := 135) hx hb dX0_isRelated_131 (by decide) ?_
          refine kt_i (y := b2i true) rfl ?_
          exact W.zret (v := b2i true) hx hb hr (b2i_nar _) (fun t9 ht9 hW9 => ⟨⟨_, rfl, congrArg b2i (show true = rp nb v a b 3 from by unfold rp; rw [rl_y c_1 c_3]; exact c_7.symm)⟩, ht9⟩) (fun q hq => absurd hq List.not_mem_nil) dX0_isRelated_135
      · refine lv_tableIn (tgt := 136) hx hb dX0_isRelated_46 (by decide) (by decide) rfl (by decide) ?_
        refine lv_dload hx hb dX0_isRelated_136 (lv_at hl 1 rfl) ?_
        refine lv_dload hx hb dX0_isRelated_138 (lv_at hl 0 rfl) ?_
        refine kc_dl_ne (tgt := 148) hx hb dX0_isRelated_140 dX0_isRelated_141 (by decide) (fun c_8 => ?_) (fun c_8 => ?_)
        · refine lv_iconst (v := nI 0) hx hb dX0_isRelated_148 (by decide) ?_
          refine kt_i (y := b2i false) rfl ?_
          exact W.zret (v := b2i false) hx hb hr (b2i_nar _) (fun t9 ht9 hW9 => ⟨⟨_, rfl, congrArg b2i (show false = rp nb v a b 4 from by unfold rp; rw [rl_y c_1 c_3]; exact c_8.symm)⟩, ht9⟩) (fun q hq => absurd hq List.not_mem_nil) dX0_isRelated_149
        · refine lv_iconst (v := nI 1) hx hb dX0_isRelated_144 (by decide) ?_
          refine lv_goto (tgt := 149) hx hb dX0_isRelated_145 (by decide) ?_
          refine kt_i (y := b2i true) rfl ?_
          exact W.zret (v := b2i true) hx hb hr (b2i_nar _) (fun t9 ht9 hW9 => ⟨⟨_, rfl, congrArg b2i (show true = rp nb v a b 4 from by unfold rp; rw [rl_y c_1 c_3]; exact c_8.symm)⟩, ht9⟩) (fun q hq => absurd hq List.not_mem_nil) dX0_isRelated_149
      · refine lv_tableOut (tgt := 150) hx hb dX0_isRelated_46 (Or.inr (by rw [nI_toInt (by omega)]; omega)) (by decide) ?_
        refine lv_dload hx hb dX0_isRelated_150 (lv_at hl 1 rfl) ?_
        refine lv_dload hx hb dX0_isRelated_152 (lv_at hl 0 rfl) ?_
        refine kc_dl_eq (tgt := 162) hx hb dX0_isRelated_154 dX0_isRelated_155 (by decide) (fun c_9 => ?_) (fun c_9 => ?_)
        · refine lv_iconst (v := nI 0) hx hb dX0_isRelated_162 (by decide) ?_
          refine kt_i (y := b2i false) rfl ?_
          exact W.zret (v := b2i false) hx hb hr (b2i_nar _) (fun t9 ht9 hW9 => ⟨⟨_, rfl, congrArg b2i (show false = rp nb v a b k from by unfold rp; rw [rl_y c_1 c_3, rk_big hk5, c_9]; rfl)⟩, ht9⟩) (fun q hq => absurd hq List.not_mem_nil) dX0_isRelated_163
        · refine lv_iconst (v := nI 1) hx hb dX0_isRelated_158 (by decide) ?_
          refine lv_goto (tgt := 163) hx hb dX0_isRelated_159 (by decide) ?_
          refine kt_i (y := b2i true) rfl ?_
          exact W.zret (v := b2i true) hx hb hr (b2i_nar _) (fun t9 ht9 hW9 => ⟨⟨_, rfl, congrArg b2i (show true = rp nb v a b k from by unfold rp; rw [rl_y c_1 c_3, rk_big hk5, c_9]; rfl)⟩, ht9⟩) (fun q hq => absurd hq List.not_mem_nil) dX0_isRelated_163
    · refine lv_iload_n hx hb dX0_isRelated_18 rfl (lv_at hl 3 rfl) ?_
      refine lv_iconst (v := nI 5) hx hb dX0_isRelated_19 (by decide) ?_
      refine kn_icmp_ne (tgt := 27) hx hb (by omega) (by decide) dX0_isRelated_20 (by decide) (fun c_10 => ?_) (fun c_10 => ?_)
      · refine lv_iconst (v := nI 0) hx hb dX0_isRelated_27 (by decide) ?_
        refine kt_i (y := b2i false) rfl ?_
        exact W.zret (v := b2i false) hx hb hr (b2i_nar _) (fun t9 ht9 hW9 => ⟨⟨_, rfl, congrArg b2i (show false = rp nb v a b k from by unfold rp; rw [rl_n2 c_3]; simp [c_10])⟩, ht9⟩) (fun q hq => absurd hq List.not_mem_nil) dX0_isRelated_28
      · refine lv_iconst (v := nI 1) hx hb dX0_isRelated_23 (by decide) ?_
        refine lv_goto (tgt := 28) hx hb dX0_isRelated_24 (by decide) ?_
        refine kt_i (y := b2i true) rfl ?_
        exact W.zret (v := b2i true) hx hb hr (b2i_nar _) (fun t9 ht9 hW9 => ⟨⟨_, rfl, congrArg b2i (show true = rp nb v a b k from by unfold rp; rw [rl_n2 c_3]; simp [c_10])⟩, ht9⟩) (fun q hq => absurd hq List.not_mem_nil) dX0_isRelated_28
set_option maxHeartbeats 4000000 in
set_option maxRecDepth 100000 in
theorem c_X0_likenessOf (l : Launch) (D : va_G) (h0 hn hd hq : Nat) (cZ cD cI : ClassId) (nb : Nat → Bool) (v : Nat → UInt64) (ln : Nat → Nat) (go : Bool) (mv : Int32) (hln : ∀ j, ln j ≤ 12) (a : Nat) (b : Nat) (ha : a < 165) (hbb : b < 165) : Met l yX0_likenessOf wsX0_likenessOf ({ frames := 1, cells := 0, slots := 0, locals := 27 }) (va_Pc [.ref h0, .int (nI a), .int (nI b)] (fun U => va_P D vwCl (WB h0 hn hd hq cZ cD cI nb v ln go mv) U.heap ∧ va_K D vwCl (TY cZ cD cI) U)) (rd_Qi (fun r => r = nI (lk nb v a b))) 0 0 (fun _ => False) := by
  refine Met.ofW (cc := cX0_likenessOf) (maxL := 3) (ret := some .int) (by decide) rfl ?_
  intro p e s m args below meth c s₁ B hml hv
  obtain ⟨rfl, hP, hK⟩ := hv
  have hx := B.exec
  have hb := B.bytes
  have hr := B.returns
  have hts := atoms_spec (ws := wsX0_likenessOf) B.pre
  have hown : s.vm.findClass RX0 = some m.cls := findClass_of_methodNamed B.named
  have hlocks := B.notSynchronized
  have hl := lv_entry ([.ref h0, .int (nI a), .int (nI b)]) (n := 3) (Nat.le_of_ble_eq_true rfl)
  rw [lg_entry_eq]
  generalize (lg_sl ([.ref h0, .int (nI a), .int (nI b)]) ++ List.replicate (3 - (lg_sl ([.ref h0, .int (nI a), .int (nI b)])).length) Slot.unset).toArray = ls at hl ⊢
  have hl : lv_has ls 3 [(0, .ref h0), (1, .int (nI a)), (2, .int (nI b))] := hl
  have hinRX0 : ∀ w ∈ wsX00, w ∈ wsX0_likenessOf := by decide +kernel
  have hf_9 := hts (.fieldLink RX0 9 "HarbourBoard" "isNumber" "[Z") (by decide +kernel)
  refine lv_aload_n hx hb dX0_likenessOf_0 rfl (lv_at hl 0 rfl) ?_
  refine va_get (D := D) (ci := 1) (v := .ref hn) (C := RX0) (T := TX0) (N := 5) hx hb hts hinRX0 hown hK hP 0 rfl rfl 0 (by decide) hf_9 (fun _ h9 => h9) rfl dX0_likenessOf_1 ?_
  refine lv_iload_n hx hb dX0_likenessOf_4 rfl (lv_at hl 1 rfl) ?_
  refine kn_zald hx hb hK hP 1 0 rfl rfl (by omega) (by decide) dX0_likenessOf_5 ?_
  refine kb_ne (tgt := 20) hx hb dX0_likenessOf_6 (by decide) (fun c_1 => ?_) (fun c_1 => ?_)
  · refine lv_aload_n hx hb dX0_likenessOf_20 rfl (lv_at hl 0 rfl) ?_
    refine lv_iload_n hx hb dX0_likenessOf_21 rfl (lv_at hl 1 rfl) ?_
    refine lv_iload_n hx hb dX0_likenessOf_22 rfl (lv_at hl 2 rfl) ?_
    refine lv_iconst (v := nI 4) hx hb dX0_likenessOf_23 (by decide) ?_
    refine rd_calli (va_runV (As := [.int (nI a), .int (nI b), .int (nI 4)]) (rest := []) ⟨hx, hb, hml, hown, hts⟩ (c_X0_isRelated l D h0 hn hd hq cZ cD cI nb v ln go mv hln a b 4 (by omega) (by omega) (by decide)) (cwV 3 hts gX0_likenessOf_X0_isRelated rfl rfl rfl (by decide +kernel) ⟨Nat.le_of_ble_eq_true rfl, Nat.le_of_ble_eq_true rfl⟩) ⟨fun a U g mk q => ⟨q.1, q.2.1, va_K.moved (u := U) (U := U.calling g mk a) (Vm.Alike.refl U.vm) q.2.2⟩, va_recv hK hP (ci := 1) (q0 := 0) rfl rfl, fun U hU hW => ⟨rfl, by rw [hU]; exact hP, va_K.moved hW.alike hK⟩⟩ rfl rfl hl.1 rfl (lv_room (Nat.le_of_ble_eq_true rfl)) dX0_likenessOf_24 ⟨Nat.le_of_ble_eq_true rfl, Nat.le_of_ble_eq_true rfl⟩) (fun r_2 hr_2 => ?_)
    subst hr_2
    refine kb_eq (tgt := 34) hx hb dX0_likenessOf_27 (by decide) (fun c_3 => ?_) (fun c_3 => ?_)
    · refine lv_iconst (v := nI 0) hx hb dX0_likenessOf_34 (by decide) ?_
      exact W.iret (v := nI 0) hx hb hr (fun t9 ht9 hW9 => ⟨⟨_, rfl, congrArg nI (show 0 = (lk nb v a b) from by first | rfl | (simp [lk, c_1, c_3]; done) | (simp only [Nat.add_zero] at c_1 c_3; simp [lk, c_1, c_3]; done))⟩, ht9⟩) (fun q hq => absurd hq List.not_mem_nil) dX0_likenessOf_35
    · refine lv_iconst (v := nI 2) hx hb dX0_likenessOf_30 (by decide) ?_
      refine lv_goto (tgt := 35) hx hb dX0_likenessOf_31 (by decide) ?_
      exact W.iret (v := nI 2) hx hb hr (fun t9 ht9 hW9 => ⟨⟨_, rfl, congrArg nI (show 2 = (lk nb v a b) from by first | rfl | (simp [lk, c_1, c_3]; done) | (simp only [Nat.add_zero] at c_1 c_3; simp [lk, c_1, c_3]; done))⟩, ht9⟩) (fun q hq => absurd hq List.not_mem_nil) dX0_likenessOf_35
  · refine lv_aload_n hx hb dX0_likenessOf_9 rfl (lv_at hl 0 rfl) ?_
    refine va_get (D := D) (ci := 1) (v := .ref hn) (C := RX0) (T := TX0) (N := 5) hx hb hts hinRX0 hown hK hP 0 rfl rfl 0 (by decide) hf_9 (fun _ h9 => h9) rfl dX0_likenessOf_10 ?_
    refine lv_iload_n hx hb dX0_likenessOf_13 rfl (lv_at hl 2 rfl) ?_
    refine kn_zald hx hb hK hP 1 0 rfl rfl (by omega) (by decide) dX0_likenessOf_14 ?_
    refine kb_ne (tgt := 20) hx hb dX0_likenessOf_15 (by decide) (fun c_4 => ?_) (fun c_4 => ?_)
    · refine lv_aload_n hx hb dX0_likenessOf_20 rfl (lv_at hl 0 rfl) ?_
      refine lv_iload_n hx hb dX0_likenessOf_21 rfl (lv_at hl 1 rfl) ?_
      refine lv_iload_n hx hb dX0_likenessOf_22 rfl (lv_at hl 2 rfl) ?_
      refine lv_iconst (v := nI 4) hx hb dX0_likenessOf_23 (by decide) ?_
      refine rd_calli (va_runV (As := [.int (nI a), .int (nI b), .int (nI 4)]) (rest := []) ⟨hx, hb, hml, hown, hts⟩ (c_X0_isRelated l D h0 hn hd hq cZ cD cI nb v ln go mv hln a b 4 (by omega) (by omega) (by decide)) (cwV 3 hts gX0_likenessOf_X0_isRelated rfl rfl rfl (by decide +kernel) ⟨Nat.le_of_ble_eq_true rfl, Nat.le_of_ble_eq_true rfl⟩) ⟨fun a U g mk q => ⟨q.1, q.2.1, va_K.moved (u := U) (U := U.calling g mk a) (Vm.Alike.refl U.vm) q.2.2⟩, va_recv hK hP (ci := 1) (q0 := 0) rfl rfl, fun U hU hW => ⟨rfl, by rw [hU]; exact hP, va_K.moved hW.alike hK⟩⟩ rfl rfl hl.1 rfl (lv_room (Nat.le_of_ble_eq_true rfl)) dX0_likenessOf_24 ⟨Nat.le_of_ble_eq_true rfl, Nat.le_of_ble_eq_true rfl⟩) (fun r_5 hr_5 => ?_)
      subst hr_5
      refine kb_eq (tgt := 34) hx hb dX0_likenessOf_27 (by decide) (fun c_6 => ?_) (fun c_6 => ?_)
      · refine lv_iconst (v := nI 0) hx hb dX0_likenessOf_34 (by decide) ?_
        exact W.iret (v := nI 0) hx hb hr (fun t9 ht9 hW9 => ⟨⟨_, rfl, congrArg nI (show 0 = (lk nb v a b) from by first | rfl | (simp [lk, c_1, c_4, c_6]; done) | (simp only [Nat.add_zero] at c_1 c_4 c_6; simp [lk, c_1, c_4, c_6]; done))⟩, ht9⟩) (fun q hq => absurd hq List.not_mem_nil) dX0_likenessOf_35
      · refine lv_iconst (v := nI 2) hx hb dX0_likenessOf_30 (by decide) ?_
        refine lv_goto (tgt := 35) hx hb dX0_likenessOf_31 (by decide) ?_
        exact W.iret (v := nI 2) hx hb hr (fun t9 ht9 hW9 => ⟨⟨_, rfl, congrArg nI (show 2 = (lk nb v a b) from by first | rfl | (simp [lk, c_1, c_4, c_6]; done) | (simp only [Nat.add_zero] at c_1 c_4 c_6; simp [lk, c_1, c_4, c_6]; done))⟩, ht9⟩) (fun q hq => absurd hq List.not_mem_nil) dX0_likenessOf_35
    · refine lv_iconst (v := nI 1) hx hb dX0_likenessOf_18 (by decide) ?_
      exact W.iret (v := nI 1) hx hb hr (fun t9 ht9 hW9 => ⟨⟨_, rfl, congrArg nI (show 1 = (lk nb v a b) from by first | rfl | (simp [lk, c_1, c_4]; done) | (simp only [Nat.add_zero] at c_1 c_4; simp [lk, c_1, c_4]; done))⟩, ht9⟩) (fun q hq => absurd hq List.not_mem_nil) dX0_likenessOf_19
set_option maxHeartbeats 4000000 in
set_option maxRecDepth 100000 in
theorem c_X0_isAhead (l : Launch) (D : va_G) (h0 hn hd hq : Nat) (cZ cD cI : ClassId) (nb : Nat → Bool) (v : Nat → UInt64) (ln : Nat → Nat) (go : Bool) (mv : Int32) (hln : ∀ j, ln j ≤ 12) (g : Nat) (h : Nat) (hg : g < 6) (hh : h < 6) : Met l yX0_isAhead wsX0_isAhead ({ frames := 2, cells := 0, slots := 0, locals := 49 }) (va_Pc [.ref h0, .int (nI g), .int (nI h)] (fun U => va_P D vwCl (WB h0 hn hd hq cZ cD cI nb v ln go mv) U.heap ∧ va_K D vwCl (TY cZ cD cI) U)) (rd_Qi (fun r => r = b2i (ahd nb v ln g h))) 0 0 (fun _ => False) := by
  refine Met.ofW (cc := cX0_isAhead) (maxL := 5) (ret := some .boolean) (by decide) rfl ?_
  intro p e s m args below meth c s₁ B hml hv
  obtain ⟨rfl, hP, hK⟩ := hv
  have hx := B.exec
  have hb := B.bytes
  have hr := B.returns
  have hts := atoms_spec (ws := wsX0_isAhead) B.pre
  have hown : s.vm.findClass RX0 = some m.cls := findClass_of_methodNamed B.named
  have hlocks := B.notSynchronized
  have hl := lv_entry ([.ref h0, .int (nI g), .int (nI h)]) (n := 5) (Nat.le_of_ble_eq_true rfl)
  rw [lg_entry_eq]
  generalize (lg_sl ([.ref h0, .int (nI g), .int (nI h)]) ++ List.replicate (5 - (lg_sl ([.ref h0, .int (nI g), .int (nI h)])).length) Slot.unset).toArray = ls at hl ⊢
  have hl : lv_has ls 5 [(0, .ref h0), (1, .int (nI g)), (2, .int (nI h))] := hl
  have hinRX0 : ∀ w ∈ wsX00, w ∈ wsX0_isAhead := by decide +kernel
  have hf_9 := hts (.fieldLink RX0 9 "HarbourBoard" "isNumber" "[Z") (by decide +kernel)
  refine lv_aload_n hx hb dX0_isAhead_0 rfl (lv_at hl 0 rfl) ?_
  refine lv_iload_n hx hb dX0_isAhead_1 rfl (lv_at hl 1 rfl) ?_
  refine lv_iconst (v := nI 0) hx hb dX0_isAhead_2 (by decide) ?_
  refine rd_calli (va_runV (As := [.int (nI g), .int (nI 0)]) (rest := []) ⟨hx, hb, hml, hown, hts⟩ (c_X0_latestPlace l D h0 hn hd hq cZ cD cI nb v ln go mv hln g 0 (by omega) (by omega)) (cwV 2 hts gX0_isAhead_X0_latestPlace rfl rfl rfl (by decide +kernel) ⟨Nat.le_of_ble_eq_true rfl, Nat.le_of_ble_eq_true rfl⟩) ⟨fun a U g mk q => ⟨q.1, q.2.1, va_K.moved (u := U) (U := U.calling g mk a) (Vm.Alike.refl U.vm) q.2.2⟩, va_recv hK hP (ci := 1) (q0 := 0) rfl rfl, fun U hU hW => ⟨rfl, by rw [hU]; exact hP, va_K.moved hW.alike hK⟩⟩ rfl rfl hl.1 rfl (lv_room (Nat.le_of_ble_eq_true rfl)) dX0_isAhead_3 ⟨Nat.le_of_ble_eq_true rfl, Nat.le_of_ble_eq_true rfl⟩) (fun r_1 hr_1 => ?_)
  subst hr_1
  refine lv_istore_n (lv' := [(3, .int (nI (lp ln (g * 2 + 0)))), (0, .ref h0), (1, .int (nI g)), (2, .int (nI h))]) hx hb dX0_isAhead_6 rfl hl (by decide) rfl (fun ls hl => ?_)
  refine lv_aload_n hx hb dX0_isAhead_7 rfl (lv_at hl 1 rfl) ?_
  refine lv_iload_n hx hb dX0_isAhead_8 rfl (lv_at hl 3 rfl) ?_
  refine lv_iconst (v := nI 0) hx hb dX0_isAhead_9 (by decide) ?_
  refine rd_calli (va_runV (As := [.int (nI h), .int (nI 0)]) (rest := []) ⟨hx, hb, hml, hown, hts⟩ (c_X0_latestPlace l D h0 hn hd hq cZ cD cI nb v ln go mv hln h 0 (by omega) (by omega)) (cwV 2 hts gX0_isAhead_X0_latestPlace rfl rfl rfl (by decide +kernel) ⟨Nat.le_of_ble_eq_true rfl, Nat.le_of_ble_eq_true rfl⟩) ⟨fun a U g mk q => ⟨q.1, q.2.1, va_K.moved (u := U) (U := U.calling g mk a) (Vm.Alike.refl U.vm) q.2.2⟩, va_recv hK hP (ci := 1) (q0 := 0) rfl rfl, fun U hU hW => ⟨rfl, by rw [hU]; exact hP, va_K.moved hW.alike hK⟩⟩ rfl rfl hl.1 rfl (lv_room (Nat.le_of_ble_eq_true rfl)) dX0_isAhead_10 ⟨Nat.le_of_ble_eq_true rfl, Nat.le_of_ble_eq_true rfl⟩) (fun r_2 hr_2 => ?_)
  subst hr_2
  refine lv_istore (lv' := [(4, .int (nI (lp ln (h * 2 + 0)))), (3, .int (nI (lp ln (g * 2 + 0)))), (0, .ref h0), (1, .int (nI g)), (2, .int (nI h))]) hx hb dX0_isAhead_13 hl (by decide) rfl (fun ls hl => ?_)
  refine lv_aload_n hx hb dX0_isAhead_15 rfl (lv_at hl 2 rfl) ?_
  refine lv_iload_n hx hb dX0_isAhead_16 rfl (lv_at hl 1 rfl) ?_
  refine lv_iload hx hb dX0_isAhead_17 (lv_at hl 0 rfl) ?_
  refine rd_calli (va_runV (As := [.int (nI (lp ln (g * 2 + 0))), .int (nI (lp ln (h * 2 + 0)))]) (rest := []) ⟨hx, hb, hml, hown, hts⟩ (c_X0_likenessOf l D h0 hn hd hq cZ cD cI nb v ln go mv hln (lp ln (g * 2 + 0)) (lp ln (h * 2 + 0)) (lp_lt hln (by omega)) (lp_lt hln (by omega))) (cwV 2 hts gX0_isAhead_X0_likenessOf rfl rfl rfl (by decide +kernel) ⟨Nat.le_of_ble_eq_true rfl, Nat.le_of_ble_eq_true rfl⟩) ⟨fun a U g mk q => ⟨q.1, q.2.1, va_K.moved (u := U) (U := U.calling g mk a) (Vm.Alike.refl U.vm) q.2.2⟩, va_recv hK hP (ci := 1) (q0 := 0) rfl rfl, fun U hU hW => ⟨rfl, by rw [hU]; exact hP, va_K.moved hW.alike hK⟩⟩ rfl rfl hl.1 rfl (lv_room (Nat.le_of_ble_eq_true rfl)) dX0_isAhead_19 ⟨Nat.le_of_ble_eq_true rfl, Nat.le_of_ble_eq_true rfl⟩) (fun r_3 hr_3 => ?_)
  subst hr_3
  refine kn_ifle (tgt := 36) hx hb (by have := @lk_le nb v (lp ln (g * 2 + 0)) (lp ln (h * 2 + 0)); omega) dX0_isAhead_22 (by decide) (fun c_5 => ?_) (fun c_5 => ?_)
  · refine lv_aload_n hx hb dX0_isAhead_36 rfl (lv_at hl 2 rfl) ?_
    refine va_get (D := D) (ci := 1) (v := .ref hn) (C := RX0) (T := TX0) (N := 5) hx hb hts hinRX0 hown hK hP 0 rfl rfl 0 (by decide) hf_9 (fun _ h9 => h9) rfl dX0_isAhead_37 ?_
    refine lv_iload_n hx hb dX0_isAhead_40 rfl (lv_at hl 1 rfl) ?_
    refine kn_zald hx hb hK hP 1 0 rfl rfl (lp_lt hln (by omega)) (by decide) dX0_isAhead_41 ?_
    refine kb_eq (tgt := 70) hx hb dX0_isAhead_42 (by decide) (fun c_6 => ?_) (fun c_6 => ?_)
    · refine lv_iconst (v := nI 0) hx hb dX0_isAhead_70 (by decide) ?_
      refine kt_i (y := b2i false) rfl ?_
      exact W.zret (v := b2i false) hx hb hr (b2i_nar _) (fun t9 ht9 hW9 => ⟨⟨_, rfl, congrArg b2i (show false = ahd nb v ln g h from by first | rfl | (simp [ahd, ahp, c_5, c_6]; done) | (simp only [Nat.add_zero] at c_5 c_6; simp [ahd, ahp, c_5, c_6]; done))⟩, ht9⟩) (fun q hq => absurd hq List.not_mem_nil) dX0_isAhead_71
    · refine lv_aload_n hx hb dX0_isAhead_45 rfl (lv_at hl 2 rfl) ?_
      refine va_get (D := D) (ci := 1) (v := .ref hn) (C := RX0) (T := TX0) (N := 5) hx hb hts hinRX0 hown hK hP 0 rfl rfl 0 (by decide) hf_9 (fun _ h9 => h9) rfl dX0_isAhead_46 ?_
      refine lv_iload hx hb dX0_isAhead_49 (lv_at hl 0 rfl) ?_
      refine kn_zald hx hb hK hP 1 0 rfl rfl (lp_lt hln (by omega)) (by decide) dX0_isAhead_51 ?_
      refine kb_eq (tgt := 66) hx hb dX0_isAhead_52 (by decide) (fun c_7 => ?_) (fun c_7 => ?_)
      · refine lv_iconst (v := nI 1) hx hb dX0_isAhead_66 (by decide) ?_
        refine lv_goto (tgt := 71) hx hb dX0_isAhead_67 (by decide) ?_
        refine kt_i (y := b2i true) rfl ?_
        exact W.zret (v := b2i true) hx hb hr (b2i_nar _) (fun t9 ht9 hW9 => ⟨⟨_, rfl, congrArg b2i (show true = ahd nb v ln g h from by first | rfl | (simp [ahd, ahp, c_5, c_6, c_7]; done) | (simp only [Nat.add_zero] at c_5 c_6 c_7; simp [ahd, ahp, c_5, c_6, c_7]; done))⟩, ht9⟩) (fun q hq => absurd hq List.not_mem_nil) dX0_isAhead_71
      · refine lv_aload_n hx hb dX0_isAhead_55 rfl (lv_at hl 2 rfl) ?_
        refine lv_iload_n hx hb dX0_isAhead_56 rfl (lv_at hl 1 rfl) ?_
        refine lv_iload hx hb dX0_isAhead_57 (lv_at hl 0 rfl) ?_
        refine lv_iconst (v := nI 2) hx hb dX0_isAhead_59 (by decide) ?_
        refine rd_calli (va_runV (As := [.int (nI (lp ln (g * 2 + 0))), .int (nI (lp ln (h * 2 + 0))), .int (nI 2)]) (rest := []) ⟨hx, hb, hml, hown, hts⟩ (c_X0_isRelated l D h0 hn hd hq cZ cD cI nb v ln go mv hln (lp ln (g * 2 + 0)) (lp ln (h * 2 + 0)) 2 (lp_lt hln (by omega)) (lp_lt hln (by omega)) (by decide)) (cwV 3 hts gX0_isAhead_X0_isRelated rfl rfl rfl (by decide +kernel) ⟨Nat.le_of_ble_eq_true rfl, Nat.le_of_ble_eq_true rfl⟩) ⟨fun a U g mk q => ⟨q.1, q.2.1, va_K.moved (u := U) (U := U.calling g mk a) (Vm.Alike.refl U.vm) q.2.2⟩, va_recv hK hP (ci := 1) (q0 := 0) rfl rfl, fun U hU hW => ⟨rfl, by rw [hU]; exact hP, va_K.moved hW.alike hK⟩⟩ rfl rfl hl.1 rfl (lv_room (Nat.le_of_ble_eq_true rfl)) dX0_isAhead_60 ⟨Nat.le_of_ble_eq_true rfl, Nat.le_of_ble_eq_true rfl⟩) (fun r_8 hr_8 => ?_)
        subst hr_8
        refine kb_eq (tgt := 70) hx hb dX0_isAhead_63 (by decide) (fun c_9 => ?_) (fun c_9 => ?_)
        · refine lv_iconst (v := nI 0) hx hb dX0_isAhead_70 (by decide) ?_
          refine kt_i (y := b2i false) rfl ?_
          exact W.zret (v := b2i false) hx hb hr (b2i_nar _) (fun t9 ht9 hW9 => ⟨⟨_, rfl, congrArg b2i (show false = ahd nb v ln g h from by first | rfl | (simp [ahd, ahp, c_5, c_6, c_7, c_9]; done) | (simp only [Nat.add_zero] at c_5 c_6 c_7 c_9; simp [ahd, ahp, c_5, c_6, c_7, c_9]; done))⟩, ht9⟩) (fun q hq => absurd hq List.not_mem_nil) dX0_isAhead_71
        · refine lv_iconst (v := nI 1) hx hb dX0_isAhead_66 (by decide) ?_
          refine lv_goto (tgt := 71) hx hb dX0_isAhead_67 (by decide) ?_
          refine kt_i (y := b2i true) rfl ?_
          exact W.zret (v := b2i true) hx hb hr (b2i_nar _) (fun t9 ht9 hW9 => ⟨⟨_, rfl, congrArg b2i (show true = ahd nb v ln g h from by first | rfl | (simp [ahd, ahp, c_5, c_6, c_7, c_9]; done) | (simp only [Nat.add_zero] at c_5 c_6 c_7 c_9; simp [ahd, ahp, c_5, c_6, c_7, c_9]; done))⟩, ht9⟩) (fun q hq => absurd hq List.not_mem_nil) dX0_isAhead_71
  · refine lv_iload_n hx hb dX0_isAhead_25 rfl (lv_at hl 3 rfl) ?_
    refine lv_iload_n hx hb dX0_isAhead_26 rfl (lv_at hl 4 rfl) ?_
    refine kn_icmp_ge (tgt := 34) hx hb (by omega) (by omega) dX0_isAhead_27 (by decide) (fun c_10 => ?_) (fun c_10 => ?_)
    · refine lv_iconst (v := nI 0) hx hb dX0_isAhead_34 (by decide) ?_
      refine kt_i (y := b2i false) rfl ?_
      exact W.zret (v := b2i false) hx hb hr (b2i_nar _) (fun t9 ht9 hW9 => ⟨⟨_, rfl, congrArg b2i (show false = ahd nb v ln g h from by first | rfl | (simp [ahd, ahp, c_5, c_10]; done) | (simp only [Nat.add_zero] at c_5 c_10; simp [ahd, ahp, c_5, c_10]; done))⟩, ht9⟩) (fun q hq => absurd hq List.not_mem_nil) dX0_isAhead_35
    · refine lv_iconst (v := nI 1) hx hb dX0_isAhead_30 (by decide) ?_
      refine lv_goto (tgt := 35) hx hb dX0_isAhead_31 (by decide) ?_
      refine kt_i (y := b2i true) rfl ?_
      exact W.zret (v := b2i true) hx hb hr (b2i_nar _) (fun t9 ht9 hW9 => ⟨⟨_, rfl, congrArg b2i (show true = ahd nb v ln g h from by first | rfl | (simp [ahd, ahp, c_5, c_10]; done) | (simp only [Nat.add_zero] at c_5 c_10; simp [ahd, ahp, c_5, c_10]; done))⟩, ht9⟩) (fun q hq => absurd hq List.not_mem_nil) dX0_isAhead_35
set_option maxHeartbeats 4000000 in
set_option maxRecDepth 100000 in
theorem c_X0_standOfWind (l : Launch) (D : va_G) (h0 hn hd hq : Nat) (cZ cD cI : ClassId) (nb : Nat → Bool) (v : Nat → UInt64) (ln : Nat → Nat) (go : Bool) (mv : Int32) (hln : ∀ j, ln j ≤ 12) (g : Nat) (hg : g < 6) : Met l yX0_standOfWind wsX0_standOfWind ({ frames := 2, cells := 0, slots := 0, locals := 44 }) (va_Pc [.ref h0, .int (nI g)] (fun U => va_P D vwCl (WB h0 hn hd hq cZ cD cI nb v ln go mv) U.heap ∧ va_K D vwCl (TY cZ cD cI) U)) (rd_Qi (fun r => r = nI (sW nb v ln g))) 0 0 (fun _ => False) := by
  refine Met.ofW (cc := cX0_standOfWind) (maxL := 4) (ret := some .int) (by decide) rfl ?_
  intro p e s m args below meth c s₁ B hml hv
  obtain ⟨rfl, hP, hK⟩ := hv
  have hx := B.exec
  have hb := B.bytes
  have hr := B.returns
  have hts := atoms_spec (ws := wsX0_standOfWind) B.pre
  have hown : s.vm.findClass RX0 = some m.cls := findClass_of_methodNamed B.named
  have hlocks := B.notSynchronized
  have hl := lv_entry ([.ref h0, .int (nI g)]) (n := 4) (Nat.le_of_ble_eq_true rfl)
  rw [lg_entry_eq]
  generalize (lg_sl ([.ref h0, .int (nI g)]) ++ List.replicate (4 - (lg_sl ([.ref h0, .int (nI g)])).length) Slot.unset).toArray = ls at hl ⊢
  have hl : lv_has ls 4 [(0, .ref h0), (1, .int (nI g))] := hl
  have hinRX0 : ∀ w ∈ wsX00, w ∈ wsX0_standOfWind := by decide +kernel
  have hf_9 := hts (.fieldLink RX0 9 "HarbourBoard" "isNumber" "[Z") (by decide +kernel)
  refine lv_aload_n hx hb dX0_standOfWind_0 rfl (lv_at hl 0 rfl) ?_
  refine lv_iload_n hx hb dX0_standOfWind_1 rfl (lv_at hl 1 rfl) ?_
  refine lv_iconst (v := nI 1) hx hb dX0_standOfWind_2 (by decide) ?_
  refine rd_calli (va_runV (As := [.int (nI g), .int (nI 1)]) (rest := []) ⟨hx, hb, hml, hown, hts⟩ (c_X0_latestPlace l D h0 hn hd hq cZ cD cI nb v ln go mv hln g 1 (by omega) (by omega)) (cwV 2 hts gX0_standOfWind_X0_latestPlace rfl rfl rfl (by decide +kernel) ⟨Nat.le_of_ble_eq_true rfl, Nat.le_of_ble_eq_true rfl⟩) ⟨fun a U g mk q => ⟨q.1, q.2.1, va_K.moved (u := U) (U := U.calling g mk a) (Vm.Alike.refl U.vm) q.2.2⟩, va_recv hK hP (ci := 1) (q0 := 0) rfl rfl, fun U hU hW => ⟨rfl, by rw [hU]; exact hP, va_K.moved hW.alike hK⟩⟩ rfl rfl hl.1 rfl (lv_room (Nat.le_of_ble_eq_true rfl)) dX0_standOfWind_3 ⟨Nat.le_of_ble_eq_true rfl, Nat.le_of_ble_eq_true rfl⟩) (fun r_1 hr_1 => ?_)
  subst hr_1
  refine lv_istore_n (lv' := [(2, .int (nI (lp ln (g * 2 + 1)))), (0, .ref h0), (1, .int (nI g))]) hx hb dX0_standOfWind_6 rfl hl (by decide) rfl (fun ls hl => ?_)
  refine lv_iload_n hx hb dX0_standOfWind_7 rfl (lv_at hl 2 rfl) ?_
  refine lv_iconst (v := nI 2) hx hb dX0_standOfWind_8 (by decide) ?_
  refine rd_calli (va_runS (As := [.int (nI g), .int (nI 2)]) (rest := []) ⟨hx, hb, hml, hown, hts⟩ (c_X0_markPlace l g 2 ) (va_cwS 2 hts gX0_standOfWind_X0_markPlace rfl rfl rfl (by decide +kernel) ⟨Nat.le_of_ble_eq_true rfl, Nat.le_of_ble_eq_true rfl⟩) ⟨fun a U g mk q => q, fun U hU hW => ⟨rfl, trivial⟩⟩ rfl rfl hl.1 rfl (lv_room (Nat.le_of_ble_eq_true rfl)) dX0_standOfWind_9 ⟨Nat.le_of_ble_eq_true rfl, Nat.le_of_ble_eq_true rfl⟩) (fun r_2 hr_2 => ?_)
  subst hr_2
  refine lv_istore_n (lv' := [(3, .int (nI (144 + g * 3 + 2))), (2, .int (nI (lp ln (g * 2 + 1)))), (0, .ref h0), (1, .int (nI g))]) hx hb dX0_standOfWind_12 rfl hl (by decide) rfl (fun ls hl => ?_)
  refine lv_aload_n hx hb dX0_standOfWind_13 rfl (lv_at hl 2 rfl) ?_
  refine va_get (D := D) (ci := 1) (v := .ref hn) (C := RX0) (T := TX0) (N := 5) hx hb hts hinRX0 hown hK hP 0 rfl rfl 0 (by decide) hf_9 (fun _ h9 => h9) rfl dX0_standOfWind_14 ?_
  refine lv_iload_n hx hb dX0_standOfWind_17 rfl (lv_at hl 0 rfl) ?_
  refine kn_zald hx hb hK hP 1 0 rfl rfl (by omega) (by decide) dX0_standOfWind_18 ?_
  refine kb_ne (tgt := 24) hx hb dX0_standOfWind_19 (by decide) (fun c_3 => ?_) (fun c_3 => ?_)
  · refine lv_aload_n hx hb dX0_standOfWind_24 rfl (lv_at hl 2 rfl) ?_
    refine va_get (D := D) (ci := 1) (v := .ref hn) (C := RX0) (T := TX0) (N := 5) hx hb hts hinRX0 hown hK hP 0 rfl rfl 0 (by decide) hf_9 (fun _ h9 => h9) rfl dX0_standOfWind_25 ?_
    refine lv_iload_n hx hb dX0_standOfWind_28 rfl (lv_at hl 1 rfl) ?_
    refine kn_zald hx hb hK hP 1 0 rfl rfl (lp_lt hln (by omega)) (by decide) dX0_standOfWind_29 ?_
    refine kb_ne (tgt := 36) hx hb dX0_standOfWind_30 (by decide) (fun c_4 => ?_) (fun c_4 => ?_)
    · refine lv_aload_n hx hb dX0_standOfWind_36 rfl (lv_at hl 2 rfl) ?_
      refine lv_iload_n hx hb dX0_standOfWind_37 rfl (lv_at hl 1 rfl) ?_
      refine lv_iload_n hx hb dX0_standOfWind_38 rfl (lv_at hl 0 rfl) ?_
      refine lv_iconst (v := nI 0) hx hb dX0_standOfWind_39 (by decide) ?_
      refine rd_calli (va_runV (As := [.int (nI (lp ln (g * 2 + 1))), .int (nI (144 + g * 3 + 2)), .int (nI 0)]) (rest := []) ⟨hx, hb, hml, hown, hts⟩ (c_X0_isRelated l D h0 hn hd hq cZ cD cI nb v ln go mv hln (lp ln (g * 2 + 1)) (144 + g * 3 + 2) 0 (lp_lt hln (by omega)) (by omega) (by decide)) (cwV 3 hts gX0_standOfWind_X0_isRelated rfl rfl rfl (by decide +kernel) ⟨Nat.le_of_ble_eq_true rfl, Nat.le_of_ble_eq_true rfl⟩) ⟨fun a U g mk q => ⟨q.1, q.2.1, va_K.moved (u := U) (U := U.calling g mk a) (Vm.Alike.refl U.vm) q.2.2⟩, va_recv hK hP (ci := 1) (q0 := 0) rfl rfl, fun U hU hW => ⟨rfl, by rw [hU]; exact hP, va_K.moved hW.alike hK⟩⟩ rfl rfl hl.1 rfl (lv_room (Nat.le_of_ble_eq_true rfl)) dX0_standOfWind_40 ⟨Nat.le_of_ble_eq_true rfl, Nat.le_of_ble_eq_true rfl⟩) (fun r_5 hr_5 => ?_)
      subst hr_5
      refine kb_eq (tgt := 51) hx hb dX0_standOfWind_43 (by decide) (fun c_6 => ?_) (fun c_6 => ?_)
      · refine lv_bipush (v := nI 20) hx hb dX0_standOfWind_51 (by decide) ?_
        exact W.iret (v := nI 20) hx hb hr (fun t9 ht9 hW9 => ⟨⟨_, rfl, congrArg nI (show 20 = (sW nb v ln g) from by first | rfl | (simp [sW, c_3, c_4, c_6]; done) | (simp only [Nat.add_zero] at c_3 c_4 c_6; simp [sW, c_3, c_4, c_6]; done))⟩, ht9⟩) (fun q hq => absurd hq List.not_mem_nil) dX0_standOfWind_53
      · refine lv_bipush (v := nI 10) hx hb dX0_standOfWind_46 (by decide) ?_
        refine lv_goto (tgt := 53) hx hb dX0_standOfWind_48 (by decide) ?_
        exact W.iret (v := nI 10) hx hb hr (fun t9 ht9 hW9 => ⟨⟨_, rfl, congrArg nI (show 10 = (sW nb v ln g) from by first | rfl | (simp [sW, c_3, c_4, c_6]; done) | (simp only [Nat.add_zero] at c_3 c_4 c_6; simp [sW, c_3, c_4, c_6]; done))⟩, ht9⟩) (fun q hq => absurd hq List.not_mem_nil) dX0_standOfWind_53
    · refine lv_bipush (v := nI 30) hx hb dX0_standOfWind_33 (by decide) ?_
      exact W.iret (v := nI 30) hx hb hr (fun t9 ht9 hW9 => ⟨⟨_, rfl, congrArg nI (show 30 = (sW nb v ln g) from by first | rfl | (simp [sW, c_3, c_4]; done) | (simp only [Nat.add_zero] at c_3 c_4; simp [sW, c_3, c_4]; done))⟩, ht9⟩) (fun q hq => absurd hq List.not_mem_nil) dX0_standOfWind_35
  · refine lv_iconst (v := nI 0) hx hb dX0_standOfWind_22 (by decide) ?_
    exact W.iret (v := nI 0) hx hb hr (fun t9 ht9 hW9 => ⟨⟨_, rfl, congrArg nI (show 0 = (sW nb v ln g) from by first | rfl | (simp [sW, c_3]; done) | (simp only [Nat.add_zero] at c_3; simp [sW, c_3]; done))⟩, ht9⟩) (fun q hq => absurd hq List.not_mem_nil) dX0_standOfWind_23
set_option maxHeartbeats 4000000 in
set_option maxRecDepth 100000 in
theorem c_X0_standOfLevel (l : Launch) (D : va_G) (h0 hn hd hq : Nat) (cZ cD cI : ClassId) (nb : Nat → Bool) (v : Nat → UInt64) (ln : Nat → Nat) (go : Bool) (mv : Int32) (hln : ∀ j, ln j ≤ 12) (g : Nat) (hg : g < 6) : Met l yX0_standOfLevel wsX0_standOfLevel ({ frames := 2, cells := 0, slots := 0, locals := 44 }) (va_Pc [.ref h0, .int (nI g)] (fun U => va_P D vwCl (WB h0 hn hd hq cZ cD cI nb v ln go mv) U.heap ∧ va_K D vwCl (TY cZ cD cI) U)) (rd_Qi (fun r => r = nI (sL nb v ln g))) 0 0 (fun _ => False) := by
  refine Met.ofW (cc := cX0_standOfLevel) (maxL := 5) (ret := some .int) (by decide) rfl ?_
  intro p e s m args below meth c s₁ B hml hv
  obtain ⟨rfl, hP, hK⟩ := hv
  have hx := B.exec
  have hb := B.bytes
  have hr := B.returns
  have hts := atoms_spec (ws := wsX0_standOfLevel) B.pre
  have hown : s.vm.findClass RX0 = some m.cls := findClass_of_methodNamed B.named
  have hlocks := B.notSynchronized
  have hl := lv_entry ([.ref h0, .int (nI g)]) (n := 5) (Nat.le_of_ble_eq_true rfl)
  rw [lg_entry_eq]
  generalize (lg_sl ([.ref h0, .int (nI g)]) ++ List.replicate (5 - (lg_sl ([.ref h0, .int (nI g)])).length) Slot.unset).toArray = ls at hl ⊢
  have hl : lv_has ls 5 [(0, .ref h0), (1, .int (nI g))] := hl
  have hinRX0 : ∀ w ∈ wsX00, w ∈ wsX0_standOfLevel := by decide +kernel
  have hf_17 := hts (.fieldLink RX0 17 "HarbourBoard" "lengths" "[I") (by decide +kernel)
  have hf_9 := hts (.fieldLink RX0 9 "HarbourBoard" "isNumber" "[Z") (by decide +kernel)
  have h1 := hln (g * 2 + 0)
  refine lv_aload_n hx hb dX0_standOfLevel_0 rfl (lv_at hl 0 rfl) ?_
  refine va_get (D := D) (ci := 1) (v := .ref hq) (C := RX0) (T := TX0) (N := 5) hx hb hts hinRX0 hown hK hP 0 rfl rfl 2 (by decide) hf_17 (fun _ h9 => h9) rfl dX0_standOfLevel_1 ?_
  refine lv_iload_n hx hb dX0_standOfLevel_4 rfl (lv_at hl 1 rfl) ?_
  refine lv_iconst (v := nI 0) hx hb dX0_standOfLevel_5 (by decide) ?_
  refine rd_calli (va_runS (As := [.int (nI g), .int (nI 0)]) (rest := [.ref hq]) ⟨hx, hb, hml, hown, hts⟩ (c_X0_stripOf l g 0 ) (va_cwS 2 hts gX0_standOfLevel_X0_stripOf rfl rfl rfl (by decide +kernel) ⟨Nat.le_of_ble_eq_true rfl, Nat.le_of_ble_eq_true rfl⟩) ⟨fun a U g mk q => q, fun U hU hW => ⟨rfl, trivial⟩⟩ rfl rfl hl.1 rfl (lv_room (Nat.le_of_ble_eq_true rfl)) dX0_standOfLevel_6 ⟨Nat.le_of_ble_eq_true rfl, Nat.le_of_ble_eq_true rfl⟩) (fun r_1 hr_1 => ?_)
  subst hr_1
  refine kn_iald hx hb hK hP 3 2 rfl rfl (by omega) (by decide) dX0_standOfLevel_9 ?_
  refine kn_ne (tgt := 15) hx hb (by omega) dX0_standOfLevel_10 (by decide) (fun c_3 => ?_) (fun c_3 => ?_)
  · refine lv_aload_n hx hb dX0_standOfLevel_15 rfl (lv_at hl 0 rfl) ?_
    refine lv_iload_n hx hb dX0_standOfLevel_16 rfl (lv_at hl 1 rfl) ?_
    refine lv_iconst (v := nI 0) hx hb dX0_standOfLevel_17 (by decide) ?_
    refine rd_calli (va_runV (As := [.int (nI g), .int (nI 0)]) (rest := []) ⟨hx, hb, hml, hown, hts⟩ (c_X0_latestPlace l D h0 hn hd hq cZ cD cI nb v ln go mv hln g 0 (by omega) (by omega)) (cwV 2 hts gX0_standOfLevel_X0_latestPlace rfl rfl rfl (by decide +kernel) ⟨Nat.le_of_ble_eq_true rfl, Nat.le_of_ble_eq_true rfl⟩) ⟨fun a U g mk q => ⟨q.1, q.2.1, va_K.moved (u := U) (U := U.calling g mk a) (Vm.Alike.refl U.vm) q.2.2⟩, va_recv hK hP (ci := 1) (q0 := 0) rfl rfl, fun U hU hW => ⟨rfl, by rw [hU]; exact hP, va_K.moved hW.alike hK⟩⟩ rfl rfl hl.1 rfl (lv_room (Nat.le_of_ble_eq_true rfl)) dX0_standOfLevel_18 ⟨Nat.le_of_ble_eq_true rfl, Nat.le_of_ble_eq_true rfl⟩) (fun r_4 hr_4 => ?_)
    subst hr_4
    refine lv_istore_n (lv' := [(2, .int (nI (lp ln (g * 2 + 0)))), (0, .ref h0), (1, .int (nI g))]) hx hb dX0_standOfLevel_21 rfl hl (by decide) rfl (fun ls hl => ?_)
    refine lv_iload_n hx hb dX0_standOfLevel_22 rfl (lv_at hl 2 rfl) ?_
    refine lv_iconst (v := nI 0) hx hb dX0_standOfLevel_23 (by decide) ?_
    refine rd_calli (va_runS (As := [.int (nI g), .int (nI 0)]) (rest := []) ⟨hx, hb, hml, hown, hts⟩ (c_X0_markPlace l g 0 ) (va_cwS 2 hts gX0_standOfLevel_X0_markPlace rfl rfl rfl (by decide +kernel) ⟨Nat.le_of_ble_eq_true rfl, Nat.le_of_ble_eq_true rfl⟩) ⟨fun a U g mk q => q, fun U hU hW => ⟨rfl, trivial⟩⟩ rfl rfl hl.1 rfl (lv_room (Nat.le_of_ble_eq_true rfl)) dX0_standOfLevel_24 ⟨Nat.le_of_ble_eq_true rfl, Nat.le_of_ble_eq_true rfl⟩) (fun r_5 hr_5 => ?_)
    subst hr_5
    refine lv_istore_n (lv' := [(3, .int (nI (144 + g * 3 + 0))), (2, .int (nI (lp ln (g * 2 + 0)))), (0, .ref h0), (1, .int (nI g))]) hx hb dX0_standOfLevel_27 rfl hl (by decide) rfl (fun ls hl => ?_)
    refine lv_iload_n hx hb dX0_standOfLevel_28 rfl (lv_at hl 3 rfl) ?_
    refine lv_iconst (v := nI 1) hx hb dX0_standOfLevel_29 (by decide) ?_
    refine rd_calli (va_runS (As := [.int (nI g), .int (nI 1)]) (rest := []) ⟨hx, hb, hml, hown, hts⟩ (c_X0_markPlace l g 1 ) (va_cwS 2 hts gX0_standOfLevel_X0_markPlace rfl rfl rfl (by decide +kernel) ⟨Nat.le_of_ble_eq_true rfl, Nat.le_of_ble_eq_true rfl⟩) ⟨fun a U g mk q => q, fun U hU hW => ⟨rfl, trivial⟩⟩ rfl rfl hl.1 rfl (lv_room (Nat.le_of_ble_eq_true rfl)) dX0_standOfLevel_30 ⟨Nat.le_of_ble_eq_true rfl, Nat.le_of_ble_eq_true rfl⟩) (fun r_6 hr_6 => ?_)
    subst hr_6
    refine lv_istore (lv' := [(4, .int (nI (144 + g * 3 + 1))), (3, .int (nI (144 + g * 3 + 0))), (2, .int (nI (lp ln (g * 2 + 0)))), (0, .ref h0), (1, .int (nI g))]) hx hb dX0_standOfLevel_33 hl (by decide) rfl (fun ls hl => ?_)
    refine lv_aload_n hx hb dX0_standOfLevel_35 rfl (lv_at hl 3 rfl) ?_
    refine va_get (D := D) (ci := 1) (v := .ref hn) (C := RX0) (T := TX0) (N := 5) hx hb hts hinRX0 hown hK hP 0 rfl rfl 0 (by decide) hf_9 (fun _ h9 => h9) rfl dX0_standOfLevel_36 ?_
    refine lv_iload_n hx hb dX0_standOfLevel_39 rfl (lv_at hl 2 rfl) ?_
    refine kn_zald hx hb hK hP 1 0 rfl rfl (lp_lt hln (by omega)) (by decide) dX0_standOfLevel_40 ?_
    refine kb_ne (tgt := 46) hx hb dX0_standOfLevel_41 (by decide) (fun c_7 => ?_) (fun c_7 => ?_)
    · refine lv_aload_n hx hb dX0_standOfLevel_46 rfl (lv_at hl 3 rfl) ?_
      refine lv_iload_n hx hb dX0_standOfLevel_47 rfl (lv_at hl 2 rfl) ?_
      refine lv_iload_n hx hb dX0_standOfLevel_48 rfl (lv_at hl 1 rfl) ?_
      refine lv_iconst (v := nI 0) hx hb dX0_standOfLevel_49 (by decide) ?_
      refine rd_calli (va_runV (As := [.int (nI (lp ln (g * 2 + 0))), .int (nI (144 + g * 3 + 0)), .int (nI 0)]) (rest := []) ⟨hx, hb, hml, hown, hts⟩ (c_X0_isRelated l D h0 hn hd hq cZ cD cI nb v ln go mv hln (lp ln (g * 2 + 0)) (144 + g * 3 + 0) 0 (lp_lt hln (by omega)) (by omega) (by decide)) (cwV 3 hts gX0_standOfLevel_X0_isRelated rfl rfl rfl (by decide +kernel) ⟨Nat.le_of_ble_eq_true rfl, Nat.le_of_ble_eq_true rfl⟩) ⟨fun a U g mk q => ⟨q.1, q.2.1, va_K.moved (u := U) (U := U.calling g mk a) (Vm.Alike.refl U.vm) q.2.2⟩, va_recv hK hP (ci := 1) (q0 := 0) rfl rfl, fun U hU hW => ⟨rfl, by rw [hU]; exact hP, va_K.moved hW.alike hK⟩⟩ rfl rfl hl.1 rfl (lv_room (Nat.le_of_ble_eq_true rfl)) dX0_standOfLevel_50 ⟨Nat.le_of_ble_eq_true rfl, Nat.le_of_ble_eq_true rfl⟩) (fun r_8 hr_8 => ?_)
      subst hr_8
      refine kb_eq (tgt := 58) hx hb dX0_standOfLevel_53 (by decide) (fun c_9 => ?_) (fun c_9 => ?_)
      · refine lv_aload_n hx hb dX0_standOfLevel_58 rfl (lv_at hl 3 rfl) ?_
        refine lv_iload_n hx hb dX0_standOfLevel_59 rfl (lv_at hl 2 rfl) ?_
        refine lv_iload hx hb dX0_standOfLevel_60 (lv_at hl 0 rfl) ?_
        refine lv_iconst (v := nI 2) hx hb dX0_standOfLevel_62 (by decide) ?_
        refine rd_calli (va_runV (As := [.int (nI (lp ln (g * 2 + 0))), .int (nI (144 + g * 3 + 1)), .int (nI 2)]) (rest := []) ⟨hx, hb, hml, hown, hts⟩ (c_X0_isRelated l D h0 hn hd hq cZ cD cI nb v ln go mv hln (lp ln (g * 2 + 0)) (144 + g * 3 + 1) 2 (lp_lt hln (by omega)) (by omega) (by decide)) (cwV 3 hts gX0_standOfLevel_X0_isRelated rfl rfl rfl (by decide +kernel) ⟨Nat.le_of_ble_eq_true rfl, Nat.le_of_ble_eq_true rfl⟩) ⟨fun a U g mk q => ⟨q.1, q.2.1, va_K.moved (u := U) (U := U.calling g mk a) (Vm.Alike.refl U.vm) q.2.2⟩, va_recv hK hP (ci := 1) (q0 := 0) rfl rfl, fun U hU hW => ⟨rfl, by rw [hU]; exact hP, va_K.moved hW.alike hK⟩⟩ rfl rfl hl.1 rfl (lv_room (Nat.le_of_ble_eq_true rfl)) dX0_standOfLevel_63 ⟨Nat.le_of_ble_eq_true rfl, Nat.le_of_ble_eq_true rfl⟩) (fun r_10 hr_10 => ?_)
        subst hr_10
        refine kb_eq (tgt := 71) hx hb dX0_standOfLevel_66 (by decide) (fun c_11 => ?_) (fun c_11 => ?_)
        · refine lv_aload_n hx hb dX0_standOfLevel_71 rfl (lv_at hl 3 rfl) ?_
          refine lv_iload_n hx hb dX0_standOfLevel_72 rfl (lv_at hl 2 rfl) ?_
          refine lv_iload_n hx hb dX0_standOfLevel_73 rfl (lv_at hl 1 rfl) ?_
          refine lv_iconst (v := nI 4) hx hb dX0_standOfLevel_74 (by decide) ?_
          refine rd_calli (va_runV (As := [.int (nI (lp ln (g * 2 + 0))), .int (nI (144 + g * 3 + 0)), .int (nI 4)]) (rest := []) ⟨hx, hb, hml, hown, hts⟩ (c_X0_isRelated l D h0 hn hd hq cZ cD cI nb v ln go mv hln (lp ln (g * 2 + 0)) (144 + g * 3 + 0) 4 (lp_lt hln (by omega)) (by omega) (by decide)) (cwV 3 hts gX0_standOfLevel_X0_isRelated rfl rfl rfl (by decide +kernel) ⟨Nat.le_of_ble_eq_true rfl, Nat.le_of_ble_eq_true rfl⟩) ⟨fun a U g mk q => ⟨q.1, q.2.1, va_K.moved (u := U) (U := U.calling g mk a) (Vm.Alike.refl U.vm) q.2.2⟩, va_recv hK hP (ci := 1) (q0 := 0) rfl rfl, fun U hU hW => ⟨rfl, by rw [hU]; exact hP, va_K.moved hW.alike hK⟩⟩ rfl rfl hl.1 rfl (lv_room (Nat.le_of_ble_eq_true rfl)) dX0_standOfLevel_75 ⟨Nat.le_of_ble_eq_true rfl, Nat.le_of_ble_eq_true rfl⟩) (fun r_12 hr_12 => ?_)
          subst hr_12
          refine kb_ne (tgt := 92) hx hb dX0_standOfLevel_78 (by decide) (fun c_13 => ?_) (fun c_13 => ?_)
          · refine lv_iconst (v := nI 4) hx hb dX0_standOfLevel_92 (by decide) ?_
            exact W.iret (v := nI 4) hx hb hr (fun t9 ht9 hW9 => ⟨⟨_, rfl, congrArg nI (show 4 = (sL nb v ln g) from by first | rfl | (simp [sL, c_3, c_7, c_9, c_11, c_13]; done) | (simp only [Nat.add_zero] at c_3 c_7 c_9 c_11 c_13; simp [sL, c_3, c_7, c_9, c_11, c_13]; done))⟩, ht9⟩) (fun q hq => absurd hq List.not_mem_nil) dX0_standOfLevel_93
          · refine lv_aload_n hx hb dX0_standOfLevel_81 rfl (lv_at hl 3 rfl) ?_
            refine lv_iload_n hx hb dX0_standOfLevel_82 rfl (lv_at hl 2 rfl) ?_
            refine lv_iload hx hb dX0_standOfLevel_83 (lv_at hl 0 rfl) ?_
            refine lv_iconst (v := nI 4) hx hb dX0_standOfLevel_85 (by decide) ?_
            refine rd_calli (va_runV (As := [.int (nI (lp ln (g * 2 + 0))), .int (nI (144 + g * 3 + 1)), .int (nI 4)]) (rest := []) ⟨hx, hb, hml, hown, hts⟩ (c_X0_isRelated l D h0 hn hd hq cZ cD cI nb v ln go mv hln (lp ln (g * 2 + 0)) (144 + g * 3 + 1) 4 (lp_lt hln (by omega)) (by omega) (by decide)) (cwV 3 hts gX0_standOfLevel_X0_isRelated rfl rfl rfl (by decide +kernel) ⟨Nat.le_of_ble_eq_true rfl, Nat.le_of_ble_eq_true rfl⟩) ⟨fun a U g mk q => ⟨q.1, q.2.1, va_K.moved (u := U) (U := U.calling g mk a) (Vm.Alike.refl U.vm) q.2.2⟩, va_recv hK hP (ci := 1) (q0 := 0) rfl rfl, fun U hU hW => ⟨rfl, by rw [hU]; exact hP, va_K.moved hW.alike hK⟩⟩ rfl rfl hl.1 rfl (lv_room (Nat.le_of_ble_eq_true rfl)) dX0_standOfLevel_86 ⟨Nat.le_of_ble_eq_true rfl, Nat.le_of_ble_eq_true rfl⟩) (fun r_14 hr_14 => ?_)
            subst hr_14
            refine kb_eq (tgt := 94) hx hb dX0_standOfLevel_89 (by decide) (fun c_15 => ?_) (fun c_15 => ?_)
            · refine lv_aload_n hx hb dX0_standOfLevel_94 rfl (lv_at hl 3 rfl) ?_
              refine va_get (D := D) (ci := 1) (v := .ref hn) (C := RX0) (T := TX0) (N := 5) hx hb hts hinRX0 hown hK hP 0 rfl rfl 0 (by decide) hf_9 (fun _ h9 => h9) rfl dX0_standOfLevel_95 ?_
              refine lv_iload_n hx hb dX0_standOfLevel_98 rfl (lv_at hl 1 rfl) ?_
              refine kn_zald hx hb hK hP 1 0 rfl rfl (by omega) (by decide) dX0_standOfLevel_99 ?_
              refine kb_ne (tgt := 113) hx hb dX0_standOfLevel_100 (by decide) (fun c_16 => ?_) (fun c_16 => ?_)
              · refine lv_bipush (v := nI 6) hx hb dX0_standOfLevel_113 (by decide) ?_
                refine lv_goto (tgt := 119) hx hb dX0_standOfLevel_115 (by decide) ?_
                exact W.iret (v := nI 6) hx hb hr (fun t9 ht9 hW9 => ⟨⟨_, rfl, congrArg nI (show 6 = (sL nb v ln g) from by first | rfl | (simp [sL, c_3, c_7, c_9, c_11, c_13, c_15, c_16]; done) | (simp only [Nat.add_zero] at c_3 c_7 c_9 c_11 c_13 c_15 c_16; simp [sL, c_3, c_7, c_9, c_11, c_13, c_15, c_16]; done))⟩, ht9⟩) (fun q hq => absurd hq List.not_mem_nil) dX0_standOfLevel_119
              · refine lv_aload_n hx hb dX0_standOfLevel_103 rfl (lv_at hl 3 rfl) ?_
                refine va_get (D := D) (ci := 1) (v := .ref hn) (C := RX0) (T := TX0) (N := 5) hx hb hts hinRX0 hown hK hP 0 rfl rfl 0 (by decide) hf_9 (fun _ h9 => h9) rfl dX0_standOfLevel_104 ?_
                refine lv_iload hx hb dX0_standOfLevel_107 (lv_at hl 0 rfl) ?_
                refine kn_zald hx hb hK hP 1 0 rfl rfl (by omega) (by decide) dX0_standOfLevel_109 ?_
                refine kb_eq (tgt := 118) hx hb dX0_standOfLevel_110 (by decide) (fun c_17 => ?_) (fun c_17 => ?_)
                · refine lv_iconst (v := nI 5) hx hb dX0_standOfLevel_118 (by decide) ?_
                  exact W.iret (v := nI 5) hx hb hr (fun t9 ht9 hW9 => ⟨⟨_, rfl, congrArg nI (show 5 = (sL nb v ln g) from by first | rfl | (simp [sL, c_3, c_7, c_9, c_11, c_13, c_15, c_16, c_17]; done) | (simp only [Nat.add_zero] at c_3 c_7 c_9 c_11 c_13 c_15 c_16 c_17; simp [sL, c_3, c_7, c_9, c_11, c_13, c_15, c_16, c_17]; done))⟩, ht9⟩) (fun q hq => absurd hq List.not_mem_nil) dX0_standOfLevel_119
                · refine lv_bipush (v := nI 6) hx hb dX0_standOfLevel_113 (by decide) ?_
                  refine lv_goto (tgt := 119) hx hb dX0_standOfLevel_115 (by decide) ?_
                  exact W.iret (v := nI 6) hx hb hr (fun t9 ht9 hW9 => ⟨⟨_, rfl, congrArg nI (show 6 = (sL nb v ln g) from by first | rfl | (simp [sL, c_3, c_7, c_9, c_11, c_13, c_15, c_16, c_17]; done) | (simp only [Nat.add_zero] at c_3 c_7 c_9 c_11 c_13 c_15 c_16 c_17; simp [sL, c_3, c_7, c_9, c_11, c_13, c_15, c_16, c_17]; done))⟩, ht9⟩) (fun q hq => absurd hq List.not_mem_nil) dX0_standOfLevel_119
            · refine lv_iconst (v := nI 4) hx hb dX0_standOfLevel_92 (by decide) ?_
              exact W.iret (v := nI 4) hx hb hr (fun t9 ht9 hW9 => ⟨⟨_, rfl, congrArg nI (show 4 = (sL nb v ln g) from by first | rfl | (simp [sL, c_3, c_7, c_9, c_11, c_13, c_15]; done) | (simp only [Nat.add_zero] at c_3 c_7 c_9 c_11 c_13 c_15; simp [sL, c_3, c_7, c_9, c_11, c_13, c_15]; done))⟩, ht9⟩) (fun q hq => absurd hq List.not_mem_nil) dX0_standOfLevel_93
        · refine lv_iconst (v := nI 3) hx hb dX0_standOfLevel_69 (by decide) ?_
          exact W.iret (v := nI 3) hx hb hr (fun t9 ht9 hW9 => ⟨⟨_, rfl, congrArg nI (show 3 = (sL nb v ln g) from by first | rfl | (simp [sL, c_3, c_7, c_9, c_11]; done) | (simp only [Nat.add_zero] at c_3 c_7 c_9 c_11; simp [sL, c_3, c_7, c_9, c_11]; done))⟩, ht9⟩) (fun q hq => absurd hq List.not_mem_nil) dX0_standOfLevel_70
      · refine lv_iconst (v := nI 2) hx hb dX0_standOfLevel_56 (by decide) ?_
        exact W.iret (v := nI 2) hx hb hr (fun t9 ht9 hW9 => ⟨⟨_, rfl, congrArg nI (show 2 = (sL nb v ln g) from by first | rfl | (simp [sL, c_3, c_7, c_9]; done) | (simp only [Nat.add_zero] at c_3 c_7 c_9; simp [sL, c_3, c_7, c_9]; done))⟩, ht9⟩) (fun q hq => absurd hq List.not_mem_nil) dX0_standOfLevel_57
    · refine lv_iconst (v := nI 1) hx hb dX0_standOfLevel_44 (by decide) ?_
      exact W.iret (v := nI 1) hx hb hr (fun t9 ht9 hW9 => ⟨⟨_, rfl, congrArg nI (show 1 = (sL nb v ln g) from by first | rfl | (simp [sL, c_3, c_7]; done) | (simp only [Nat.add_zero] at c_3 c_7; simp [sL, c_3, c_7]; done))⟩, ht9⟩) (fun q hq => absurd hq List.not_mem_nil) dX0_standOfLevel_45
  · refine lv_iconst (v := nI 0) hx hb dX0_standOfLevel_13 (by decide) ?_
    exact W.iret (v := nI 0) hx hb hr (fun t9 ht9 hW9 => ⟨⟨_, rfl, congrArg nI (show 0 = (sL nb v ln g) from by first | rfl | (simp [sL, c_3]; done) | (simp only [Nat.add_zero] at c_3; simp [sL, c_3]; done))⟩, ht9⟩) (fun q hq => absurd hq List.not_mem_nil) dX0_standOfLevel_14
set_option maxHeartbeats 4000000 in
set_option maxRecDepth 100000 in
theorem c_X0_gaugesRelatedToProbe (l : Launch) (D : va_G) (h0 hn hd hq : Nat) (cZ cD cI : ClassId) (nb : Nat → Bool) (v : Nat → UInt64) (ln : Nat → Nat) (go : Bool) (mv : Int32) (hln : ∀ j, ln j ≤ 12) (w : Nat) (k : Nat) (hw : w < 2) (hk : k < 2147483648) : Met l yX0_gaugesRelatedToProbe wsX0_gaugesRelatedToProbe ({ frames := 2, cells := 0, slots := 0, locals := 44 }) (va_Pc [.ref h0, .int (nI w), .int (nI k)] (fun U => va_P D vwCl (WB h0 hn hd hq cZ cD cI nb v ln go mv) U.heap ∧ va_K D vwCl (TY cZ cD cI) U)) (rd_Qi (fun r => r = nI (gr nb v ln w k))) 0 0 (fun _ => False) := by
  refine Met.ofW (cc := cX0_gaugesRelatedToProbe) (maxL := 5) (ret := some .int) (by decide) rfl ?_
  intro p e s m args below meth c s₁ B hml hv
  obtain ⟨rfl, hP, hK⟩ := hv
  have hx := B.exec
  have hb := B.bytes
  have hr := B.returns
  have hts := atoms_spec (ws := wsX0_gaugesRelatedToProbe) B.pre
  have hown : s.vm.findClass RX0 = some m.cls := findClass_of_methodNamed B.named
  have hlocks := B.notSynchronized
  have hl := lv_entry ([.ref h0, .int (nI w), .int (nI k)]) (n := 5) (Nat.le_of_ble_eq_true rfl)
  rw [lg_entry_eq]
  generalize (lg_sl ([.ref h0, .int (nI w), .int (nI k)]) ++ List.replicate (5 - (lg_sl ([.ref h0, .int (nI w), .int (nI k)])).length) Slot.unset).toArray = ls at hl ⊢
  have hl : lv_has ls 5 [(0, .ref h0), (1, .int (nI w)), (2, .int (nI k))] := hl
  refine lv_iconst (v := nI 0) hx hb dX0_gaugesRelatedToProbe_0 (by decide) ?_
  refine lv_istore_n (lv' := [(3, .int (nI 0)), (0, .ref h0), (1, .int (nI w)), (2, .int (nI k))]) hx hb dX0_gaugesRelatedToProbe_1 rfl hl (by decide) rfl (fun ls hl => ?_)
  refine lv_iconst (v := nI 0) hx hb dX0_gaugesRelatedToProbe_2 (by decide) ?_
  refine lv_istore (lv' := [(4, .int (nI 0)), (3, .int (nI 0)), (0, .ref h0), (1, .int (nI w)), (2, .int (nI k))]) hx hb dX0_gaugesRelatedToProbe_3 hl (by decide) rfl (fun ls hl => ?_)
  refine (?_ : ∀ (k_ i : Nat) (ls : Array Slot), i + k_ = 6 → lv_has ls 5 [(0, .ref h0), (1, .int (nI w)), (2, .int (nI k)), (3, .int (nI (cn (fun g => rp nb v (lp ln (g * 2 + w)) (162 + w) k) i))), (4, .int (nI i))] → W p l e _ s m _ below meth c _ _ _ _ _ (F0 m 5 ls [])) 6 0 ls (by omega) (lv_sub hl [2, 3, 4, 1, 0] rfl)
  clear hl
  intro k_
  induction k_ with
  | zero =>
    intro i ls hi hl
    refine lv_iload hx hb dX0_gaugesRelatedToProbe_5 (lv_at hl 4 rfl) ?_
    refine lv_bipush (v := nI 6) hx hb dX0_gaugesRelatedToProbe_7 (by decide) ?_
    refine kn_icmp_ge (tgt := 40) hx hb (by omega) (by decide) dX0_gaugesRelatedToProbe_9 (by decide) (fun c_x => ?_) (fun h => absurd h (by omega))
    refine lv_iload_n hx hb dX0_gaugesRelatedToProbe_40 rfl (lv_at hl 3 rfl) ?_
    exact W.iret (v := nI (cn (fun g => rp nb v (lp ln (g * 2 + w)) (162 + w) k) i)) hx hb hr (fun t9 ht9 hW9 => ⟨⟨_, rfl, by rw [show i = 6 by omega]; rfl⟩, ht9⟩) (fun q hq => absurd hq List.not_mem_nil) dX0_gaugesRelatedToProbe_41
  | succ k_ ih =>
    intro i ls hi hl
    refine lv_iload hx hb dX0_gaugesRelatedToProbe_5 (lv_at hl 4 rfl) ?_
    refine lv_bipush (v := nI 6) hx hb dX0_gaugesRelatedToProbe_7 (by decide) ?_
    refine kn_icmp_ge (tgt := 40) hx hb (by omega) (by decide) dX0_gaugesRelatedToProbe_9 (by decide) (fun h => absurd h (by omega)) (fun c_x => ?_)
    refine lv_aload_n hx hb dX0_gaugesRelatedToProbe_12 rfl (lv_at hl 0 rfl) ?_
    refine lv_aload_n hx hb dX0_gaugesRelatedToProbe_13 rfl (lv_at hl 0 rfl) ?_
    refine lv_iload hx hb dX0_gaugesRelatedToProbe_14 (lv_at hl 4 rfl) ?_
    refine lv_iload_n hx hb dX0_gaugesRelatedToProbe_16 rfl (lv_at hl 1 rfl) ?_
    refine rd_calli (va_runV (As := [.int (nI i), .int (nI w)]) (rest := [.ref h0]) ⟨hx, hb, hml, hown, hts⟩ (c_X0_latestPlace l D h0 hn hd hq cZ cD cI nb v ln go mv hln i w (by omega) (by omega)) (cwV 2 hts gX0_gaugesRelatedToProbe_X0_latestPlace rfl rfl rfl (by decide +kernel) ⟨Nat.le_of_ble_eq_true rfl, Nat.le_of_ble_eq_true rfl⟩) ⟨fun a U g mk q => ⟨q.1, q.2.1, va_K.moved (u := U) (U := U.calling g mk a) (Vm.Alike.refl U.vm) q.2.2⟩, va_recv hK hP (ci := 1) (q0 := 0) rfl rfl, fun U hU hW => ⟨rfl, by rw [hU]; exact hP, va_K.moved hW.alike hK⟩⟩ rfl rfl hl.1 rfl (lv_room (Nat.le_of_ble_eq_true rfl)) dX0_gaugesRelatedToProbe_17 ⟨Nat.le_of_ble_eq_true rfl, Nat.le_of_ble_eq_true rfl⟩) (fun r_1 hr_1 => ?_)
    subst hr_1
    refine lv_iload_n hx hb dX0_gaugesRelatedToProbe_20 rfl (lv_at hl 1 rfl) ?_
    refine rd_calli (va_runS (As := [.int (nI w)]) (rest := [.int (nI (lp ln (i * 2 + w))), .ref h0]) ⟨hx, hb, hml, hown, hts⟩ (c_X0_probePlace l w ) (va_cwS 1 hts gX0_gaugesRelatedToProbe_X0_probePlace rfl rfl rfl (by decide +kernel) ⟨Nat.le_of_ble_eq_true rfl, Nat.le_of_ble_eq_true rfl⟩) ⟨fun a U g mk q => q, fun U hU hW => ⟨rfl, trivial⟩⟩ rfl rfl hl.1 rfl (lv_room (Nat.le_of_ble_eq_true rfl)) dX0_gaugesRelatedToProbe_21 ⟨Nat.le_of_ble_eq_true rfl, Nat.le_of_ble_eq_true rfl⟩) (fun r_2 hr_2 => ?_)
    subst hr_2
    refine lv_iload_n hx hb dX0_gaugesRelatedToProbe_24 rfl (lv_at hl 2 rfl) ?_
    refine rd_calli (va_runV (As := [.int (nI (lp ln (i * 2 + w))), .int (nI (162 + w)), .int (nI k)]) (rest := []) ⟨hx, hb, hml, hown, hts⟩ (c_X0_isRelated l D h0 hn hd hq cZ cD cI nb v ln go mv hln (lp ln (i * 2 + w)) (162 + w) k (lp_lt hln (by omega)) (by omega) (by omega)) (cwV 3 hts gX0_gaugesRelatedToProbe_X0_isRelated rfl rfl rfl (by decide +kernel) ⟨Nat.le_of_ble_eq_true rfl, Nat.le_of_ble_eq_true rfl⟩) ⟨fun a U g mk q => ⟨q.1, q.2.1, va_K.moved (u := U) (U := U.calling g mk a) (Vm.Alike.refl U.vm) q.2.2⟩, va_recv hK hP (ci := 1) (q0 := 0) rfl rfl, fun U hU hW => ⟨rfl, by rw [hU]; exact hP, va_K.moved hW.alike hK⟩⟩ rfl rfl hl.1 rfl (lv_room (Nat.le_of_ble_eq_true rfl)) dX0_gaugesRelatedToProbe_25 ⟨Nat.le_of_ble_eq_true rfl, Nat.le_of_ble_eq_true rfl⟩) (fun r_3 hr_3 => ?_)
    subst hr_3
    refine kb_eq (tgt := 34) hx hb dX0_gaugesRelatedToProbe_28 (by decide) (fun c_4 => ?_) (fun c_4 => ?_)
    · refine lv_iinc (v := nI (i + 1)) (lv' := [(4, .int (nI (i + 1))), (0, .ref h0), (1, .int (nI w)), (2, .int (nI k)), (3, .int (nI (cn (fun g => rp nb v (lp ln (g * 2 + w)) (162 + w) k) i)))]) hx hb dX0_gaugesRelatedToProbe_34 hl (k := 4) rfl (nI_add i 1) (by decide) rfl (fun ls hl => ?_)
      refine lv_goto (tgt := 5) hx hb dX0_gaugesRelatedToProbe_37 (by decide) ?_
      have e_1 : cn (fun g => rp nb v (lp ln (g * 2 + w)) (162 + w) k) (i + 1) = cn (fun g => rp nb v (lp ln (g * 2 + w)) (162 + w) k) i := cn_f c_4
      exact ih (i + 1) ls (by omega) (by rw [e_1]; exact lv_sub hl [1, 2, 3, 4, 0] rfl)
    · refine lv_iinc (v := nI (cn (fun g => rp nb v (lp ln (g * 2 + w)) (162 + w) k) i + 1)) (lv' := [(3, .int (nI (cn (fun g => rp nb v (lp ln (g * 2 + w)) (162 + w) k) i + 1))), (0, .ref h0), (1, .int (nI w)), (2, .int (nI k)), (4, .int (nI i))]) hx hb dX0_gaugesRelatedToProbe_31 hl (k := 3) rfl (nI_add (cn (fun g => rp nb v (lp ln (g * 2 + w)) (162 + w) k) i) 1) (by decide) rfl (fun ls hl => ?_)
      refine lv_iinc (v := nI (i + 1)) (lv' := [(4, .int (nI (i + 1))), (3, .int (nI (cn (fun g => rp nb v (lp ln (g * 2 + w)) (162 + w) k) i + 1))), (0, .ref h0), (1, .int (nI w)), (2, .int (nI k))]) hx hb dX0_gaugesRelatedToProbe_34 hl (k := 4) rfl (nI_add i 1) (by decide) rfl (fun ls hl => ?_)
      refine lv_goto (tgt := 5) hx hb dX0_gaugesRelatedToProbe_37 (by decide) ?_
      have e_1 : cn (fun g => rp nb v (lp ln (g * 2 + w)) (162 + w) k) (i + 1) = cn (fun g => rp nb v (lp ln (g * 2 + w)) (162 + w) k) i + 1 := cn_t c_4
      exact ih (i + 1) ls (by omega) (by rw [e_1]; exact lv_sub hl [2, 3, 4, 1, 0] rfl)
set_option maxHeartbeats 4000000 in
set_option maxRecDepth 100000 in
theorem c_X0_gaugesAheadOf (l : Launch) (D : va_G) (h0 hn hd hq : Nat) (cZ cD cI : ClassId) (nb : Nat → Bool) (v : Nat → UInt64) (ln : Nat → Nat) (go : Bool) (mv : Int32) (hln : ∀ j, ln j ≤ 12) (g : Nat) (hg : g < 6) : Met l yX0_gaugesAheadOf wsX0_gaugesAheadOf ({ frames := 3, cells := 0, slots := 0, locals := 73 }) (va_Pc [.ref h0, .int (nI g)] (fun U => va_P D vwCl (WB h0 hn hd hq cZ cD cI nb v ln go mv) U.heap ∧ va_K D vwCl (TY cZ cD cI) U)) (rd_Qi (fun r => r = nI (ga nb v ln g))) 0 0 (fun _ => False) := by
  refine Met.ofW (cc := cX0_gaugesAheadOf) (maxL := 4) (ret := some .int) (by decide) rfl ?_
  intro p e s m args below meth c s₁ B hml hv
  obtain ⟨rfl, hP, hK⟩ := hv
  have hx := B.exec
  have hb := B.bytes
  have hr := B.returns
  have hts := atoms_spec (ws := wsX0_gaugesAheadOf) B.pre
  have hown : s.vm.findClass RX0 = some m.cls := findClass_of_methodNamed B.named
  have hlocks := B.notSynchronized
  have hl := lv_entry ([.ref h0, .int (nI g)]) (n := 4) (Nat.le_of_ble_eq_true rfl)
  rw [lg_entry_eq]
  generalize (lg_sl ([.ref h0, .int (nI g)]) ++ List.replicate (4 - (lg_sl ([.ref h0, .int (nI g)])).length) Slot.unset).toArray = ls at hl ⊢
  have hl : lv_has ls 4 [(0, .ref h0), (1, .int (nI g))] := hl
  refine lv_iconst (v := nI 0) hx hb dX0_gaugesAheadOf_0 (by decide) ?_
  refine lv_istore_n (lv' := [(2, .int (nI 0)), (0, .ref h0), (1, .int (nI g))]) hx hb dX0_gaugesAheadOf_1 rfl hl (by decide) rfl (fun ls hl => ?_)
  refine lv_iconst (v := nI 0) hx hb dX0_gaugesAheadOf_2 (by decide) ?_
  refine lv_istore_n (lv' := [(3, .int (nI 0)), (2, .int (nI 0)), (0, .ref h0), (1, .int (nI g))]) hx hb dX0_gaugesAheadOf_3 rfl hl (by decide) rfl (fun ls hl => ?_)
  refine (?_ : ∀ (k_ i : Nat) (ls : Array Slot), i + k_ = 6 → lv_has ls 4 [(0, .ref h0), (1, .int (nI g)), (2, .int (nI (cn (fun j => ahd nb v ln j g) i))), (3, .int (nI i))] → W p l e _ s m _ below meth c _ _ _ _ _ (F0 m 4 ls [])) 6 0 ls (by omega) (lv_sub hl [2, 3, 1, 0] rfl)
  clear hl
  intro k_
  induction k_ with
  | zero =>
    intro i ls hi hl
    refine lv_iload_n hx hb dX0_gaugesAheadOf_4 rfl (lv_at hl 3 rfl) ?_
    refine lv_bipush (v := nI 6) hx hb dX0_gaugesAheadOf_5 (by decide) ?_
    refine kn_icmp_ge (tgt := 28) hx hb (by omega) (by decide) dX0_gaugesAheadOf_7 (by decide) (fun c_x => ?_) (fun h => absurd h (by omega))
    refine lv_iload_n hx hb dX0_gaugesAheadOf_28 rfl (lv_at hl 2 rfl) ?_
    exact W.iret (v := nI (cn (fun j => ahd nb v ln j g) i)) hx hb hr (fun t9 ht9 hW9 => ⟨⟨_, rfl, by rw [show i = 6 by omega]; rfl⟩, ht9⟩) (fun q hq => absurd hq List.not_mem_nil) dX0_gaugesAheadOf_29
  | succ k_ ih =>
    intro i ls hi hl
    refine lv_iload_n hx hb dX0_gaugesAheadOf_4 rfl (lv_at hl 3 rfl) ?_
    refine lv_bipush (v := nI 6) hx hb dX0_gaugesAheadOf_5 (by decide) ?_
    refine kn_icmp_ge (tgt := 28) hx hb (by omega) (by decide) dX0_gaugesAheadOf_7 (by decide) (fun h => absurd h (by omega)) (fun c_x => ?_)
    refine lv_aload_n hx hb dX0_gaugesAheadOf_10 rfl (lv_at hl 0 rfl) ?_
    refine lv_iload_n hx hb dX0_gaugesAheadOf_11 rfl (lv_at hl 3 rfl) ?_
    refine lv_iload_n hx hb dX0_gaugesAheadOf_12 rfl (lv_at hl 1 rfl) ?_
    refine rd_calli (va_runV (As := [.int (nI i), .int (nI g)]) (rest := []) ⟨hx, hb, hml, hown, hts⟩ (c_X0_isAhead l D h0 hn hd hq cZ cD cI nb v ln go mv hln i g (by omega) (by omega)) (cwV 2 hts gX0_gaugesAheadOf_X0_isAhead rfl rfl rfl (by decide +kernel) ⟨Nat.le_of_ble_eq_true rfl, Nat.le_of_ble_eq_true rfl⟩) ⟨fun a U g mk q => ⟨q.1, q.2.1, va_K.moved (u := U) (U := U.calling g mk a) (Vm.Alike.refl U.vm) q.2.2⟩, va_recv hK hP (ci := 1) (q0 := 0) rfl rfl, fun U hU hW => ⟨rfl, by rw [hU]; exact hP, va_K.moved hW.alike hK⟩⟩ rfl rfl hl.1 rfl (lv_room (Nat.le_of_ble_eq_true rfl)) dX0_gaugesAheadOf_13 ⟨Nat.le_of_ble_eq_true rfl, Nat.le_of_ble_eq_true rfl⟩) (fun r_1 hr_1 => ?_)
    subst hr_1
    refine kb_eq (tgt := 22) hx hb dX0_gaugesAheadOf_16 (by decide) (fun c_2 => ?_) (fun c_2 => ?_)
    · refine lv_iinc (v := nI (i + 1)) (lv' := [(3, .int (nI (i + 1))), (0, .ref h0), (1, .int (nI g)), (2, .int (nI (cn (fun j => ahd nb v ln j g) i)))]) hx hb dX0_gaugesAheadOf_22 hl (k := 3) rfl (nI_add i 1) (by decide) rfl (fun ls hl => ?_)
      refine lv_goto (tgt := 4) hx hb dX0_gaugesAheadOf_25 (by decide) ?_
      have e_1 : cn (fun j => ahd nb v ln j g) (i + 1) = cn (fun j => ahd nb v ln j g) i := cn_f c_2
      exact ih (i + 1) ls (by omega) (by rw [e_1]; exact lv_sub hl [1, 2, 3, 0] rfl)
    · refine lv_iinc (v := nI (cn (fun j => ahd nb v ln j g) i + 1)) (lv' := [(2, .int (nI (cn (fun j => ahd nb v ln j g) i + 1))), (0, .ref h0), (1, .int (nI g)), (3, .int (nI i))]) hx hb dX0_gaugesAheadOf_19 hl (k := 2) rfl (nI_add (cn (fun j => ahd nb v ln j g) i) 1) (by decide) rfl (fun ls hl => ?_)
      refine lv_iinc (v := nI (i + 1)) (lv' := [(3, .int (nI (i + 1))), (2, .int (nI (cn (fun j => ahd nb v ln j g) i + 1))), (0, .ref h0), (1, .int (nI g))]) hx hb dX0_gaugesAheadOf_22 hl (k := 3) rfl (nI_add i 1) (by decide) rfl (fun ls hl => ?_)
      refine lv_goto (tgt := 4) hx hb dX0_gaugesAheadOf_25 (by decide) ?_
      have e_1 : cn (fun j => ahd nb v ln j g) (i + 1) = cn (fun j => ahd nb v ln j g) i + 1 := cn_t c_2
      exact ih (i + 1) ls (by omega) (by rw [e_1]; exact lv_sub hl [2, 3, 1, 0] rfl)
set_option maxHeartbeats 4000000 in
set_option maxRecDepth 100000 in
theorem c_X0_runAhead (l : Launch) (D : va_G) (h0 hn hd hq : Nat) (cZ cD cI : ClassId) (nb : Nat → Bool) (v : Nat → UInt64) (ln : Nat → Nat) (go : Bool) (mv : Int32) (hln : ∀ j, ln j ≤ 12) (t : Nat) (q : Nat) (k : Nat) (ht : t < 12) (hq1 : q < 165) (hk : k < 2147483648) : Met l yX0_runAhead wsX0_runAhead ({ frames := 1, cells := 0, slots := 0, locals := 27 }) (va_Pc [.ref h0, .int (nI t), .int (nI q), .int (nI k)] (fun U => va_P D vwCl (WB h0 hn hd hq cZ cD cI nb v ln go mv) U.heap ∧ va_K D vwCl (TY cZ cD cI) U)) (rd_Qi (fun r => r = nI (tk (fun j => rp nb v (t * 12 + j) q k) (ln t) 0))) 0 0 (fun _ => False) := by
  refine Met.ofW (cc := cX0_runAhead) (maxL := 5) (ret := some .int) (by decide) rfl ?_
  intro p e s m args below meth c s₁ B hml hv
  obtain ⟨rfl, hP, hK⟩ := hv
  have hx := B.exec
  have hb := B.bytes
  have hr := B.returns
  have hts := atoms_spec (ws := wsX0_runAhead) B.pre
  have hown : s.vm.findClass RX0 = some m.cls := findClass_of_methodNamed B.named
  have hlocks := B.notSynchronized
  have hl := lv_entry ([.ref h0, .int (nI t), .int (nI q), .int (nI k)]) (n := 5) (Nat.le_of_ble_eq_true rfl)
  rw [lg_entry_eq]
  generalize (lg_sl ([.ref h0, .int (nI t), .int (nI q), .int (nI k)]) ++ List.replicate (5 - (lg_sl ([.ref h0, .int (nI t), .int (nI q), .int (nI k)])).length) Slot.unset).toArray = ls at hl ⊢
  have hl : lv_has ls 5 [(0, .ref h0), (1, .int (nI t)), (2, .int (nI q)), (3, .int (nI k))] := hl
  have hinRX0 : ∀ w ∈ wsX00, w ∈ wsX0_runAhead := by decide +kernel
  have hf_17 := hts (.fieldLink RX0 17 "HarbourBoard" "lengths" "[I") (by decide +kernel)
  have h1 := hln t
  refine lv_iconst (v := nI 0) hx hb dX0_runAhead_0 (by decide) ?_
  refine lv_istore (lv' := [(4, .int (nI 0)), (0, .ref h0), (1, .int (nI t)), (2, .int (nI q)), (3, .int (nI k))]) hx hb dX0_runAhead_1 hl (by decide) rfl (fun ls hl => ?_)
  refine (?_ : ∀ (k_ i : Nat) (ls : Array Slot), tk (fun j => rp nb v (t * 12 + j) q k) k_ i = tk (fun j => rp nb v (t * 12 + j) q k) (ln t) 0 → i + k_ = ln t → lv_has ls 5 [(0, .ref h0), (1, .int (nI t)), (2, .int (nI q)), (3, .int (nI k)), (4, .int (nI i))] → W p l e _ s m _ below meth c _ _ _ _ _ (F0 m 3 ls [])) (ln t) 0 ls rfl (by omega) (lv_sub hl [1, 2, 3, 4, 0] rfl)
  clear hl
  intro k_
  induction k_ with
  | zero =>
    intro i ls hv0 hi hl
    refine lv_iload hx hb dX0_runAhead_3 (lv_at hl 4 rfl) ?_
    refine lv_aload_n hx hb dX0_runAhead_5 rfl (lv_at hl 0 rfl) ?_
    refine va_get (D := D) (ci := 1) (v := .ref hq) (C := RX0) (T := TX0) (N := 5) hx hb hts hinRX0 hown hK hP 0 rfl rfl 2 (by decide) hf_17 (fun _ h9 => h9) rfl dX0_runAhead_6 ?_
    refine lv_iload_n hx hb dX0_runAhead_9 rfl (lv_at hl 1 rfl) ?_
    refine kn_iald hx hb hK hP 3 2 rfl rfl (by omega) (by decide) dX0_runAhead_10 ?_
    refine kn_icmp_ge (tgt := 35) hx hb (by omega) (by omega) dX0_runAhead_11 (by decide) (fun c_x => ?_) (fun h => absurd h (by omega))
    refine lv_iload hx hb dX0_runAhead_35 (lv_at hl 4 rfl) ?_
    exact W.iret (v := nI i) hx hb hr (fun t9 ht9 hW9 => ⟨⟨_, rfl, congrArg nI hv0⟩, ht9⟩) (fun q hq => absurd hq List.not_mem_nil) dX0_runAhead_37
  | succ k_ ih =>
    intro i ls hv0 hi hl
    refine lv_iload hx hb dX0_runAhead_3 (lv_at hl 4 rfl) ?_
    refine lv_aload_n hx hb dX0_runAhead_5 rfl (lv_at hl 0 rfl) ?_
    refine va_get (D := D) (ci := 1) (v := .ref hq) (C := RX0) (T := TX0) (N := 5) hx hb hts hinRX0 hown hK hP 0 rfl rfl 2 (by decide) hf_17 (fun _ h9 => h9) rfl dX0_runAhead_6 ?_
    refine lv_iload_n hx hb dX0_runAhead_9 rfl (lv_at hl 1 rfl) ?_
    refine kn_iald hx hb hK hP 3 2 rfl rfl (by omega) (by decide) dX0_runAhead_10 ?_
    refine kn_icmp_ge (tgt := 35) hx hb (by omega) (by omega) dX0_runAhead_11 (by decide) (fun h => absurd h (by omega)) (fun c_x => ?_)
    refine lv_aload_n hx hb dX0_runAhead_14 rfl (lv_at hl 0 rfl) ?_
    refine lv_iload_n hx hb dX0_runAhead_15 rfl (lv_at hl 1 rfl) ?_
    refine lv_iload hx hb dX0_runAhead_16 (lv_at hl 4 rfl) ?_
    refine rd_calli (va_runS (As := [.int (nI t), .int (nI i)]) (rest := [.ref h0]) ⟨hx, hb, hml, hown, hts⟩ (c_X0_stripPlace l t i ) (va_cwS 2 hts gX0_runAhead_X0_stripPlace rfl rfl rfl (by decide +kernel) ⟨Nat.le_of_ble_eq_true rfl, Nat.le_of_ble_eq_true rfl⟩) ⟨fun a U g mk q => q, fun U hU hW => ⟨rfl, trivial⟩⟩ rfl rfl hl.1 rfl (lv_room (Nat.le_of_ble_eq_true rfl)) dX0_runAhead_18 ⟨Nat.le_of_ble_eq_true rfl, Nat.le_of_ble_eq_true rfl⟩) (fun r_1 hr_1 => ?_)
    subst hr_1
    refine lv_iload_n hx hb dX0_runAhead_21 rfl (lv_at hl 2 rfl) ?_
    refine lv_iload_n hx hb dX0_runAhead_22 rfl (lv_at hl 3 rfl) ?_
    refine rd_calli (va_runV (As := [.int (nI (t * 12 + i)), .int (nI q), .int (nI k)]) (rest := []) ⟨hx, hb, hml, hown, hts⟩ (c_X0_isRelated l D h0 hn hd hq cZ cD cI nb v ln go mv hln (t * 12 + i) q k (by omega) (by omega) (by omega)) (cwV 3 hts gX0_runAhead_X0_isRelated rfl rfl rfl (by decide +kernel) ⟨Nat.le_of_ble_eq_true rfl, Nat.le_of_ble_eq_true rfl⟩) ⟨fun a U g mk q => ⟨q.1, q.2.1, va_K.moved (u := U) (U := U.calling g mk a) (Vm.Alike.refl U.vm) q.2.2⟩, va_recv hK hP (ci := 1) (q0 := 0) rfl rfl, fun U hU hW => ⟨rfl, by rw [hU]; exact hP, va_K.moved hW.alike hK⟩⟩ rfl rfl hl.1 rfl (lv_room (Nat.le_of_ble_eq_true rfl)) dX0_runAhead_23 ⟨Nat.le_of_ble_eq_true rfl, Nat.le_of_ble_eq_true rfl⟩) (fun r_2 hr_2 => ?_)
    subst hr_2
    refine kb_eq (tgt := 35) hx hb dX0_runAhead_26 (by decide) (fun c_3 => ?_) (fun c_3 => ?_)
    · refine lv_iload hx hb dX0_runAhead_35 (lv_at hl 4 rfl) ?_
      exact W.iret (v := nI i) hx hb hr (fun t9 ht9 hW9 => ⟨⟨_, rfl, congrArg nI (hv0.symm.trans (tk_f c_3)).symm⟩, ht9⟩) (fun q hq => absurd hq List.not_mem_nil) dX0_runAhead_37
    · refine lv_iinc (v := nI (i + 1)) (lv' := [(4, .int (nI (i + 1))), (0, .ref h0), (1, .int (nI t)), (2, .int (nI q)), (3, .int (nI k))]) hx hb dX0_runAhead_29 hl (k := 4) rfl (nI_add i 1) (by decide) rfl (fun ls hl => ?_)
      refine lv_goto (tgt := 3) hx hb dX0_runAhead_32 (by decide) ?_
      exact ih (i + 1) ls (by rw [← hv0]; exact (tk_t (P := fun j => rp nb v (t * 12 + j) q k) (i := i) c_3).symm) (by omega) (lv_sub hl [1, 2, 3, 4, 0] rfl)
set_option maxHeartbeats 4000000 in
set_option maxRecDepth 100000 in
theorem c_X0_runBack (l : Launch) (D : va_G) (h0 hn hd hq : Nat) (cZ cD cI : ClassId) (nb : Nat → Bool) (v : Nat → UInt64) (ln : Nat → Nat) (go : Bool) (mv : Int32) (hln : ∀ j, ln j ≤ 12) (t : Nat) (q : Nat) (k : Nat) (ht : t < 12) (hq1 : q < 165) (hk : k < 2147483648) : Met l yX0_runBack wsX0_runBack ({ frames := 1, cells := 0, slots := 0, locals := 27 }) (va_Pc [.ref h0, .int (nI t), .int (nI q), .int (nI k)] (fun U => va_P D vwCl (WB h0 hn hd hq cZ cD cI nb v ln go mv) U.heap ∧ va_K D vwCl (TY cZ cD cI) U)) (rd_Qi (fun r => r = nI (tk (fun j => !rp nb v (t * 12 + (ln t - 1 - j)) q k) (ln t) 0))) 0 0 (fun _ => False) := by
  refine Met.ofW (cc := cX0_runBack) (maxL := 6) (ret := some .int) (by decide) rfl ?_
  intro p e s m args below meth c s₁ B hml hv
  obtain ⟨rfl, hP, hK⟩ := hv
  have hx := B.exec
  have hb := B.bytes
  have hr := B.returns
  have hts := atoms_spec (ws := wsX0_runBack) B.pre
  have hown : s.vm.findClass RX0 = some m.cls := findClass_of_methodNamed B.named
  have hlocks := B.notSynchronized
  have hl := lv_entry ([.ref h0, .int (nI t), .int (nI q), .int (nI k)]) (n := 6) (Nat.le_of_ble_eq_true rfl)
  rw [lg_entry_eq]
  generalize (lg_sl ([.ref h0, .int (nI t), .int (nI q), .int (nI k)]) ++ List.replicate (6 - (lg_sl ([.ref h0, .int (nI t), .int (nI q), .int (nI k)])).length) Slot.unset).toArray = ls at hl ⊢
  have hl : lv_has ls 6 [(0, .ref h0), (1, .int (nI t)), (2, .int (nI q)), (3, .int (nI k))] := hl
  have hinRX0 : ∀ w ∈ wsX00, w ∈ wsX0_runBack := by decide +kernel
  have hf_17 := hts (.fieldLink RX0 17 "HarbourBoard" "lengths" "[I") (by decide +kernel)
  have h1 := hln t
  refine lv_aload_n hx hb dX0_runBack_0 rfl (lv_at hl 0 rfl) ?_
  refine va_get (D := D) (ci := 1) (v := .ref hq) (C := RX0) (T := TX0) (N := 5) hx hb hts hinRX0 hown hK hP 0 rfl rfl 2 (by decide) hf_17 (fun _ h9 => h9) rfl dX0_runBack_1 ?_
  refine lv_iload_n hx hb dX0_runBack_4 rfl (lv_at hl 1 rfl) ?_
  refine kn_iald hx hb hK hP 3 2 rfl rfl (by omega) (by decide) dX0_runBack_5 ?_
  refine lv_iconst (v := nI 1) hx hb dX0_runBack_6 (by decide) ?_
  refine lv_isub hx hb dX0_runBack_7 ?_
  refine lv_istore (lv' := [(4, .int ((nI (ln t)) - (nI 1))), (0, .ref h0), (1, .int (nI t)), (2, .int (nI q)), (3, .int (nI k))]) hx hb dX0_runBack_8 hl (by decide) rfl (fun ls hl => ?_)
  refine lv_iconst (v := nI 0) hx hb dX0_runBack_10 (by decide) ?_
  refine lv_istore (lv' := [(5, .int (nI 0)), (4, .int ((nI (ln t)) - (nI 1))), (0, .ref h0), (1, .int (nI t)), (2, .int (nI q)), (3, .int (nI k))]) hx hb dX0_runBack_11 hl (by decide) rfl (fun ls hl => ?_)
  refine (?_ : ∀ (k_ i : Nat) (ls : Array Slot), tk (fun j => !rp nb v (t * 12 + (ln t - 1 - j)) q k) k_ i = tk (fun j => !rp nb v (t * 12 + (ln t - 1 - j)) q k) (ln t) 0 → i + k_ = ln t → lv_has ls 6 [(0, .ref h0), (1, .int (nI t)), (2, .int (nI q)), (3, .int (nI k)), (4, .int (nI (ln t) - nI 1)), (5, .int (nI i))] → W p l e _ s m _ below meth c _ _ _ _ _ (F0 m 13 ls [])) (ln t) 0 ls rfl (by omega) (lv_sub hl [2, 3, 4, 5, 1, 0] rfl)
  clear hl
  intro k_
  induction k_ with
  | zero =>
    intro i ls hv0 hi hl
    refine lv_iload hx hb dX0_runBack_13 (lv_at hl 5 rfl) ?_
    refine lv_iload hx hb dX0_runBack_15 (lv_at hl 4 rfl) ?_
    refine lv_icmp_gt (tgt := 44) hx hb dX0_runBack_17 (by decide) (fun c_x => ?_) (fun h => absurd ((rb_gt (by omega) (by omega)).mpr (by omega)) h)
    refine lv_iload hx hb dX0_runBack_44 (lv_at hl 5 rfl) ?_
    exact W.iret (v := nI i) hx hb hr (fun t9 ht9 hW9 => ⟨⟨_, rfl, congrArg nI hv0⟩, ht9⟩) (fun q hq => absurd hq List.not_mem_nil) dX0_runBack_46
  | succ k_ ih =>
    intro i ls hv0 hi hl
    refine lv_iload hx hb dX0_runBack_13 (lv_at hl 5 rfl) ?_
    refine lv_iload hx hb dX0_runBack_15 (lv_at hl 4 rfl) ?_
    refine lv_icmp_gt (tgt := 44) hx hb dX0_runBack_17 (by decide) (fun h => absurd ((rb_gt (by omega) (by omega)).mp h) (by omega)) (fun c_x => ?_)
    refine lv_aload_n hx hb dX0_runBack_20 rfl (lv_at hl 0 rfl) ?_
    refine lv_iload_n hx hb dX0_runBack_21 rfl (lv_at hl 1 rfl) ?_
    refine lv_iload hx hb dX0_runBack_22 (lv_at hl 4 rfl) ?_
    refine lv_iload hx hb dX0_runBack_24 (lv_at hl 5 rfl) ?_
    refine lv_isub hx hb dX0_runBack_26 ?_
    refine kt_i (y := nI (ln t - 1 - i)) (rb_sub (by omega) (by omega)) ?_
    refine rd_calli (va_runS (As := [.int (nI t), .int (nI (ln t - 1 - i))]) (rest := [.ref h0]) ⟨hx, hb, hml, hown, hts⟩ (c_X0_stripPlace l t (ln t - 1 - i) ) (va_cwS 2 hts gX0_runBack_X0_stripPlace rfl rfl rfl (by decide +kernel) ⟨Nat.le_of_ble_eq_true rfl, Nat.le_of_ble_eq_true rfl⟩) ⟨fun a U g mk q => q, fun U hU hW => ⟨rfl, trivial⟩⟩ rfl rfl hl.1 rfl (lv_room (Nat.le_of_ble_eq_true rfl)) dX0_runBack_27 ⟨Nat.le_of_ble_eq_true rfl, Nat.le_of_ble_eq_true rfl⟩) (fun r_1 hr_1 => ?_)
    subst hr_1
    refine lv_iload_n hx hb dX0_runBack_30 rfl (lv_at hl 2 rfl) ?_
    refine lv_iload_n hx hb dX0_runBack_31 rfl (lv_at hl 3 rfl) ?_
    refine rd_calli (va_runV (As := [.int (nI (t * 12 + (ln t - 1 - i))), .int (nI q), .int (nI k)]) (rest := []) ⟨hx, hb, hml, hown, hts⟩ (c_X0_isRelated l D h0 hn hd hq cZ cD cI nb v ln go mv hln (t * 12 + (ln t - 1 - i)) q k (by omega) (by omega) (by omega)) (cwV 3 hts gX0_runBack_X0_isRelated rfl rfl rfl (by decide +kernel) ⟨Nat.le_of_ble_eq_true rfl, Nat.le_of_ble_eq_true rfl⟩) ⟨fun a U g mk q => ⟨q.1, q.2.1, va_K.moved (u := U) (U := U.calling g mk a) (Vm.Alike.refl U.vm) q.2.2⟩, va_recv hK hP (ci := 1) (q0 := 0) rfl rfl, fun U hU hW => ⟨rfl, by rw [hU]; exact hP, va_K.moved hW.alike hK⟩⟩ rfl rfl hl.1 rfl (lv_room (Nat.le_of_ble_eq_true rfl)) dX0_runBack_32 ⟨Nat.le_of_ble_eq_true rfl, Nat.le_of_ble_eq_true rfl⟩) (fun r_2 hr_2 => ?_)
    subst hr_2
    refine kb_ne (tgt := 44) hx hb dX0_runBack_35 (by decide) (fun c_3 => ?_) (fun c_3 => ?_)
    · refine lv_iload hx hb dX0_runBack_44 (lv_at hl 5 rfl) ?_
      exact W.iret (v := nI i) hx hb hr (fun t9 ht9 hW9 => ⟨⟨_, rfl, congrArg nI (hv0.symm.trans (tk_f (by simp [c_3]))).symm⟩, ht9⟩) (fun q hq => absurd hq List.not_mem_nil) dX0_runBack_46
    · refine lv_iinc (v := nI (i + 1)) (lv' := [(5, .int (nI (i + 1))), (0, .ref h0), (1, .int (nI t)), (2, .int (nI q)), (3, .int (nI k)), (4, .int (nI (ln t) - nI 1))]) hx hb dX0_runBack_38 hl (k := 5) rfl (nI_add i 1) (by decide) rfl (fun ls hl => ?_)
      refine lv_goto (tgt := 13) hx hb dX0_runBack_41 (by decide) ?_
      exact ih (i + 1) ls (by rw [← hv0]; exact (tk_t (by simp [c_3])).symm) (by omega) (lv_sub hl [1, 2, 3, 4, 5, 0] rfl)
end
section
/-! Throws: what they rest on, a row a class; writes: calls that change cells. -/
abbrev NM : List String := ["java/lang/RuntimeException", "java/lang/Exception"]
def xZ (A : Nat → Prop) (s : State) (H : Heap) : Prop := vx_Zq Bundle.tN "UNASSIGNED_STACK" Bundle.steD A s H ∧ vx_Zq Bundle.tN "SUPPRESSED_SENTINEL" Bundle.listD A s H
def xT (i : Nat) (tx : String) (s : State) : Prop := ∃ sa, vk_R RX0 i tx sa s
def xS (s : State) : Prop := xT 138 "no such gauge" s ∧ xT 148 "no such level" s ∧ xT 153 "the strip is full" s ∧ xT 151 "no such wind" s ∧ xT 140 "no such what" s ∧ xT 61 "no such mark of levels" s ∧ xT 73 "no such mark" s ∧ xT 142 "no such relation" s ∧ xT 111 "no such place in the order" s ∧ xT 178 "no number in the strip" s ∧ xT 129 "the gate is so already" s ∧ xT 157 "inside is not above outside" s ∧ xT 162 "the wind outside is not below its gale" s ∧ xT 165 "inside is above its low" s ∧ xT 167 "outside is at most the high of inside" s
def xC (E : String) (U : State) : Prop := (Cond.castable E E).before #[] U = true
theorem xC.of {E : String} {args : Array Value} {s : State} (h : (Cond.castable E E).before args s = true) : xC E s := va_any rfl h
theorem xC.word {E : String} {args : Array Value} {s : State} (h : xC E s) : (Cond.castable E E).before args s = true := va_any rfl h
theorem xC.moved {E : String} {u U : State} (hvm : u.vm.Alike U.vm) (h : xC E u) : xC E U := by
  have h1 : (Cond.castable E E).before #[] (u.setVm U.vm) = true := by
    rw [Cond.castable_setVm hvm]
    exact h
  have e := Cond.onTables_vm (A := #[]) (A' := #[]) (U := u) (U' := U) U.vm (Cond.castable E E) rfl
  have hU : U.setVm U.vm = U := rfl
  rw [hU] at e
  exact e.symm.trans h1
def xE (x : MethodName) (U : State) : Prop := (Cond.declares x).before #[] U = true
theorem xE.of {x : MethodName} {args : Array Value} {s : State} (h : (Cond.declares x).before args s = true) : xE x s := va_any rfl h
theorem xE.word {x : MethodName} {args : Array Value} {s : State} (h : xE x s) : (Cond.declares x).before args s = true := va_any rfl h
theorem xE.moved {x : MethodName} {u U : State} (hvm : u.vm.Alike U.vm) (h : xE x u) : xE x U := by
  have h1 : (Cond.declares x).before #[] (u.setVm U.vm) = true := by
    rw [Cond.declares_setVm hvm]
    exact h
  have e := Cond.onTables_vm (A := #[]) (A' := #[]) (U := u) (U' := U) U.vm (Cond.declares x) rfl
  have hU : U.setVm U.vm = U := rfl
  rw [hU] at e
  exact e.symm.trans h1
abbrev IAE : String := "java/lang/IllegalArgumentException"
abbrev ISE : String := "java/lang/IllegalStateException"
abbrev UOE : String := "java/lang/UnsupportedOperationException"
abbrev AE : String := "java/lang/ArithmeticException"
abbrev NSE : String := "java/util/NoSuchElementException"
def xDe (U : State) : Prop := xE (Bundle.initS "java/lang/RuntimeException") U ∧ xE (Bundle.initS "java/lang/Exception") U ∧ xE (Bundle.initS Bundle.tN) U
theorem xDe.moved {u U : State} (hvm : u.vm.Alike U.vm) (h : xDe u) : xDe U := ⟨h.1.moved hvm, h.2.1.moved hvm, h.2.2.moved hvm⟩
def xD (U : State) : Prop := xDe U ∧ xC IAE U ∧ xC ISE U ∧ xC UOE U ∧ xC AE U ∧ xC NSE U
theorem xD.moved {u U : State} (hvm : u.vm.Alike U.vm) (h : xD u) : xD U := ⟨h.1.moved hvm, h.2.1.moved hvm, h.2.2.1.moved hvm, h.2.2.2.1.moved hvm, h.2.2.2.2.1.moved hvm, h.2.2.2.2.2.moved hvm⟩
abbrev xB (E : String) : List Cond := [.castable E E, .declares (Bundle.initS "java/lang/RuntimeException"), .declares (Bundle.initS "java/lang/Exception"), .declares (Bundle.initS Bundle.tN)]
def xOK (U : State) : Prop := xZ (fun _ => False) U U.heap ∧ xS U ∧ xD U
theorem xT.warm {i : Nat} {tx : String} {s U : State} (hW : s.WarmedH U.vm) (h : xT i tx s) : xT i tx U := h.elim fun sa q => ⟨sa, vk_R.warm hW q⟩
theorem xT.same {i : Nat} {tx : String} {s U : State} (hv : U.vm = s.vm) (h : xT i tx s) : xT i tx U := h.elim fun sa q => ⟨sa, vk_R.same hv q⟩
theorem xS.warm {s U : State} (hW : s.WarmedH U.vm) (h : xS s) : xS U := by
  obtain ⟨h0, h1, h2, h3, h4, h5, h6, h7, h8, h9, h10, h11, h12, h13, h14⟩ := h
  exact ⟨xT.warm hW h0, xT.warm hW h1, xT.warm hW h2, xT.warm hW h3, xT.warm hW h4, xT.warm hW h5, xT.warm hW h6, xT.warm hW h7, xT.warm hW h8, xT.warm hW h9, xT.warm hW h10, xT.warm hW h11, xT.warm hW h12, xT.warm hW h13, xT.warm hW h14⟩
theorem xS.same {s U : State} (hv : U.vm = s.vm) (h : xS s) : xS U := by
  obtain ⟨h0, h1, h2, h3, h4, h5, h6, h7, h8, h9, h10, h11, h12, h13, h14⟩ := h
  exact ⟨xT.same hv h0, xT.same hv h1, xT.same hv h2, xT.same hv h3, xT.same hv h4, xT.same hv h5, xT.same hv h6, xT.same hv h7, xT.same hv h8, xT.same hv h9, xT.same hv h10, xT.same hv h11, xT.same hv h12, xT.same hv h13, xT.same hv h14⟩
theorem xS_138 {s : State} (h : xS s) : xT 138 "no such gauge" s := h.1
theorem xS_148 {s : State} (h : xS s) : xT 148 "no such level" s := h.2.1
theorem xS_153 {s : State} (h : xS s) : xT 153 "the strip is full" s := h.2.2.1
theorem xS_151 {s : State} (h : xS s) : xT 151 "no such wind" s := h.2.2.2.1
theorem xS_140 {s : State} (h : xS s) : xT 140 "no such what" s := h.2.2.2.2.1
theorem xS_61 {s : State} (h : xS s) : xT 61 "no such mark of levels" s := h.2.2.2.2.2.1
theorem xS_73 {s : State} (h : xS s) : xT 73 "no such mark" s := h.2.2.2.2.2.2.1
theorem xS_142 {s : State} (h : xS s) : xT 142 "no such relation" s := h.2.2.2.2.2.2.2.1
theorem xS_111 {s : State} (h : xS s) : xT 111 "no such place in the order" s := h.2.2.2.2.2.2.2.2.1
theorem xS_178 {s : State} (h : xS s) : xT 178 "no number in the strip" s := h.2.2.2.2.2.2.2.2.2.1
theorem xS_129 {s : State} (h : xS s) : xT 129 "the gate is so already" s := h.2.2.2.2.2.2.2.2.2.2.1
theorem xS_157 {s : State} (h : xS s) : xT 157 "inside is not above outside" s := h.2.2.2.2.2.2.2.2.2.2.2.1
theorem xS_162 {s : State} (h : xS s) : xT 162 "the wind outside is not below its gale" s := h.2.2.2.2.2.2.2.2.2.2.2.2.1
theorem xS_165 {s : State} (h : xS s) : xT 165 "inside is above its low" s := h.2.2.2.2.2.2.2.2.2.2.2.2.2.1
theorem xS_167 {s : State} (h : xS s) : xT 167 "outside is at most the high of inside" s := h.2.2.2.2.2.2.2.2.2.2.2.2.2.2
theorem xOK_call {U : State} (h : xOK U) (g : JFrame) (mk : MethodId) (a : Array Value) : xOK (U.calling g mk a) :=
  ⟨⟨vx_Zq.moved (u := U) (U := U.calling g mk a) (Vm.Alike.refl U.vm) h.1.1, vx_Zq.moved (u := U) (U := U.calling g mk a) (Vm.Alike.refl U.vm) h.1.2⟩, xS.same (U := U.calling g mk a) (s := U) rfl h.2.1, xD.moved (u := U) (U := U.calling g mk a) (Vm.Alike.refl U.vm) h.2.2⟩
theorem xOK_to {s U : State} {A : Nat → Prop} {H : Heap} (hz : xZ A s H) (hs : xS s) (hd : xD s) (hU : U.heap = H) (hW : s.WarmedH U.vm) : xOK U := by
  subst hU
  exact ⟨⟨(vx_Zq.moved hW.alike hz.1).narrow (fun _ h => h.elim), (vx_Zq.moved hW.alike hz.2).narrow (fun _ h => h.elim)⟩, xS.warm hW hs, hd.moved hW.alike⟩
theorem xOK_at {s U : State} (h : xOK s) (hU : U.heap = s.heap) (hW : s.WarmedH U.vm) : xOK U := xOK_to h.1 h.2.1 h.2.2 hU hW
theorem xn_IAE : ∀ w ∈ (vx_atS RX0 63 IAE NM).filter (fun w => !goodWord w), w ∈ xB IAE := by decide +kernel
theorem xg_IAE : ∀ w ∈ Cond.classLink RX0 59 IAE :: Cond.initialized IAE :: vx_atS RX0 63 IAE NM, vx_ot w = true := by decide +kernel
theorem xn_ISE : ∀ w ∈ (vx_atS RX0 131 ISE NM).filter (fun w => !goodWord w), w ∈ xB ISE := by decide +kernel
theorem xg_ISE : ∀ w ∈ Cond.classLink RX0 127 ISE :: Cond.initialized ISE :: vx_atS RX0 131 ISE NM, vx_ot w = true := by decide +kernel
theorem xn_UOE : ∀ w ∈ (vx_atS RX0 159 UOE NM).filter (fun w => !goodWord w), w ∈ xB UOE := by decide +kernel
theorem xg_UOE : ∀ w ∈ Cond.classLink RX0 155 UOE :: Cond.initialized UOE :: vx_atS RX0 159 UOE NM, vx_ot w = true := by decide +kernel
theorem xn_AE : ∀ w ∈ (vx_atS RX0 164 AE NM).filter (fun w => !goodWord w), w ∈ xB AE := by decide +kernel
theorem xg_AE : ∀ w ∈ Cond.classLink RX0 160 AE :: Cond.initialized AE :: vx_atS RX0 164 AE NM, vx_ot w = true := by decide +kernel
theorem xn_NSE : ∀ w ∈ cy_at.filter (fun w => !goodWord w), w ∈ xB NSE := by decide +kernel
theorem xg_NSE : ∀ w ∈ Cond.classLink RX0 176 NSE :: Cond.initialized NSE :: cy_at, vx_ot w = true := by decide +kernel
theorem cy_d0 : decode prog_14_method_4_code 0 = .ok (.aload_n 0, 1) := by decide +kernel
theorem cy_d1 : decode prog_14_method_4_code 1 = .ok (.aload_n 1, 1) := by decide +kernel
theorem cy_d2 : decode prog_14_method_4_code 2 = .ok (.invokespecial 13, 3) := by decide +kernel
theorem cy_d5 : decode prog_14_method_4_code 5 = .ok (.return_, 1) := by decide +kernel
section TH
variable {p : Program} {l : Launch} {e : Env} {R : Room} {s : State} {m : MethodId} {args : Array Value} {below : List Frame} {meth : Method} {c : Code} {cells slots : Nat}
variable {cc : ByteArray} {pc ik is ic mc ms : Nat} {ls : Array Slot} {rest : List Value} {px : String → Prop} {Qc : Array Value → State → Outcome → State → Prop} {free : Addr → Prop} {cls text : String}
theorem th_S (hx : p.tables.exec = Jvm.exec) (hb : c.code = cc) (hl0 : l.stackTraces = false) (hown : s.vm.findClass RX0 = some m.cls) (hcls : Bundle.fit cls = true) (hk : (Cond.classLink RX0 ik cls).before args s = true) (hini : (Cond.initialized cls).before args s = true) (hstr : xT is text s) (hg1 : ∀ w ∈ (vx_atS RX0 ic cls NM).filter goodWord, w.before args s = true) (hg2 : ∀ w ∈ (vx_atS RX0 ic cls NM).filter (fun w => !goodWord w), w ∈ xB cls) (hC : xC cls s)
    (hgood : ∀ w ∈ Cond.classLink RX0 ik cls :: Cond.initialized cls :: vx_atS RX0 ic cls NM, vx_ot w = true) (hX : xOK s) (hsize : ls.size = c.maxLocals)
    (d0 : decode cc pc = .ok (.new ik, 3)) (d3 : decode cc (pc + 3) = .ok (.dup, 1)) (d4 : decode cc (pc + 4) = .ok (.ldc is, 2)) (d6 : decode cc (pc + 6) = .ok (.invokespecial ic, 3)) (d9 : decode cc (pc + 9) = .ok (.athrow, 1))
    (hno : ∀ x ∈ c.exceptionTable.toList, False) (hRf : 6 ≤ R.frames) (hRl : (rest.map fun v => v.category).sum + 82 ≤ R.locals) (hRc : cells + 1 ≤ R.cells) (hRs : slots + 6 ≤ R.slots) (hlocks : meth.locks = false) (hpx : px cls) (hc : cells + 1 ≤ mc) (hs : slots + 6 ≤ ms) :
    W p l e R s m args below meth c s.heap [] cells slots (vx_MQ below Qc (rd_X px) args s mc ms free) (F0 m pc ls rest) := by
  obtain ⟨sa, hstr⟩ := hstr
  exact vx_throwS (A := fun _ => False) hx hb hl0 hown hcls (by decide +kernel : ∀ n ∈ NM, Bundle.fit n = true) hk hini hstr (vx_hat hg1 hg2 (vx_c (xC.word hC) (vx_c (xE.word hX.2.2.1.1) (vx_c (xE.word hX.2.2.1.2.1) (vx_c (xE.word hX.2.2.1.2.2) vx_n))))) hgood hX.1.1 hX.1.2 va_S.rf hsize d0 d3 d4 d6 d9 (fun x hx => (hno x hx).elim) (by show 2 + 3 < R.frames; omega) (by show _ + (13 * (2 + 1) + 43) ≤ R.locals; omega) hRc hRs hlocks (fun t _ h1 h2 => ⟨hpx, h1, fun q hq _ => h2 q hq⟩) (fun z hz => absurd hz List.not_mem_nil) hc hs
theorem th_Y (hx : p.tables.exec = Jvm.exec) (hb : c.code = cc) (hl0 : l.stackTraces = false) (hown : s.vm.findClass RX0 = some m.cls) (hcls : Bundle.fit NSE = true) (hk : (Cond.classLink RX0 ik NSE).before args s = true) (hini : (Cond.initialized NSE).before args s = true) (hstr : xT is text s) (hg1 : ∀ w ∈ (cy_at).filter goodWord, w.before args s = true) (hg2 : ∀ w ∈ (cy_at).filter (fun w => !goodWord w), w ∈ xB NSE) (hC : xC NSE s)
    (hgood : ∀ w ∈ Cond.classLink RX0 ik NSE :: Cond.initialized NSE :: cy_at, vx_ot w = true) (hX : xOK s) (hsize : ls.size = c.maxLocals)
    (d0 : decode cc pc = .ok (.new ik, 3)) (d3 : decode cc (pc + 3) = .ok (.dup, 1)) (d4 : decode cc (pc + 4) = .ok (.ldc is, 2)) (d6 : decode cc (pc + 6) = .ok (.invokespecial 180, 3)) (d9 : decode cc (pc + 9) = .ok (.athrow, 1))
    (hno : ∀ x ∈ c.exceptionTable.toList, False) (hRf : 6 ≤ R.frames) (hRl : (rest.map fun v => v.category).sum + 82 ≤ R.locals) (hRc : cells + 1 ≤ R.cells) (hRs : slots + 6 ≤ R.slots) (hlocks : meth.locks = false) (hpx : px NSE) (hc : cells + 1 ≤ mc) (hs : slots + 6 ≤ ms) :
    W p l e R s m args below meth c s.heap [] cells slots (vx_MQ below Qc (rd_X px) args s mc ms free) (F0 m pc ls rest) := by
  obtain ⟨sa, hstr⟩ := hstr
  exact cy_throwS (A := fun _ => False) hx hb hl0 cy_d0 cy_d1 cy_d2 cy_d5 hown hcls (by decide +kernel : ∀ n ∈ NM, Bundle.fit n = true) hk hini hstr (vx_hat hg1 hg2 (vx_c (xC.word hC) (vx_c (xE.word hX.2.2.1.1) (vx_c (xE.word hX.2.2.1.2.1) (vx_c (xE.word hX.2.2.1.2.2) vx_n))))) hgood hX.1.1 hX.1.2 va_S.rf hsize d0 d3 d4 d6 d9 (fun x hx => (hno x hx).elim) (by show 2 + 3 < R.frames; omega) (by show _ + (13 * (2 + 1) + 43) ≤ R.locals; omega) hRc hRs hlocks (fun t _ h1 h2 => ⟨hpx, h1, fun q hq _ => h2 q hq⟩) (fun z hz => absurd hz List.not_mem_nil) hc hs
end TH
def InN (n : Nat) (x : Int32) : Prop := ∃ g : Nat, g < n ∧ x = nI g
theorem in_of {x : Int32} {n : Nat} (hn : n < 2147483648) (h0 : ¬ x < 0) (h : x < nI n) : InN n x := by
  obtain ⟨j, hj, rfl⟩ := nI_of h0
  exact ⟨j, (nI_ltI hj hn).mp h, rfl⟩
theorem in_neg {x : Int32} {n : Nat} (hn : n < 2147483648) (h : x < 0) : ¬ InN n x := by
  rintro ⟨g, hg, rfl⟩
  exact nI_pos (Nat.lt_trans hg hn) h
theorem in_big {x : Int32} {n : Nat} (hn : n < 2147483648) (h : ¬ x < nI n) : ¬ InN n x := by
  rintro ⟨g, hg, rfl⟩
  exact h (nI_lt hg hn)
/-- levels, winds -/
def lvl (x : UInt64) : Bool := oGe (FP.dcmp x 13875379345695965184) && oLe (FP.dcmp x 4652007308841189376)
def wnd (x : UInt32) : Bool := oGe (FP.fcmp x FP.fconst0) && oLe (FP.fcmp x 1128792064)
/-! ## calls that write -/
def wr_Qi (post : Int32 → Prop) (B : Heap → Prop) (A : Nat → Prop) : Array Value → State → Outcome → State → Prop := fun _ st oc t => (∃ r : Int32, oc = .returned (some (.int r)) ∧ post r ∧ B t.heap) ∧ va_F A st t
def wr_Qv (B : Heap → Prop) (A : Nat → Prop) : Array Value → State → Outcome → State → Prop := fun _ st oc t => (oc = .returned none ∧ B t.heap) ∧ va_F A st t
def wr_Qd (post : UInt64 → Prop) (B : Heap → Prop) (A : Nat → Prop) : Array Value → State → Outcome → State → Prop := fun _ st oc t => (∃ r : UInt64, oc = .returned (some (.double r)) ∧ post r ∧ B t.heap) ∧ va_F A st t
def wr_Qf (post : UInt32 → Prop) (B : Heap → Prop) (A : Nat → Prop) : Array Value → State → Outcome → State → Prop := fun _ st oc t => (∃ r : UInt32, oc = .returned (some (.float r)) ∧ post r ∧ B t.heap) ∧ va_F A st t
theorem va_D_same {A : Nat → Prop} {ws ws' : va_W} (h : ws.map Prod.fst = ws'.map Prod.fst) (hD : va_D A ws) : va_D A ws' := by
  have key : ∀ (k : Nat) (q : Nat × va_E), ws'[k]? = some q → ∃ q', ws[k]? = some q' ∧ q'.1 = q.1 := by
    intro k q hq
    have h1 : (ws'.map Prod.fst)[k]? = some q.1 := by rw [List.getElem?_map, hq]; rfl
    rw [← h, List.getElem?_map] at h1
    cases hw : ws[k]? with
    | none => rw [hw] at h1; cases h1
    | some q' => rw [hw] at h1; exact ⟨q', rfl, Option.some.inj h1⟩
  refine ⟨fun i j p q hp hq e => ?_, fun k q hq => ?_⟩
  · obtain ⟨p', h1, e1⟩ := key i p hp
    obtain ⟨q', h2, e2⟩ := key j q hq
    exact hD.1 i j p' q' h1 h2 (by rw [e1, e2, e])
  · obtain ⟨q', h1, e1⟩ := key k q hq
    rw [← e1]; exact hD.2 k q' h1
section WR
variable {p : Program} {l : Launch} {e : Env} {R : Room} {s : State} {m : MethodId} {args : Array Value} {below : List Frame} {meth : Method} {c : Code} {H : Heap} {locs : List Loc} {cells slots : Nat} {Q : State → Prop}
variable {pc mc ms mc' ms' : Nat} {ls : Array Slot} {rest st0 : List Value} {a : Array Value} {px px' : String → Prop} {Qc : Array Value → State → Outcome → State → Prop} {B : Heap → Prop} {A A1 : Nat → Prop}
theorem wr_calli {post : Int32 → Prop} (hr : va_Run p l e R s m args below meth c H locs cells slots mc ms (F0 m pc ls st0) rest (wr_Qi post B A1 a) A1) (hS : va_S A s.heap H locs) (hF : ∀ q, A1 q → A q)
    (kk : ∀ (r : Int32) (H1 : Heap) (locs1 : List Loc), post r → B H1 → H.size ≤ H1.size → (∀ q : Nat, q < H.size → ¬ A1 q → H1[q]? = H[q]?) → va_S A s.heap H1 locs1 → W p l e R s m args below meth c H1 locs1 (cells + mc) (slots + ms) Q (F0 m (pc + 3) ls (.int r :: rest))) : W p l e R s m args below meth c H locs cells slots Q (F0 m pc ls st0) := by
  intro T hT X
  obtain ⟨v, st₀, t, T', L, h0, X', hL, e1, e2, ⟨⟨r, hv, hp, hb⟩, hz, hk⟩, st⟩ := hr T hT X
  cases hv
  rw [h0] at hz hk
  obtain ⟨t2, a1, b1⟩ := kk r T'.heap (locs ++ L) hp (by rw [e1]; exact hb) (by rw [e1]; exact hz) (fun q h1 h2 => by rw [e1]; exact hk q h1 h2)
    ⟨Nat.le_trans hS.1 (by rw [e1]; exact hz), fun q h1 h2 => by rw [e1, hk q (Nat.lt_of_lt_of_le h1 hS.1) (fun z => h2 (hF q z))]; exact hS.2.1 q h1 h2, fun q hq => by
      rcases List.mem_append.mp hq with h | h
      · exact hS.2.2 q h
      · exact hF _ (hL q h)⟩ T' rfl X'
  exact ⟨t2, st t2 a1, b1⟩
theorem wr_calld {post : UInt64 → Prop} (hr : va_Run p l e R s m args below meth c H locs cells slots mc ms (F0 m pc ls st0) rest (wr_Qd post B A1 a) A1) (hS : va_S A s.heap H locs) (hF : ∀ q, A1 q → A q)
    (kk : ∀ (r : UInt64) (H1 : Heap) (locs1 : List Loc), post r → B H1 → H.size ≤ H1.size → (∀ q : Nat, q < H.size → ¬ A1 q → H1[q]? = H[q]?) → va_S A s.heap H1 locs1 → W p l e R s m args below meth c H1 locs1 (cells + mc) (slots + ms) Q (F0 m (pc + 3) ls (.double r :: rest))) : W p l e R s m args below meth c H locs cells slots Q (F0 m pc ls st0) := by
  intro T hT X
  obtain ⟨v, st₀, t, T', L, h0, X', hL, e1, e2, ⟨⟨r, hv, hp, hb⟩, hz, hk⟩, st⟩ := hr T hT X
  cases hv
  rw [h0] at hz hk
  obtain ⟨t2, a1, b1⟩ := kk r T'.heap (locs ++ L) hp (by rw [e1]; exact hb) (by rw [e1]; exact hz) (fun q h1 h2 => by rw [e1]; exact hk q h1 h2)
    ⟨Nat.le_trans hS.1 (by rw [e1]; exact hz), fun q h1 h2 => by rw [e1, hk q (Nat.lt_of_lt_of_le h1 hS.1) (fun z => h2 (hF q z))]; exact hS.2.1 q h1 h2, fun q hq => by
      rcases List.mem_append.mp hq with h | h
      · exact hS.2.2 q h
      · exact hF _ (hL q h)⟩ T' rfl X'
  exact ⟨t2, st t2 a1, b1⟩
theorem wr_callf {post : UInt32 → Prop} (hr : va_Run p l e R s m args below meth c H locs cells slots mc ms (F0 m pc ls st0) rest (wr_Qf post B A1 a) A1) (hS : va_S A s.heap H locs) (hF : ∀ q, A1 q → A q)
    (kk : ∀ (r : UInt32) (H1 : Heap) (locs1 : List Loc), post r → B H1 → H.size ≤ H1.size → (∀ q : Nat, q < H.size → ¬ A1 q → H1[q]? = H[q]?) → va_S A s.heap H1 locs1 → W p l e R s m args below meth c H1 locs1 (cells + mc) (slots + ms) Q (F0 m (pc + 3) ls (.float r :: rest))) : W p l e R s m args below meth c H locs cells slots Q (F0 m pc ls st0) := by
  intro T hT X
  obtain ⟨v, st₀, t, T', L, h0, X', hL, e1, e2, ⟨⟨r, hv, hp, hb⟩, hz, hk⟩, st⟩ := hr T hT X
  cases hv
  rw [h0] at hz hk
  obtain ⟨t2, a1, b1⟩ := kk r T'.heap (locs ++ L) hp (by rw [e1]; exact hb) (by rw [e1]; exact hz) (fun q h1 h2 => by rw [e1]; exact hk q h1 h2)
    ⟨Nat.le_trans hS.1 (by rw [e1]; exact hz), fun q h1 h2 => by rw [e1, hk q (Nat.lt_of_lt_of_le h1 hS.1) (fun z => h2 (hF q z))]; exact hS.2.1 q h1 h2, fun q hq => by
      rcases List.mem_append.mp hq with h | h
      · exact hS.2.2 q h
      · exact hF _ (hL q h)⟩ T' rfl X'
  exact ⟨t2, st t2 a1, b1⟩
theorem wr_callv (hr : va_Run p l e R s m args below meth c H locs cells slots mc ms (F0 m pc ls st0) rest (wr_Qv B A1 a) A1) (hS : va_S A s.heap H locs) (hF : ∀ q, A1 q → A q)
    (kk : ∀ (H1 : Heap) (locs1 : List Loc), B H1 → H.size ≤ H1.size → (∀ q : Nat, q < H.size → ¬ A1 q → H1[q]? = H[q]?) → va_S A s.heap H1 locs1 → W p l e R s m args below meth c H1 locs1 (cells + mc) (slots + ms) Q (F0 m (pc + 3) ls rest)) : W p l e R s m args below meth c H locs cells slots Q (F0 m pc ls st0) := by
  intro T hT X
  obtain ⟨v, st₀, t, T', L, h0, X', hL, e1, e2, ⟨⟨hv, hb⟩, hz, hk⟩, st⟩ := hr T hT X
  cases hv
  rw [h0] at hz hk
  obtain ⟨t2, a1, b1⟩ := kk T'.heap (locs ++ L) (by rw [e1]; exact hb) (by rw [e1]; exact hz) (fun q h1 h2 => by rw [e1]; exact hk q h1 h2)
    ⟨Nat.le_trans hS.1 (by rw [e1]; exact hz), fun q h1 h2 => by rw [e1, hk q (Nat.lt_of_lt_of_le h1 hS.1) (fun z => h2 (hF q z))]; exact hS.2.1 q h1 h2, fun q hq => by
      rcases List.mem_append.mp hq with h | h
      · exact hS.2.2 q h
      · exact hF _ (hL q h)⟩ T' rfl X'
  exact ⟨t2, st t2 a1, b1⟩
/-- a call that may throw, else writes; ahead of all other writes, in a method without handlers -/
theorem kxw_calli {post : Int32 → Prop} (hr : vx_Run p l e R s m args below meth c s.heap [] cells slots mc ms (F0 m pc ls st0) rest (wr_Qi post B A1 a) (rd_X px) A1) (hno : ∀ x ∈ c.exceptionTable.toList, False) (hlocks : meth.locks = false) (hF : ∀ q, A1 q → A q) (hpx : ∀ E, px E → px' E) (hc : cells + mc ≤ mc') (hs : slots + ms ≤ ms')
    (kk : ∀ (r : Int32) (H1 : Heap) (locs1 : List Loc), post r → B H1 → va_S A s.heap H1 locs1 → W p l e R s m args below meth c H1 locs1 (cells + mc) (slots + ms) (vx_MQ below Qc (rd_X px') args s mc' ms' A) (F0 m (pc + 3) ls (.int r :: rest))) : W p l e R s m args below meth c s.heap [] cells slots (vx_MQ below Qc (rd_X px') args s mc' ms' A) (F0 m pc ls st0) := by
  intro T hT X
  rcases hr T hT X with ⟨v, st₀, t, T', L, h0, X', hL, e1, e2, ⟨⟨r, hv, hp, hb⟩, hz, hk⟩, st⟩ | ⟨q, st₀, t, T', L, E, ce, h0, X', hL, e1, e2, ⟨hp, hF2⟩, hce, hcv, hcl, st⟩
  · cases hv
    rw [h0] at hz hk
    obtain ⟨t2, a1, b1⟩ := kk r T'.heap ([] ++ L) hp (by rw [e1]; exact hb) ⟨by rw [e1]; exact hz, fun q h1 h2 => by rw [e1]; exact hk q h1 (fun z => h2 (hF q z)), fun q hq => hF _ (hL q (by simpa using hq))⟩ T' rfl X'
    exact ⟨t2, st t2 a1, b1⟩
  · obtain ⟨t2, a1, b1⟩ := (vx_out (Qc := Qc) (XC := rd_X px') (free := A) (H := T'.heap) (pc := pc) (ls := ls) (rest := rest) (fun x hx => (hno x hx).elim) hlocks (by rw [e1]; exact hce) hcv hcl (fun t9 ht9 _ => ⟨hpx E hp, by rw [ht9, e1]; unfold va_F at hF2; rw [h0] at hF2; exact hF2.1, by rw [ht9, e1]; unfold va_F at hF2; rw [h0] at hF2; exact hF2.2⟩) (fun z hz => hF _ (hL z (by simpa using hz))) hc hs : vx_W p l e R s m args below meth c T'.heap ([] ++ L) (cells + mc) (slots + ms) (vx_MQ below Qc (rd_X px') args s mc' ms' A) (F0 m pc ls rest) q) T' rfl X'
    exact ⟨t2, st.trans a1, b1⟩
end WR
theorem met_of_vx {l : Launch} {y : MethodName} {ws : List Cond} {rm : Room} {Pc : Array Value → State → Prop} {Qc : Array Value → State → Outcome → State → Prop} {mc ms : Nat} {free : Addr → Prop} (h : vx_Met l y ws rm Pc Qc (fun _ _ _ => False) mc ms free) : Met l y ws rm Pc Qc mc ms free := by
  intro p e ha hc hk s m args below hf happ hP hK
  obtain ⟨n, o, h1, h2, h3, h4⟩ := h p e ha hc hk s m args below hf happ hP hK
  refine ⟨n, o, h1, h2, h3, ?_⟩
  rcases h4 with h4 | ⟨q, -, E, ce, L, h5, -⟩
  · exact h4
  · exact h5.elim
end
