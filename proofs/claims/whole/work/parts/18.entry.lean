def R_law : String := "HarbourBoardLaw"
def lw_P (b : Addr) (xs : List Int32) (args : Array Value) (s : State) : Prop := args = #[.ref b] ∧ s.IntsAt b xs ∧ xs.length ≤ 2560 ∧ (Jvm.Cond.and given_1 narrow_1).before args s = true
/-- what a walk over the start with the record d0 says of its end, said of the start itself -/
theorem lw_closed {s t : State} {o : Outcome} {d0 : Drawn} {L : List Loc} {k n : Nat} (hd0 : s.drawn.sameBut d0 lw_cs) (hv : ∃ v, o = .returned v) (hW : (s.setDrawn d0).WarmedH t.vm) (hs : (s.setDrawn d0).sameButNew ({ t with vm := s.vm } : State) L k n) : State.butDraws s t lw_cs (fun t1 => Framed s o t1 L k n) := by
  have h2 : t.drawn = d0 := congrArg State.drawn hs.1
  refine ⟨⟨hv, hW, State.sameButNew.setDrawn hs s.drawn⟩, ?_, by decide⟩
  rw [h2]
  exact hd0
def lw_Q (_ : Array Value) (s : State) (o : Outcome) (t : State) : Prop := o = .returned (some (.int 1)) ∧ State.butDraws s t lw_cs (fun t1 => Framed s o t1 [] 3101 21269)
def lw_Z (below : List Frame) (a : Array Value) (s : State) : State → Prop := fun t => ∃ o, t.status = .running ∧ Ended t below o ∧ lw_Q a s o t
/-- the law's own end, with 1 on the stack, nothing written that was there before, its room as the claim has it; d0: the record of draws at this point (at the entry s.drawn: begin with 'refine W.base ?_' and 'have hd0 := Drawn.sameBut.refl s.drawn lw_cs') -/
theorem lw_ret {p : Program} {l : Launch} {e : Env} {s : State} {m : MethodId} {below : List Frame} {meth : Method} {c : Code} {b : Nat} {d0 : Drawn} (hd0 : s.drawn.sameBut d0 lw_cs) (hx : p.tables.exec = Jvm.exec) (hb : c.code = code) (hr : meth.sig.returnType = ret) (hlocks : meth.locks = false) {pc : Nat} {H : Heap} {ls : Array Slot} (hdg : decode code pc = .ok (.ireturn, 1)) : W p l e room_1 (s.setDrawn d0) m #[Value.ref b] below meth c H [] 3101 21269 (lw_Z below #[Value.ref b] s) (F0 m pc ls [.int 1]) := by
  intro T hT X
  obtain ⟨fs, hret, hrun, hended, hW, hframe⟩ := X.leave (v := some (.int 1)) (hlocks := hlocks) (fun h => by rw [hr] at h; cases h)
  have hmeth' : T.vm.method? m = some meth := X.method'
  refine ⟨T.setFrames fs, ?_, .returned (some (.int 1)), hrun, hended, rfl, lw_closed hd0 ⟨_, rfl⟩ hW hframe⟩
  jvm_step X.here [X.here.top, hx, hb, hdg, hmeth', hr, ret, narrow_b1]
  (try refine ⟨rfl, ?_⟩); (try refine ⟨rfl, ?_⟩)
  first | (intro acts; rw [hret _ acts rfl rfl rfl]) | rw [hret _ _ rfl rfl rfl]
  exact Steps.refl _
/-- what holds at the law's entry: the machine, the code, the tables' words (any of lw_tbl by 'hts w (by decide +kernel)'), the script of L ints xs at the cell b, what the Statement gives of the start (any of its parts by flat_of_before) -/
def lw_At (p : Program) (s : State) (m : MethodId) (meth : Method) (c : Code) (b L : Nat) (xs : Nat → Int32) : Prop :=
  p.tables.exec = Jvm.exec ∧ c.code = code ∧ meth.sig.returnType = ret ∧ c.maxLocals = 9 ∧ s.vm.findClass R_law = some m.cls ∧ (∀ w ∈ lw_tbl, w.before #[Value.ref b] s = true) ∧ va_X b L xs s s.heap ∧ b < s.heap.size ∧ meth.locks = false ∧ (Jvm.Cond.and given_1 narrow_1).before #[Value.ref b] s = true
/-! What holds at the law's entry. -/
theorem xT_of {i : Nat} {tx : String} {args : Array Value} {s : State} (h1 : (Cond.stringRef RX0 i tx).before args s = true) (h2 : (Cond.exactly (.string RX0 i) "java/lang/String").before args s = true) : xT i tx s := by
  obtain ⟨a, c, cell, k, q1, -⟩ := Cond.exactly_spec h2
  exact ⟨a, vk_R.of h1 q1⟩
theorem law_xS {args : Array Value} {s : State} (hts : ∀ w ∈ lw_tbl, w.before args s = true) (hgv : (Jvm.Cond.and given_1 narrow_1).before args s = true) : xS s :=
  have hs := flat_of_before _ hgv
  ⟨xT_of (hts (.stringRef RX0 138 "no such gauge") (by decide +kernel)) (hs (.exactly (.string RX0 138) "java/lang/String") (by decide +kernel)), xT_of (hts (.stringRef RX0 148 "no such level") (by decide +kernel)) (hs (.exactly (.string RX0 148) "java/lang/String") (by decide +kernel)), xT_of (hts (.stringRef RX0 153 "the strip is full") (by decide +kernel)) (hs (.exactly (.string RX0 153) "java/lang/String") (by decide +kernel)), xT_of (hts (.stringRef RX0 151 "no such wind") (by decide +kernel)) (hs (.exactly (.string RX0 151) "java/lang/String") (by decide +kernel)), xT_of (hts (.stringRef RX0 140 "no such what") (by decide +kernel)) (hs (.exactly (.string RX0 140) "java/lang/String") (by decide +kernel)), xT_of (hts (.stringRef RX0 61 "no such mark of levels") (by decide +kernel)) (hs (.exactly (.string RX0 61) "java/lang/String") (by decide +kernel)), xT_of (hts (.stringRef RX0 73 "no such mark") (by decide +kernel)) (hs (.exactly (.string RX0 73) "java/lang/String") (by decide +kernel)), xT_of (hts (.stringRef RX0 142 "no such relation") (by decide +kernel)) (hs (.exactly (.string RX0 142) "java/lang/String") (by decide +kernel)), xT_of (hts (.stringRef RX0 111 "no such place in the order") (by decide +kernel)) (hs (.exactly (.string RX0 111) "java/lang/String") (by decide +kernel)), xT_of (hts (.stringRef RX0 178 "no number in the strip") (by decide +kernel)) (hs (.exactly (.string RX0 178) "java/lang/String") (by decide +kernel)), xT_of (hts (.stringRef RX0 129 "the gate is so already") (by decide +kernel)) (hs (.exactly (.string RX0 129) "java/lang/String") (by decide +kernel)), xT_of (hts (.stringRef RX0 157 "inside is not above outside") (by decide +kernel)) (hs (.exactly (.string RX0 157) "java/lang/String") (by decide +kernel)), xT_of (hts (.stringRef RX0 162 "the wind outside is not below its gale") (by decide +kernel)) (hs (.exactly (.string RX0 162) "java/lang/String") (by decide +kernel)), xT_of (hts (.stringRef RX0 165 "inside is above its low") (by decide +kernel)) (hs (.exactly (.string RX0 165) "java/lang/String") (by decide +kernel)), xT_of (hts (.stringRef RX0 167 "outside is at most the high of inside") (by decide +kernel)) (hs (.exactly (.string RX0 167) "java/lang/String") (by decide +kernel))⟩
theorem law_xD {args : Array Value} {s : State} (hts : ∀ w ∈ lw_tbl, w.before args s = true) : xD s :=
  ⟨⟨xE.of (hts (.declares (Bundle.initS "java/lang/RuntimeException")) (by decide +kernel)), xE.of (hts (.declares (Bundle.initS "java/lang/Exception")) (by decide +kernel)), xE.of (hts (.declares (Bundle.initS Bundle.tN)) (by decide +kernel))⟩, xC.of (hts (.castable IAE IAE) (by decide +kernel)), xC.of (hts (.castable ISE ISE) (by decide +kernel)), xC.of (hts (.castable UOE UOE) (by decide +kernel)), xC.of (hts (.castable AE AE) (by decide +kernel)), xC.of (hts (.castable NSE NSE) (by decide +kernel))⟩
theorem law_xN {args : Array Value} {s : State} (hgv : (Jvm.Cond.and given_1 narrow_1).before args s = true) : xN s :=
  have hs := flat_of_before _ hgv
  ⟨va_Nc.of (hs (.not (.castable ISE IAE)) (by decide +kernel)), va_Nc.of (hs (.not (.castable NSE IAE)) (by decide +kernel)), va_Nc.of (hs (.not (.castable UOE ISE)) (by decide +kernel)), va_Nc.of (hs (.not (.castable AE ISE)) (by decide +kernel)), va_Nc.of (hs (.not (.castable AE UOE)) (by decide +kernel))⟩
theorem law_xZ {args : Array Value} {s : State} (hts : ∀ w ∈ lw_tbl, w.before args s = true) (hgv : (Jvm.Cond.and given_1 narrow_1).before args s = true) : xZ (fun q : Nat => s.heap.size ≤ q) s s.heap :=
  have hs := flat_of_before _ hgv
  ⟨vx_Zqof (hts (.laysStatic Bundle.tN "UNASSIGNED_STACK" Bundle.steD) (by decide +kernel)) (hts (.initialized Bundle.tN) (by decide +kernel)) (hs (.isRef (.static Bundle.tN "UNASSIGNED_STACK" Bundle.steD)) (by decide +kernel)) (fun _ h => Nat.not_le.mpr h), vx_Zqof (hts (.laysStatic Bundle.tN "SUPPRESSED_SENTINEL" Bundle.listD) (by decide +kernel)) (hts (.initialized Bundle.tN) (by decide +kernel)) (hs (.isRef (.static Bundle.tN "SUPPRESSED_SENTINEL" Bundle.listD)) (by decide +kernel)) (fun _ h => Nat.not_le.mpr h)⟩
theorem xZ.kept {A : Nat → Prop} {s : State} {H : Heap} {locs : List Loc} (h : xZ A s s.heap) (hS : va_S A s.heap H locs) : xZ A s H := ⟨h.1.kept (fun a h1 h2 => hS.2.1 a h1 h2), h.2.kept (fun a h1 h2 => hS.2.1 a h1 h2)⟩
theorem law_l0 {l : Launch} (h : l.flags = flags0) : l.stackTraces = false := by
  unfold Launch.stackTraces
  rw [h]
  decide
