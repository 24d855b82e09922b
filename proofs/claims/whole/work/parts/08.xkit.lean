/-! Throws: what they rest on, a row a class; writes: calls that change cells. -/
abbrev NM : List String := ["java/lang/RuntimeException", "java/lang/Exception"]
def xZ (A : Nat → Prop) (s : State) (H : Heap) : Prop := vx_Zq Bundle.tN "UNASSIGNED_STACK" Bundle.steD A s H ∧ vx_Zq Bundle.tN "SUPPRESSED_SENTINEL" Bundle.listD A s H
def xT (i : Nat) (tx : String) (s : State) : Prop := ∃ sa, vk_R RX0 i tx sa s
def xS (s : State) : Prop := xT 138 "no such gauge" s ∧ xT 148 "no such level" s ∧ xT 153 "the strip is full" s ∧ xT 151 "no such wind" s ∧ xT 140 "no such what" s ∧ xT 61 "no such mark of levels" s ∧ xT 73 "no such mark" s ∧ xT 142 "no such relation" s ∧ xT 111 "no such place in the order" s ∧ xT 178 "no number in the strip" s ∧ xT 129 "the gate is so already" s ∧ xT 157 "inside is not above outside" s ∧ xT 162 "the wind outside is not below its gale" s ∧ xT 165 "inside is above its low" s ∧ xT 167 "outside is at most the high of inside" s
def xC (E : String) (U : State) : Prop := (Cond.castable E E).before #[] U = true
theorem xC.of {E : String} {args : Array Value} {s : State} (h : (Cond.castable E E).before args s = true) : xC E s := va_any rfl h
theorem xC.word {E : String} {args : Array Value} {s : State} (h : xC E s) : (Cond.castable E E).before args s = true := va_any rfl h
theorem xC.moved {E : String} {u U : State} (hvm : u.vm.Alike U.vm) (h : xC E u) : xC E U := by
  have h1 : (Cond.castable E E).before #[] (u.setVm U.vm) = true := by
    rw [Cond.castable_setVm hvm]
    exact h
  have e := Cond.onTables_vm (A := #[]) (A' := #[]) (U := u) (U' := U) U.vm (Cond.castable E E) rfl
  have hU : U.setVm U.vm = U := rfl
  rw [hU] at e
  exact e.symm.trans h1
def xE (x : MethodName) (U : State) : Prop := (Cond.declares x).before #[] U = true
theorem xE.of {x : MethodName} {args : Array Value} {s : State} (h : (Cond.declares x).before args s = true) : xE x s := va_any rfl h
theorem xE.word {x : MethodName} {args : Array Value} {s : State} (h : xE x s) : (Cond.declares x).before args s = true := va_any rfl h
theorem xE.moved {x : MethodName} {u U : State} (hvm : u.vm.Alike U.vm) (h : xE x u) : xE x U := by
  have h1 : (Cond.declares x).before #[] (u.setVm U.vm) = true := by
    rw [Cond.declares_setVm hvm]
    exact h
  have e := Cond.onTables_vm (A := #[]) (A' := #[]) (U := u) (U' := U) U.vm (Cond.declares x) rfl
  have hU : U.setVm U.vm = U := rfl
  rw [hU] at e
  exact e.symm.trans h1
abbrev IAE : String := "java/lang/IllegalArgumentException"
abbrev ISE : String := "java/lang/IllegalStateException"
abbrev UOE : String := "java/lang/UnsupportedOperationException"
abbrev AE : String := "java/lang/ArithmeticException"
abbrev NSE : String := "java/util/NoSuchElementException"
def xDe (U : State) : Prop := xE (Bundle.initS "java/lang/RuntimeException") U ∧ xE (Bundle.initS "java/lang/Exception") U ∧ xE (Bundle.initS Bundle.tN) U
theorem xDe.moved {u U : State} (hvm : u.vm.Alike U.vm) (h : xDe u) : xDe U := ⟨h.1.moved hvm, h.2.1.moved hvm, h.2.2.moved hvm⟩
def xD (U : State) : Prop := xDe U ∧ xC IAE U ∧ xC ISE U ∧ xC UOE U ∧ xC AE U ∧ xC NSE U
theorem xD.moved {u U : State} (hvm : u.vm.Alike U.vm) (h : xD u) : xD U := ⟨h.1.moved hvm, h.2.1.moved hvm, h.2.2.1.moved hvm, h.2.2.2.1.moved hvm, h.2.2.2.2.1.moved hvm, h.2.2.2.2.2.moved hvm⟩
abbrev xB (E : String) : List Cond := [.castable E E, .declares (Bundle.initS "java/lang/RuntimeException"), .declares (Bundle.initS "java/lang/Exception"), .declares (Bundle.initS Bundle.tN)]
def xOK (U : State) : Prop := xZ (fun _ => False) U U.heap ∧ xS U ∧ xD U
theorem xT.warm {i : Nat} {tx : String} {s U : State} (hW : s.WarmedH U.vm) (h : xT i tx s) : xT i tx U := h.elim fun sa q => ⟨sa, vk_R.warm hW q⟩
theorem xT.same {i : Nat} {tx : String} {s U : State} (hv : U.vm = s.vm) (h : xT i tx s) : xT i tx U := h.elim fun sa q => ⟨sa, vk_R.same hv q⟩
theorem xS.warm {s U : State} (hW : s.WarmedH U.vm) (h : xS s) : xS U := by
  obtain ⟨h0, h1, h2, h3, h4, h5, h6, h7, h8, h9, h10, h11, h12, h13, h14⟩ := h
  exact ⟨xT.warm hW h0, xT.warm hW h1, xT.warm hW h2, xT.warm hW h3, xT.warm hW h4, xT.warm hW h5, xT.warm hW h6, xT.warm hW h7, xT.warm hW h8, xT.warm hW h9, xT.warm hW h10, xT.warm hW h11, xT.warm hW h12, xT.warm hW h13, xT.warm hW h14⟩
theorem xS.same {s U : State} (hv : U.vm = s.vm) (h : xS s) : xS U := by
  obtain ⟨h0, h1, h2, h3, h4, h5, h6, h7, h8, h9, h10, h11, h12, h13, h14⟩ := h
  exact ⟨xT.same hv h0, xT.same hv h1, xT.same hv h2, xT.same hv h3, xT.same hv h4, xT.same hv h5, xT.same hv h6, xT.same hv h7, xT.same hv h8, xT.same hv h9, xT.same hv h10, xT.same hv h11, xT.same hv h12, xT.same hv h13, xT.same hv h14⟩
theorem xS_138 {s : State} (h : xS s) : xT 138 "no such gauge" s := h.1
theorem xS_148 {s : State} (h : xS s) : xT 148 "no such level" s := h.2.1
theorem xS_153 {s : State} (h : xS s) : xT 153 "the strip is full" s := h.2.2.1
theorem xS_151 {s : State} (h : xS s) : xT 151 "no such wind" s := h.2.2.2.1
theorem xS_140 {s : State} (h : xS s) : xT 140 "no such what" s := h.2.2.2.2.1
theorem xS_61 {s : State} (h : xS s) : xT 61 "no such mark of levels" s := h.2.2.2.2.2.1
theorem xS_73 {s : State} (h : xS s) : xT 73 "no such mark" s := h.2.2.2.2.2.2.1
theorem xS_142 {s : State} (h : xS s) : xT 142 "no such relation" s := h.2.2.2.2.2.2.2.1
theorem xS_111 {s : State} (h : xS s) : xT 111 "no such place in the order" s := h.2.2.2.2.2.2.2.2.1
theorem xS_178 {s : State} (h : xS s) : xT 178 "no number in the strip" s := h.2.2.2.2.2.2.2.2.2.1
theorem xS_129 {s : State} (h : xS s) : xT 129 "the gate is so already" s := h.2.2.2.2.2.2.2.2.2.2.1
theorem xS_157 {s : State} (h : xS s) : xT 157 "inside is not above outside" s := h.2.2.2.2.2.2.2.2.2.2.2.1
theorem xS_162 {s : State} (h : xS s) : xT 162 "the wind outside is not below its gale" s := h.2.2.2.2.2.2.2.2.2.2.2.2.1
theorem xS_165 {s : State} (h : xS s) : xT 165 "inside is above its low" s := h.2.2.2.2.2.2.2.2.2.2.2.2.2.1
theorem xS_167 {s : State} (h : xS s) : xT 167 "outside is at most the high of inside" s := h.2.2.2.2.2.2.2.2.2.2.2.2.2.2
theorem xOK_call {U : State} (h : xOK U) (g : JFrame) (mk : MethodId) (a : Array Value) : xOK (U.calling g mk a) :=
  ⟨⟨vx_Zq.moved (u := U) (U := U.calling g mk a) (Vm.Alike.refl U.vm) h.1.1, vx_Zq.moved (u := U) (U := U.calling g mk a) (Vm.Alike.refl U.vm) h.1.2⟩, xS.same (U := U.calling g mk a) (s := U) rfl h.2.1, xD.moved (u := U) (U := U.calling g mk a) (Vm.Alike.refl U.vm) h.2.2⟩
theorem xOK_to {s U : State} {A : Nat → Prop} {H : Heap} (hz : xZ A s H) (hs : xS s) (hd : xD s) (hU : U.heap = H) (hW : s.WarmedH U.vm) : xOK U := by
  subst hU
  exact ⟨⟨(vx_Zq.moved hW.alike hz.1).narrow (fun _ h => h.elim), (vx_Zq.moved hW.alike hz.2).narrow (fun _ h => h.elim)⟩, xS.warm hW hs, hd.moved hW.alike⟩
theorem xOK_at {s U : State} (h : xOK s) (hU : U.heap = s.heap) (hW : s.WarmedH U.vm) : xOK U := xOK_to h.1 h.2.1 h.2.2 hU hW
theorem xn_IAE : ∀ w ∈ (vx_atS RX0 63 IAE NM).filter (fun w => !goodWord w), w ∈ xB IAE := by decide +kernel
theorem xg_IAE : ∀ w ∈ Cond.classLink RX0 59 IAE :: Cond.initialized IAE :: vx_atS RX0 63 IAE NM, vx_ot w = true := by decide +kernel
theorem xn_ISE : ∀ w ∈ (vx_atS RX0 131 ISE NM).filter (fun w => !goodWord w), w ∈ xB ISE := by decide +kernel
theorem xg_ISE : ∀ w ∈ Cond.classLink RX0 127 ISE :: Cond.initialized ISE :: vx_atS RX0 131 ISE NM, vx_ot w = true := by decide +kernel
theorem xn_UOE : ∀ w ∈ (vx_atS RX0 159 UOE NM).filter (fun w => !goodWord w), w ∈ xB UOE := by decide +kernel
theorem xg_UOE : ∀ w ∈ Cond.classLink RX0 155 UOE :: Cond.initialized UOE :: vx_atS RX0 159 UOE NM, vx_ot w = true := by decide +kernel
theorem xn_AE : ∀ w ∈ (vx_atS RX0 164 AE NM).filter (fun w => !goodWord w), w ∈ xB AE := by decide +kernel
theorem xg_AE : ∀ w ∈ Cond.classLink RX0 160 AE :: Cond.initialized AE :: vx_atS RX0 164 AE NM, vx_ot w = true := by decide +kernel
theorem xn_NSE : ∀ w ∈ cy_at.filter (fun w => !goodWord w), w ∈ xB NSE := by decide +kernel
theorem xg_NSE : ∀ w ∈ Cond.classLink RX0 176 NSE :: Cond.initialized NSE :: cy_at, vx_ot w = true := by decide +kernel
theorem cy_d0 : decode prog_14_method_4_code 0 = .ok (.aload_n 0, 1) := by decide +kernel
theorem cy_d1 : decode prog_14_method_4_code 1 = .ok (.aload_n 1, 1) := by decide +kernel
theorem cy_d2 : decode prog_14_method_4_code 2 = .ok (.invokespecial 13, 3) := by decide +kernel
theorem cy_d5 : decode prog_14_method_4_code 5 = .ok (.return_, 1) := by decide +kernel
section TH
variable {p : Program} {l : Launch} {e : Env} {R : Room} {s : State} {m : MethodId} {args : Array Value} {below : List Frame} {meth : Method} {c : Code} {cells slots : Nat}
variable {cc : ByteArray} {pc ik is ic mc ms : Nat} {ls : Array Slot} {rest : List Value} {px : String → Prop} {Qc : Array Value → State → Outcome → State → Prop} {free : Addr → Prop} {cls text : String}
theorem th_S (hx : p.tables.exec = Jvm.exec) (hb : c.code = cc) (hl0 : l.stackTraces = false) (hown : s.vm.findClass RX0 = some m.cls) (hcls : Bundle.fit cls = true) (hk : (Cond.classLink RX0 ik cls).before args s = true) (hini : (Cond.initialized cls).before args s = true) (hstr : xT is text s) (hg1 : ∀ w ∈ (vx_atS RX0 ic cls NM).filter goodWord, w.before args s = true) (hg2 : ∀ w ∈ (vx_atS RX0 ic cls NM).filter (fun w => !goodWord w), w ∈ xB cls) (hC : xC cls s)
    (hgood : ∀ w ∈ Cond.classLink RX0 ik cls :: Cond.initialized cls :: vx_atS RX0 ic cls NM, vx_ot w = true) (hX : xOK s) (hsize : ls.size = c.maxLocals)
    (d0 : decode cc pc = .ok (.new ik, 3)) (d3 : decode cc (pc + 3) = .ok (.dup, 1)) (d4 : decode cc (pc + 4) = .ok (.ldc is, 2)) (d6 : decode cc (pc + 6) = .ok (.invokespecial ic, 3)) (d9 : decode cc (pc + 9) = .ok (.athrow, 1))
    (hno : ∀ x ∈ c.exceptionTable.toList, False) (hRf : 6 ≤ R.frames) (hRl : (rest.map fun v => v.category).sum + 82 ≤ R.locals) (hRc : cells + 1 ≤ R.cells) (hRs : slots + 6 ≤ R.slots) (hlocks : meth.locks = false) (hpx : px cls) (hc : cells + 1 ≤ mc) (hs : slots + 6 ≤ ms) :
    W p l e R s m args below meth c s.heap [] cells slots (vx_MQ below Qc (rd_X px) args s mc ms free) (F0 m pc ls rest) := by
  obtain ⟨sa, hstr⟩ := hstr
  exact vx_throwS (A := fun _ => False) hx hb hl0 hown hcls (by decide +kernel : ∀ n ∈ NM, Bundle.fit n = true) hk hini hstr (vx_hat hg1 hg2 (vx_c (xC.word hC) (vx_c (xE.word hX.2.2.1.1) (vx_c (xE.word hX.2.2.1.2.1) (vx_c (xE.word hX.2.2.1.2.2) vx_n))))) hgood hX.1.1 hX.1.2 va_S.rf hsize d0 d3 d4 d6 d9 (fun x hx => (hno x hx).elim) (by show 2 + 3 < R.frames; omega) (by show _ + (13 * (2 + 1) + 43) ≤ R.locals; omega) hRc hRs hlocks (fun t _ h1 h2 => ⟨hpx, h1, fun q hq _ => h2 q hq⟩) (fun z hz => absurd hz List.not_mem_nil) hc hs
theorem th_Y (hx : p.tables.exec = Jvm.exec) (hb : c.code = cc) (hl0 : l.stackTraces = false) (hown : s.vm.findClass RX0 = some m.cls) (hcls : Bundle.fit NSE = true) (hk : (Cond.classLink RX0 ik NSE).before args s = true) (hini : (Cond.initialized NSE).before args s = true) (hstr : xT is text s) (hg1 : ∀ w ∈ (cy_at).filter goodWord, w.before args s = true) (hg2 : ∀ w ∈ (cy_at).filter (fun w => !goodWord w), w ∈ xB NSE) (hC : xC NSE s)
    (hgood : ∀ w ∈ Cond.classLink RX0 ik NSE :: Cond.initialized NSE :: cy_at, vx_ot w = true) (hX : xOK s) (hsize : ls.size = c.maxLocals)
    (d0 : decode cc pc = .ok (.new ik, 3)) (d3 : decode cc (pc + 3) = .ok (.dup, 1)) (d4 : decode cc (pc + 4) = .ok (.ldc is, 2)) (d6 : decode cc (pc + 6) = .ok (.invokespecial 180, 3)) (d9 : decode cc (pc + 9) = .ok (.athrow, 1))
    (hno : ∀ x ∈ c.exceptionTable.toList, False) (hRf : 6 ≤ R.frames) (hRl : (rest.map fun v => v.category).sum + 82 ≤ R.locals) (hRc : cells + 1 ≤ R.cells) (hRs : slots + 6 ≤ R.slots) (hlocks : meth.locks = false) (hpx : px NSE) (hc : cells + 1 ≤ mc) (hs : slots + 6 ≤ ms) :
    W p l e R s m args below meth c s.heap [] cells slots (vx_MQ below Qc (rd_X px) args s mc ms free) (F0 m pc ls rest) := by
  obtain ⟨sa, hstr⟩ := hstr
  exact cy_throwS (A := fun _ => False) hx hb hl0 cy_d0 cy_d1 cy_d2 cy_d5 hown hcls (by decide +kernel : ∀ n ∈ NM, Bundle.fit n = true) hk hini hstr (vx_hat hg1 hg2 (vx_c (xC.word hC) (vx_c (xE.word hX.2.2.1.1) (vx_c (xE.word hX.2.2.1.2.1) (vx_c (xE.word hX.2.2.1.2.2) vx_n))))) hgood hX.1.1 hX.1.2 va_S.rf hsize d0 d3 d4 d6 d9 (fun x hx => (hno x hx).elim) (by show 2 + 3 < R.frames; omega) (by show _ + (13 * (2 + 1) + 43) ≤ R.locals; omega) hRc hRs hlocks (fun t _ h1 h2 => ⟨hpx, h1, fun q hq _ => h2 q hq⟩) (fun z hz => absurd hz List.not_mem_nil) hc hs
end TH
def InN (n : Nat) (x : Int32) : Prop := ∃ g : Nat, g < n ∧ x = nI g
theorem in_of {x : Int32} {n : Nat} (hn : n < 2147483648) (h0 : ¬ x < 0) (h : x < nI n) : InN n x := by
  obtain ⟨j, hj, rfl⟩ := nI_of h0
  exact ⟨j, (nI_ltI hj hn).mp h, rfl⟩
theorem in_neg {x : Int32} {n : Nat} (hn : n < 2147483648) (h : x < 0) : ¬ InN n x := by
  rintro ⟨g, hg, rfl⟩
  exact nI_pos (Nat.lt_trans hg hn) h
theorem in_big {x : Int32} {n : Nat} (hn : n < 2147483648) (h : ¬ x < nI n) : ¬ InN n x := by
  rintro ⟨g, hg, rfl⟩
  exact h (nI_lt hg hn)
/-- levels, winds -/
def lvl (x : UInt64) : Bool := oGe (FP.dcmp x 13875379345695965184) && oLe (FP.dcmp x 4652007308841189376)
def wnd (x : UInt32) : Bool := oGe (FP.fcmp x FP.fconst0) && oLe (FP.fcmp x 1128792064)
/-! ## calls that write -/
def wr_Qi (post : Int32 → Prop) (B : Heap → Prop) (A : Nat → Prop) : Array Value → State → Outcome → State → Prop := fun _ st oc t => (∃ r : Int32, oc = .returned (some (.int r)) ∧ post r ∧ B t.heap) ∧ va_F A st t
def wr_Qv (B : Heap → Prop) (A : Nat → Prop) : Array Value → State → Outcome → State → Prop := fun _ st oc t => (oc = .returned none ∧ B t.heap) ∧ va_F A st t
def wr_Qd (post : UInt64 → Prop) (B : Heap → Prop) (A : Nat → Prop) : Array Value → State → Outcome → State → Prop := fun _ st oc t => (∃ r : UInt64, oc = .returned (some (.double r)) ∧ post r ∧ B t.heap) ∧ va_F A st t
def wr_Qf (post : UInt32 → Prop) (B : Heap → Prop) (A : Nat → Prop) : Array Value → State → Outcome → State → Prop := fun _ st oc t => (∃ r : UInt32, oc = .returned (some (.float r)) ∧ post r ∧ B t.heap) ∧ va_F A st t
theorem va_D_same {A : Nat → Prop} {ws ws' : va_W} (h : ws.map Prod.fst = ws'.map Prod.fst) (hD : va_D A ws) : va_D A ws' := by
  have key : ∀ (k : Nat) (q : Nat × va_E), ws'[k]? = some q → ∃ q', ws[k]? = some q' ∧ q'.1 = q.1 := by
    intro k q hq
    have h1 : (ws'.map Prod.fst)[k]? = some q.1 := by rw [List.getElem?_map, hq]; rfl
    rw [← h, List.getElem?_map] at h1
    cases hw : ws[k]? with
    | none => rw [hw] at h1; cases h1
    | some q' => rw [hw] at h1; exact ⟨q', rfl, Option.some.inj h1⟩
  refine ⟨fun i j p q hp hq e => ?_, fun k q hq => ?_⟩
  · obtain ⟨p', h1, e1⟩ := key i p hp
    obtain ⟨q', h2, e2⟩ := key j q hq
    exact hD.1 i j p' q' h1 h2 (by rw [e1, e2, e])
  · obtain ⟨q', h1, e1⟩ := key k q hq
    rw [← e1]; exact hD.2 k q' h1
section WR
variable {p : Program} {l : Launch} {e : Env} {R : Room} {s : State} {m : MethodId} {args : Array Value} {below : List Frame} {meth : Method} {c : Code} {H : Heap} {locs : List Loc} {cells slots : Nat} {Q : State → Prop}
variable {pc mc ms mc' ms' : Nat} {ls : Array Slot} {rest st0 : List Value} {a : Array Value} {px px' : String → Prop} {Qc : Array Value → State → Outcome → State → Prop} {B : Heap → Prop} {A A1 : Nat → Prop}
theorem wr_calli {post : Int32 → Prop} (hr : va_Run p l e R s m args below meth c H locs cells slots mc ms (F0 m pc ls st0) rest (wr_Qi post B A1 a) A1) (hS : va_S A s.heap H locs) (hF : ∀ q, A1 q → A q)
    (kk : ∀ (r : Int32) (H1 : Heap) (locs1 : List Loc), post r → B H1 → H.size ≤ H1.size → (∀ q : Nat, q < H.size → ¬ A1 q → H1[q]? = H[q]?) → va_S A s.heap H1 locs1 → W p l e R s m args below meth c H1 locs1 (cells + mc) (slots + ms) Q (F0 m (pc + 3) ls (.int r :: rest))) : W p l e R s m args below meth c H locs cells slots Q (F0 m pc ls st0) := by
  intro T hT X
  obtain ⟨v, st₀, t, T', L, h0, X', hL, e1, e2, ⟨⟨r, hv, hp, hb⟩, hz, hk⟩, st⟩ := hr T hT X
  cases hv
  rw [h0] at hz hk
  obtain ⟨t2, a1, b1⟩ := kk r T'.heap (locs ++ L) hp (by rw [e1]; exact hb) (by rw [e1]; exact hz) (fun q h1 h2 => by rw [e1]; exact hk q h1 h2)
    ⟨Nat.le_trans hS.1 (by rw [e1]; exact hz), fun q h1 h2 => by rw [e1, hk q (Nat.lt_of_lt_of_le h1 hS.1) (fun z => h2 (hF q z))]; exact hS.2.1 q h1 h2, fun q hq => by
      rcases List.mem_append.mp hq with h | h
      · exact hS.2.2 q h
      · exact hF _ (hL q h)⟩ T' rfl X'
  exact ⟨t2, st t2 a1, b1⟩
theorem wr_calld {post : UInt64 → Prop} (hr : va_Run p l e R s m args below meth c H locs cells slots mc ms (F0 m pc ls st0) rest (wr_Qd post B A1 a) A1) (hS : va_S A s.heap H locs) (hF : ∀ q, A1 q → A q)
    (kk : ∀ (r : UInt64) (H1 : Heap) (locs1 : List Loc), post r → B H1 → H.size ≤ H1.size → (∀ q : Nat, q < H.size → ¬ A1 q → H1[q]? = H[q]?) → va_S A s.heap H1 locs1 → W p l e R s m args below meth c H1 locs1 (cells + mc) (slots + ms) Q (F0 m (pc + 3) ls (.double r :: rest))) : W p l e R s m args below meth c H locs cells slots Q (F0 m pc ls st0) := by
  intro T hT X
  obtain ⟨v, st₀, t, T', L, h0, X', hL, e1, e2, ⟨⟨r, hv, hp, hb⟩, hz, hk⟩, st⟩ := hr T hT X
  cases hv
  rw [h0] at hz hk
  obtain ⟨t2, a1, b1⟩ := kk r T'.heap (locs ++ L) hp (by rw [e1]; exact hb) (by rw [e1]; exact hz) (fun q h1 h2 => by rw [e1]; exact hk q h1 h2)
    ⟨Nat.le_trans hS.1 (by rw [e1]; exact hz), fun q h1 h2 => by rw [e1, hk q (Nat.lt_of_lt_of_le h1 hS.1) (fun z => h2 (hF q z))]; exact hS.2.1 q h1 h2, fun q hq => by
      rcases List.mem_append.mp hq with h | h
      · exact hS.2.2 q h
      · exact hF _ (hL q h)⟩ T' rfl X'
  exact ⟨t2, st t2 a1, b1⟩
theorem wr_callf {post : UInt32 → Prop} (hr : va_Run p l e R s m args below meth c H locs cells slots mc ms (F0 m pc ls st0) rest (wr_Qf post B A1 a) A1) (hS : va_S A s.heap H locs) (hF : ∀ q, A1 q → A q)
    (kk : ∀ (r : UInt32) (H1 : Heap) (locs1 : List Loc), post r → B H1 → H.size ≤ H1.size → (∀ q : Nat, q < H.size → ¬ A1 q → H1[q]? = H[q]?) → va_S A s.heap H1 locs1 → W p l e R s m args below meth c H1 locs1 (cells + mc) (slots + ms) Q (F0 m (pc + 3) ls (.float r :: rest))) : W p l e R s m args below meth c H locs cells slots Q (F0 m pc ls st0) := by
  intro T hT X
  obtain ⟨v, st₀, t, T', L, h0, X', hL, e1, e2, ⟨⟨r, hv, hp, hb⟩, hz, hk⟩, st⟩ := hr T hT X
  cases hv
  rw [h0] at hz hk
  obtain ⟨t2, a1, b1⟩ := kk r T'.heap (locs ++ L) hp (by rw [e1]; exact hb) (by rw [e1]; exact hz) (fun q h1 h2 => by rw [e1]; exact hk q h1 h2)
    ⟨Nat.le_trans hS.1 (by rw [e1]; exact hz), fun q h1 h2 => by rw [e1, hk q (Nat.lt_of_lt_of_le h1 hS.1) (fun z => h2 (hF q z))]; exact hS.2.1 q h1 h2, fun q hq => by
      rcases List.mem_append.mp hq with h | h
      · exact hS.2.2 q h
      · exact hF _ (hL q h)⟩ T' rfl X'
  exact ⟨t2, st t2 a1, b1⟩
theorem wr_callv (hr : va_Run p l e R s m args below meth c H locs cells slots mc ms (F0 m pc ls st0) rest (wr_Qv B A1 a) A1) (hS : va_S A s.heap H locs) (hF : ∀ q, A1 q → A q)
    (kk : ∀ (H1 : Heap) (locs1 : List Loc), B H1 → H.size ≤ H1.size → (∀ q : Nat, q < H.size → ¬ A1 q → H1[q]? = H[q]?) → va_S A s.heap H1 locs1 → W p l e R s m args below meth c H1 locs1 (cells + mc) (slots + ms) Q (F0 m (pc + 3) ls rest)) : W p l e R s m args below meth c H locs cells slots Q (F0 m pc ls st0) := by
  intro T hT X
  obtain ⟨v, st₀, t, T', L, h0, X', hL, e1, e2, ⟨⟨hv, hb⟩, hz, hk⟩, st⟩ := hr T hT X
  cases hv
  rw [h0] at hz hk
  obtain ⟨t2, a1, b1⟩ := kk T'.heap (locs ++ L) (by rw [e1]; exact hb) (by rw [e1]; exact hz) (fun q h1 h2 => by rw [e1]; exact hk q h1 h2)
    ⟨Nat.le_trans hS.1 (by rw [e1]; exact hz), fun q h1 h2 => by rw [e1, hk q (Nat.lt_of_lt_of_le h1 hS.1) (fun z => h2 (hF q z))]; exact hS.2.1 q h1 h2, fun q hq => by
      rcases List.mem_append.mp hq with h | h
      · exact hS.2.2 q h
      · exact hF _ (hL q h)⟩ T' rfl X'
  exact ⟨t2, st t2 a1, b1⟩
/-- a call that may throw, else writes; ahead of all other writes, in a method without handlers -/
theorem kxw_calli {post : Int32 → Prop} (hr : vx_Run p l e R s m args below meth c s.heap [] cells slots mc ms (F0 m pc ls st0) rest (wr_Qi post B A1 a) (rd_X px) A1) (hno : ∀ x ∈ c.exceptionTable.toList, False) (hlocks : meth.locks = false) (hF : ∀ q, A1 q → A q) (hpx : ∀ E, px E → px' E) (hc : cells + mc ≤ mc') (hs : slots + ms ≤ ms')
    (kk : ∀ (r : Int32) (H1 : Heap) (locs1 : List Loc), post r → B H1 → va_S A s.heap H1 locs1 → W p l e R s m args below meth c H1 locs1 (cells + mc) (slots + ms) (vx_MQ below Qc (rd_X px') args s mc' ms' A) (F0 m (pc + 3) ls (.int r :: rest))) : W p l e R s m args below meth c s.heap [] cells slots (vx_MQ below Qc (rd_X px') args s mc' ms' A) (F0 m pc ls st0) := by
  intro T hT X
  rcases hr T hT X with ⟨v, st₀, t, T', L, h0, X', hL, e1, e2, ⟨⟨r, hv, hp, hb⟩, hz, hk⟩, st⟩ | ⟨q, st₀, t, T', L, E, ce, h0, X', hL, e1, e2, ⟨hp, hF2⟩, hce, hcv, hcl, st⟩
  · cases hv
    rw [h0] at hz hk
    obtain ⟨t2, a1, b1⟩ := kk r T'.heap ([] ++ L) hp (by rw [e1]; exact hb) ⟨by rw [e1]; exact hz, fun q h1 h2 => by rw [e1]; exact hk q h1 (fun z => h2 (hF q z)), fun q hq => hF _ (hL q (by simpa using hq))⟩ T' rfl X'
    exact ⟨t2, st t2 a1, b1⟩
  · obtain ⟨t2, a1, b1⟩ := (vx_out (Qc := Qc) (XC := rd_X px') (free := A) (H := T'.heap) (pc := pc) (ls := ls) (rest := rest) (fun x hx => (hno x hx).elim) hlocks (by rw [e1]; exact hce) hcv hcl (fun t9 ht9 _ => ⟨hpx E hp, by rw [ht9, e1]; unfold va_F at hF2; rw [h0] at hF2; exact hF2.1, by rw [ht9, e1]; unfold va_F at hF2; rw [h0] at hF2; exact hF2.2⟩) (fun z hz => hF _ (hL z (by simpa using hz))) hc hs : vx_W p l e R s m args below meth c T'.heap ([] ++ L) (cells + mc) (slots + ms) (vx_MQ below Qc (rd_X px') args s mc' ms' A) (F0 m pc ls rest) q) T' rfl X'
    exact ⟨t2, st.trans a1, b1⟩
end WR
theorem met_of_vx {l : Launch} {y : MethodName} {ws : List Cond} {rm : Room} {Pc : Array Value → State → Prop} {Qc : Array Value → State → Outcome → State → Prop} {mc ms : Nat} {free : Addr → Prop} (h : vx_Met l y ws rm Pc Qc (fun _ _ _ => False) mc ms free) : Met l y ws rm Pc Qc mc ms free := by
  intro p e ha hc hk s m args below hf happ hP hK
  obtain ⟨n, o, h1, h2, h3, h4⟩ := h p e ha hc hk s m args below hf happ hP hK
  refine ⟨n, o, h1, h2, h3, ?_⟩
  rcases h4 with h4 | ⟨q, -, E, ce, L, h5, -⟩
  · exact h4
  · exact h5.elim
