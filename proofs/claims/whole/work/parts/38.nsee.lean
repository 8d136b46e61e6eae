/-! ===== NoSuchElementException: its constructor calls its superclass by another index than the others' ===== -/
def nsX : String := "java/util/NoSuchElementException"
def nsY : String := "java/lang/RuntimeException"
def nsB : ByteArray := ⟨#[0x2a, 0x2b, 0xb7, 0x00, 0x0d, 0xb1]⟩
def nsT (own : String) (ic : Nat) : List Cond := (Bundle.ownAtoms own ic nsX []).filter fun w => decide (w ∉ Bundle.throwableAtoms ++ Bundle.throwableSAtoms ++ Bundle.chainSAtoms nsX [])
def nsW (own : String) (ic : Nat) : List Cond := Bundle.throwableAtoms ++ (Bundle.throwableSAtoms ++ (Bundle.passSAtoms nsX nsY 13 nsB ++ (Bundle.chainSAtoms nsY ["java/lang/Exception"] ++ nsT own ic)))
theorem nsW_1 {own : String} {ic : Nat} {w : Cond} (h : w ∈ Bundle.throwableAtoms) : w ∈ nsW own ic := List.mem_append.mpr (Or.inl h)
theorem nsW_2 {own : String} {ic : Nat} {w : Cond} (h : w ∈ Bundle.throwableSAtoms) : w ∈ nsW own ic := List.mem_append.mpr (Or.inr (List.mem_append.mpr (Or.inl h)))
theorem nsW_3 {own : String} {ic : Nat} {w : Cond} (h : w ∈ Bundle.passSAtoms nsX nsY 13 nsB) : w ∈ nsW own ic := List.mem_append.mpr (Or.inr (List.mem_append.mpr (Or.inr (List.mem_append.mpr (Or.inl h)))))
theorem nsW_4 {own : String} {ic : Nat} {w : Cond} (h : w ∈ Bundle.chainSAtoms nsY ["java/lang/Exception"]) : w ∈ nsW own ic := List.mem_append.mpr (Or.inr (List.mem_append.mpr (Or.inr (List.mem_append.mpr (Or.inr (List.mem_append.mpr (Or.inl h)))))))
theorem nsW_5 {own : String} {ic : Nat} {w : Cond} (h : w ∈ nsT own ic) : w ∈ nsW own ic := List.mem_append.mpr (Or.inr (List.mem_append.mpr (Or.inr (List.mem_append.mpr (Or.inr (List.mem_append.mpr (Or.inr h)))))))
section NS
variable {p : Program} {l : Launch} {e : Env} {R : Room} {s : State} {m : MethodId} {args : Array Value} {below : List Frame} {meth : Method} {c : Code}
set_option maxHeartbeats 2000000 in
/-- new NoSuchElementException's constructor has run, and it is thrown -/
theorem ns_run {T : State} {locs : List Loc} {cells slots : Nat} (X : Stand p l e R s m args below meth c T locs cells slots) (hexec : p.tables.exec = Jvm.exec) (htr : e.platform.stackTraces = false)
    (hown : s.vm.findClass RX10 = some m.cls) (h : ∀ w ∈ nsW RX10 351, w.before args s = true) (hlocs : ∀ x ∈ locs, ∀ cell, s.heap[x.base]? = some cell → cell.vm.isStatics = false)
    {b : Addr} {k : ClassId} {kl : Class} (hf0 : s.vm.findClass nsX = some k) (hk0 : s.vm.classes[k]? = some kl) (hcell : T.heap[b]? = some (freshCell k kl)) (hnew : s.heap.size ≤ b) {msg : Value} (hmsg : msg.isRef = true)
    {g : JFrame} (hg : g.method = m) (hsize : g.locals.size = c.maxLocals) (hlk : g.locked = none) (hen : g.entered = []) {rest : List Value} (hst : g.stack = msg :: .ref b :: .ref b :: rest)
    (hd6 : decode c.code g.pc = .ok (.invokespecial 351, 3)) (hd9 : decode c.code (g.pc + 3) = .ok (.athrow, 1)) (hout : ∀ x ∈ c.exceptionTable.toList, covers x (g.pc + 3) = false)
    (hRf : 5 < R.frames) (hRl : 2 * g.monitorRoom + ((Value.ref b :: rest).map fun v => v.category).sum + (13 * 3 + 42) ≤ R.locals) (hlocks : meth.locks = false) :
    ∃ U : State, Steps p.tables e below (T.setTop g) U ∧ U.status = .running ∧ Ended U below (.threw b) ∧ s.WarmedH U.vm ∧ s.sameButNew ({ U with vm := s.vm } : State) locs cells slots ∧
      ∃ ce : Cell, U.heap[b]? = some ce ∧ ce.vm = .none ∧ s.vm.findClass nsX = some ce.cls := by
  have hpl : e.platform.magicAccessors = ({} : Platform).magicAccessors := by rw [X.admits.platform]
  have t5 : ∀ w, w ∈ nsT RX10 351 → w.holds args s none s [] = true := fun w hw => h w (nsW_5 hw)
  obtain ⟨Th, Z0, Lt, -, Y⟩ := ThrowableC.of_atoms (args := args) (by rw [X.admits.platform]) (by rw [X.admits.platform]) hpl (fun w hw => h w (nsW_1 hw))
  obtain ⟨Zi, Mi, Lz, Lm, hnZ⟩ := Init0T.ofS_atoms (args := args) hpl Lt Y (fun w hw => h w (nsW_2 hw))
  obtain ⟨Pa, La, hPa, hPs⟩ := PassC.ofS_atoms (args := args) (s := s) hpl (X := nsX) (Y := nsY) (by decide) (by decide) (by decide +kernel) (by decide +kernel) (by decide +kernel) (by decide +kernel) (fun w hw => h w (nsW_3 hw))
  obtain ⟨Pb, Pr, hPl, Lb, Lr, hPb, hsup, hpass⟩ := Bundle.chainS (args := args) hpl hnZ ["java/lang/Exception"] nsY (by decide) (by decide) (fun w hw => h w (nsW_4 hw))
  have hfound : s.vm.findClass nsX = some Pa.m.cls := findClass_of_methodNamed hPa
  cases Option.some.inj (hf0.symm.trans hfound)
  obtain ⟨c1, k1, hc1, hk, hord, -, -, hn6⟩ := Cond.instantiable_spec (t5 (.instantiable nsX 6) (by decide +kernel))
  cases Option.some.inj (hc1.symm.trans hfound)
  cases Option.some.inj (hk0.symm.trans hk)
  have hs0 : selectMethod e.platform s.vm Pa.m.cls Th.fill0 = .method Th.fill0 := by
    obtain ⟨c2, r2, m2, q1, q2, q3, q4, -⟩ := Cond.selects_spec (t5 (.selects nsX Bundle.tFill0 Bundle.tFill0) (by decide +kernel))
    cases Option.some.inj (q1.symm.trans hfound)
    cases Option.some.inj (q2.symm.trans (State.methodFound?_of_named Y.fill0 (by decide)))
    cases Option.some.inj (q3.symm.trans Y.fill0)
    exact (Launch.admits_selectMethod X.admits _ _ _).trans q4
  have hs1 : selectMethod e.platform s.vm Pa.m.cls Th.fill = .method Th.fill := by
    obtain ⟨c2, r2, m2, q1, q2, q3, q4, -⟩ := Cond.selects_spec (t5 (.selects nsX Bundle.tFill Bundle.tFill) (by decide +kernel))
    cases Option.some.inj (q1.symm.trans hfound)
    cases Option.some.inj (q2.symm.trans (State.methodFound?_of_named Y.fill (by decide)))
    cases Option.some.inj (q3.symm.trans Y.fill)
    exact (Launch.admits_selectMethod X.admits _ _ _).trans q4
  obtain ⟨cs, hcs, his⟩ := Y.statics
  obtain ⟨u0, hu0⟩ := Cond.staticRefV Y.unassigned Lt.unassignedStatic Lt.statics hcs his (t5 (.isRef (.static Bundle.tN "UNASSIGNED_STACK" Bundle.steD)) (by decide +kernel))
  obtain ⟨sn, hsn⟩ := Cond.staticRefV Y.sentinel Lt.sentinelStatic Lt.statics hcs his (t5 (.isRef (.static Bundle.tN "SUPPRESSED_SENTINEL" Bundle.listD)) (by decide +kernel))
  obtain ⟨ci, ii, fB, g1, g2, g3, g4, -, g5, g6, g7⟩ := Cond.ownField (t := .object "java/lang/Object") Y.found Lt.cls (by decide +kernel) (t5 (.fieldLink Bundle.tN 198 Bundle.tN "backtrace" "Ljava/lang/Object;") (by decide +kernel)) (t5 (.lays Bundle.tN Bundle.tN "backtrace" "Ljava/lang/Object;") (by decide +kernel)) e.platform hpl
  obtain ⟨cw, hcw, hew, -, hkeep⟩ := X.same.2.2.2.2.2 Th.aS cs hcs
  have hno : ∀ i, (⟨Th.aS, i⟩ : Loc) ∉ locs := fun i hm => by
    have h9 := hlocs _ hm cs hcs
    rw [his] at h9
    cases h9
  have hkn : cw.vm ≠ .unknown := by
    rw [hew]
    intro hu
    rw [show cs.vm = .unknown from hu] at his
    cases his
  have hne : Th.aS ≠ b := Nat.ne_of_lt (Nat.lt_of_lt_of_le (Array.getElem?_eq_some_iff.mp hcs).1 hnew)
  obtain ⟨iM, hfM⟩ := Y.msg
  obtain ⟨tC, dC, eC, nC⟩ := Cond.laysAt hfound hk Y.cause (t5 (.lays nsX Bundle.tN "cause" "Ljava/lang/Throwable;") (by decide +kernel))
  obtain ⟨tS, dS, eS, nS⟩ := Cond.laysAt hfound hk Y.stack (t5 (.lays nsX Bundle.tN "stackTrace" Bundle.steD) (by decide +kernel))
  obtain ⟨tP, dP, eP, nP⟩ := Cond.laysAt hfound hk Y.supp (t5 (.lays nsX Bundle.tN "suppressedExceptions" Bundle.listD) (by decide +kernel))
  obtain ⟨tM, dM, eM, nM⟩ := Cond.laysAt hfound hk hfM (t5 (.lays nsX Bundle.tN "detailMessage" "Ljava/lang/String;") (by decide +kernel))
  obtain ⟨tB, dB, eB, nB⟩ := Cond.laysAt hfound hk g7 (t5 (.lays nsX Bundle.tN "backtrace" "Ljava/lang/Object;") (by decide +kernel))
  have aC := Cond.laysApart eB eC nB nC (by rw [g5, Y.causeName]; decide)
  have aS := Cond.laysApart eB eS nB nS (by rw [g5, Y.stackName]; decide)
  have aP := Cond.laysApart eB eP nB nP (by rw [g5, Y.suppName]; decide)
  have hskip : SkipFacts Th e.platform s (fun u => u) u0 ((preparedCellV Th.toThrowableT (freshCell Pa.m.cls kl) b u0 sn).withEntry T.cur) := by
    refine ⟨{ ci198 := ci, i198 := ii, fBack := fB }, ⟨g1, g2, g3, g4⟩, ?_, fun _ _ => rfl⟩
    have h9 := fresh_default (c := Pa.m.cls) tB
    rw [g6] at h9
    simpa [preparedCellV, Cell.setSlot, Cell.withEntry, Array.getElem?_setIfInBounds, aC, aS, aP, aC.symm, aS.symm, aP.symm, defaultValue] using h9
  obtain ⟨tm, m9, c9, k9, v1, hn9, -, -, -, -, -, -, -, hW1, st1⟩ := Steps.initColdS (tb := p.tables) (e := e) (below := below) (s := s) (U := T) X.here hexec X.warmed hpl hown (t := Bundle.initS nsX) rfl rfl (by decide)
    (t5 (.methodLink RX10 351 (Bundle.initS nsX)) (by decide +kernel)) (h (.instanceMethod (Bundle.initS nsX)) (nsW_3 (by decide +kernel))) (bytes := nsB) (maxL := 2) (h (.code (Bundle.initS nsX) nsB 2 none) (nsW_3 (by decide +kernel)))
    (f := g) hg (a := b) (msg := msg) (rest := .ref b :: rest) hst hd6
  cases Option.some.inj (hn9.symm.trans hPa)
  have X1 := X.noted hW1
  obtain ⟨v2, X2, st2⟩ := X1.ctorMessageOffV hexec (g := { g with stack := .ref b :: rest }) hg hsize Th Lt Zi Lz Mi Lm (Pa :: Pb :: Pr)
    (fun P hP => by
      rcases List.mem_cons.mp hP with rfl | hP
      · exact La
      · rcases List.mem_cons.mp hP with rfl | hP
        · exact Lb
        · exact Lr P hP) ⟨Option.some.inj (hPs.symm.trans hPb), hsup, hpass⟩ (u0 := u0) (sen := sn) (self := b) hmsg (cell := freshCell Pa.m.cls kl) (cellS := cw)
    hcell (fun _ => by simp) (by simp) rfl rfl hs0 hs1 hcw hne hkn (by rw [hkeep _ (hno _)]; exact hu0) (by rw [hkeep _ (hno _)]; exact hsn)
    (Takes.of_laid hk hord tC (by rw [Y.causeType]; rfl)) (Takes.of_laid hk hord tS (by rw [Y.stackType]; exact fits_refV_array _ u0)) (Takes.of_laid hk hord tP (by rw [Y.suppType]; exact fits_refV_object _ sn))
    (Takes.of_laid hk hord tM (by rw [Y.msgType]; exact fits_refV_object _ ⟨msg, hmsg⟩)) Y.objLocals hskip htr [] hd6
    (by simp only [List.length_cons, hPl, List.length_nil]; omega) (by simp only [List.length_cons, hPl, List.length_nil]; omega)
  obtain ⟨w1, w2, w3, w4, w5⟩ := X2.athrowLeaves hexec (g := { g with stack := .ref b :: rest, pc := g.pc + 3 }) hg hlk hen hout (a := b) (rest := rest) rfl hd9
  have hlt : b < ((T.setVm v1).setVm v2).heap.size := (Array.getElem?_eq_some_iff.mp hcell).1
  refine ⟨_, st1 _ (fun acts => ?_), w2, w3, w4, w5.weaken (fun y hy hl' => ?_) (Nat.le_refl _) (Nat.le_refl _), _, heapAt_setCell_self (s := (T.setVm v1).setVm v2) (plainBareV Th.toThrowableT (freshCell Pa.m.cls kl) b u0 sn msg) hlt, rfl, hfound⟩
  · rw [doInvoke_state]
    exact st2 _ w1
  · rcases List.mem_append.mp hy with h1 | h1
    · exact h1
    · exfalso
      have hb : y.base = b := by
        simp only [List.mem_cons, List.not_mem_nil, or_false] at h1
        rcases h1 with rfl | rfl | rfl | rfl | rfl <;> rfl
      rw [hb] at hl'
      exact Nat.not_lt.mpr hnew hl'
end NS
section NS2
variable {p : Program} {l : Launch} {e : Env} {R : Room} {s : State} {m : MethodId} {args : Array Value} {below : List Frame} {meth : Method} {c : Code} {H : Heap} {locs : List Loc} {cells slots : Nat} {ls : Array Slot} {rest : List Value} {Qc : Array Value → State → Outcome → State → Prop} {XC : String → State → State → Prop} {free : Addr → Prop}
theorem vx_throwNS {cc : ByteArray} {pc : Nat} (hexec : p.tables.exec = Jvm.exec) (hb : c.code = cc) (hl : l.stackTraces = false) {text : String} {ik is mc ms sa : Nat} {A : Nat → Prop}
    (hown : s.vm.findClass RX10 = some m.cls)
    (hk : (Cond.classLink RX10 ik nsX).before args s = true) (hini : (Cond.initialized nsX).before args s = true) (hstr : vk_R RX10 is text sa s) (hat : ∀ w ∈ (nsW RX10 351).filter vx_no, w.before args s = true)
    (hgood : ∀ w ∈ Cond.classLink RX10 ik nsX :: Cond.initialized nsX :: (nsW RX10 351).filter vx_no, vx_ot w = true)
    (hU : vx_Zq Bundle.tN "UNASSIGNED_STACK" Bundle.steD A s s.heap) (hN : vx_Zq Bundle.tN "SUPPRESSED_SENTINEL" Bundle.listD A s s.heap) (hS : va_S A s.heap H locs) (hsize : ls.size = c.maxLocals)
    (d0 : decode cc pc = .ok (.new ik, 3)) (d3 : decode cc (pc + 3) = .ok (.dup, 1)) (d4 : decode cc (pc + 4) = .ok (.ldc_w is, 3)) (d7 : decode cc (pc + 7) = .ok (.invokespecial 351, 3)) (d10 : decode cc (pc + 10) = .ok (.athrow, 1))
    (hout : ∀ x ∈ c.exceptionTable.toList, covers x (pc + 10) = false)
    (hRframes : 5 < R.frames) (hRlocals : (rest.map fun v => v.category).sum + (13 * 3 + 43) ≤ R.locals) (hRcells : cells + 1 ≤ R.cells) (hRslots : slots + 6 ≤ R.slots) (hlocks : meth.locks = false)
    (hx : ∀ t : State, s.vm.Alike t.vm → H.size ≤ t.heap.size → (∀ q : Nat, q < H.size → t.heap[q]? = H[q]?) → XC nsX s t)
    (hf : ∀ z ∈ locs, free z.base) (hc : cells + 1 ≤ mc) (hs : slots + 6 ≤ ms) :
    W p l e R s m args below meth c H locs cells slots (vx_MQ below Qc XC args s mc ms free) (F0 m pc ls rest) := by
  intro T hT X
  have htr : e.platform.stackTraces = false := (show e.platform.stackTraces = l.stackTraces by rw [X.admits.platform]).trans hl
  have Y := vx_rebase X (R' := { frames := R.frames, locals := R.locals, cells := 1, slots := 6 }) (Nat.le_refl _) (Nat.le_refl _) hRcells hRslots
  obtain ⟨s', hA⟩ : ∃ z, z = (T.setVm s.vm).setFrames (.invoking m args :: below) := ⟨_, rfl⟩
  rw [← hA] at Y
  have hvm : s'.vm = s.vm := by rw [hA]; rfl
  have hhp : s'.heap = H := by rw [hA]; exact hT
  have hW0 : s.WarmedH s'.vm := by rw [hvm]; exact State.WarmedH.refl s
  have hat' : ∀ w ∈ (nsW RX10 351).filter vx_no, w.before args s' = true := fun w hw => vx_ot_at hW0 hvm.symm (hgood w (List.mem_cons_of_mem _ (List.mem_cons_of_mem _ hw))) (hat w hw)
  have hk' : (Cond.classLink RX10 ik nsX).before args s' = true := vx_ot_at hW0 hvm.symm (hgood _ List.mem_cons_self) hk
  have hini' : (Cond.initialized nsX).before args s' = true := vx_ot_at hW0 hvm.symm (hgood _ (List.mem_cons_of_mem _ List.mem_cons_self)) hini
  have hU' : vx_Zq Bundle.tN "UNASSIGNED_STACK" Bundle.steD A s' s'.heap := by rw [hhp]; exact vx_Zq.moved hW0.alike (hU.kept hS.2.1)
  have hN' : vx_Zq Bundle.tN "SUPPRESSED_SENTINEL" Bundle.listD A s' s'.heap := by rw [hhp]; exact vx_Zq.moved hW0.alike (hN.kept hS.2.1)
  have h : ∀ w ∈ nsW RX10 351, w.before args s' = true := vx_own hat' (vx_isRefq hU'.1) (vx_isRefq hN'.1) hU'.2.word hN'.2.word
  have hown' : s'.vm.findClass RX10 = some m.cls := by rw [hvm]; exact hown
  have hins : (Cond.instantiable nsX 6).before args s' = true := h _ (nsW_5 (by decide +kernel))
  obtain ⟨vm₁, cX, kX, hfX, hkX, -, -, X₁, st1⟩ := Y.newCold hexec (own := RX10) (C := nsX) (index := ik) (n := 6) hown' hk' hins hini'
    (g := F0 m pc ls rest) rfl (by rw [hb]; exact d0) (Nat.le_refl _) (Nat.le_refl _)
  generalize hT1 : (T.setVm vm₁).pushCell { cls := cX, slots := kX.instanceTypes.map defaultValue, vm := .none } = T1 at X₁ st1
  have hcat : (Value.ref T.heap.size).category = 1 := rfl
  have hcellA : T1.heap[T.heap.size]? = some (freshCell cX kX) := by rw [← hT1]; exact State.heap_pushCell_size _ _
  have d3' : decode c.code (pc + 3) = .ok (.dup, 1) := by rw [hb]; exact d3
  have d4' : decode c.code (pc + 4) = .ok (.ldc_w is, 3) := by rw [hb]; exact d4
  have hstr' : vk_R RX10 is text sa s' := vk_R.warm hW0 hstr
  obtain ⟨U, hsteps, hrun, hend, hW, hsame, ce, hce, hOv, hOc⟩ := ns_run X₁ hexec htr hown' h (fun x hx => nomatch hx) hfX hkX hcellA (by rw [hhp, hT]; exact Nat.le_refl _) (msg := .ref sa) rfl
    (g := { method := m, pc := pc + 7, locals := ls, stack := .ref sa :: .ref T.heap.size :: .ref T.heap.size :: rest, locked := none }) rfl hsize rfl rfl (rest := rest) rfl
    (by rw [hb]; exact d7) (by rw [hb]; exact d10) hout hRframes (by simp only [List.map_cons, List.sum_cons, hcat]; omega) hlocks
  obtain ⟨f1, f2⟩ := vx_frame hsame
  rw [hhp] at f1 f2
  have hWs : s.WarmedH U.vm := State.WarmedH.trans hW0 hW
  have hcl : s.vm.findClass nsX = some ce.cls := by
    have h9 := hOc
    rw [hvm] at h9
    exact h9
  have hall : s.sameButNew ({ U with vm := s.vm } : State) locs mc ms := by
    subst hA
    obtain ⟨e1, e2⟩ := hsame
    rw [State.setFrames_setFrames] at e1
    have h2 : (T.setVm s.vm).sameButNew ({ U with vm := s.vm } : State) [] (0 + 1) (0 + 6) := ⟨e1, e2⟩
    have h3 := X.same.trans h2
    rw [List.append_nil] at h3
    exact h3.mono hc hs
  refine ⟨U, ?_, .threw T.heap.size, hrun, hend, Or.inr ⟨T.heap.size, rfl, nsX, ce, locs, hx U hWs.alike f1 (fun q hq => f2 q hq (fun z hz => nomatch hz)), hce, hOv, hcl, hWs, hall, hf⟩⟩
  refine st1 _ ?_
  show Steps p.tables e below (T1.setTop { method := m, pc := pc + 3, locals := ls, stack := .ref T.heap.size :: rest, locked := none }) _
  jvm_step X₁.here [X₁.here.top, hexec, d3', Value.category]
  exact X₁.ldcStringW hexec (own := RX10) (text := text) (index := is) (a := sa) hown' hstr'.1 hstr'.2
    (g := { method := m, pc := pc + 4, locals := ls, stack := .ref T.heap.size :: .ref T.heap.size :: rest, locked := none }) rfl d4' _ hsteps
end NS2
section WWN
variable {l : Launch} {Z : EE} {M : MM} {d bc bs pc : Nat} {lv st : List Value} {h : PH} {Post : Res → PH → Prop}
theorem ww_throwN {ik is i : Nat} {tx : String} (ho : mm_own M = RX10) (d0 : decode (mm_c M) pc = .ok (.new ik, 3)) (d3 : decode (mm_c M) (pc + 3) = .ok (.dup, 1)) (d4 : decode (mm_c M) (pc + 4) = .ok (.ldc_w is, 3)) (d6 : decode (mm_c M) (pc + 7) = .ok (.invokespecial 351, 3)) (d9 : decode (mm_c M) (pc + 10) = .ok (.athrow, 1))
    (hs : js_own[i]? = some (mm_own M, is, tx)) (hat : (Cond.classLink RX10 ik nsX :: Cond.initialized nsX :: (nsW RX10 351).filter vx_no).all inTT = true) (hd : 6 ≤ d) (hcat : (st.map fun v => v.category).sum ≤ 8) (hh : mm_h M = []) (hp : Post (.inr nsX) h) : WW l Z M d (bc + 1) (bs + 6) pc lv st h Post := by
  intro p e s m args below meth c ws0 mc ms ws H locs cells slots rls rst C' S h1 h2
  obtain ⟨hx, hb, hr, hml, hown, hts, hlocks, htab, hK, hZ, hst, hnm⟩ := C'
  obtain ⟨hHR, hP, hD, hS, hL, hF, hE⟩ := S
  have hall : ∀ w ∈ Cond.classLink RX10 ik nsX :: Cond.initialized nsX :: (nsW RX10 351).filter vx_no, w.before args s = true ∧ vx_ot w = true := fun w hw => inTT_use (List.all_eq_true.mp hat w hw) hts hZ.2.2.2.2.2.2.2.1
  have z1 : (ee_rm d mc ms).cells = mc := rfl
  have z2 : (ee_rm d mc ms).slots = ms := rfl
  have z3 : (ee_rm d mc ms).frames = d := rfl
  have z4 : (ee_rm d mc ms).locals = 60 * d := rfl
  have hc2 := ee_F2.cats _ _ hF
  refine vx_throwNS (A := va_A ws0 s.heap.size) hx hb hst (by rw [← ho]; exact hown) (hall _ List.mem_cons_self).1 (hall _ (List.mem_cons_of_mem _ List.mem_cons_self)).1 (by have h9 := hZ.2.2.2.1 i _ hs; rw [ho] at h9; exact h9) (fun w hw => (hall w (List.mem_cons_of_mem _ (List.mem_cons_of_mem _ hw))).1) (fun w hw => (hall w hw).2) hZ.2.2.2.2.2.1 hZ.2.2.2.2.2.2.1 hS (hL.1.trans hml.symm) d0 d3 d4 d6 d9 (ee_noh hh htab _) (by rw [z3]; omega) (by rw [z4, hc2]; omega) (by rw [z1]; omega) (by rw [z2]; omega) hlocks ?_ hS.2.2 (by omega) (by omega)
  intro t ha hsz hq
  refine ⟨⟨h, ws, hp, hHR, hP.kept (fun k q hk => hq q.1 (hP k q hk).lt), hD, hE⟩, Nat.le_trans hS.1 hsz, fun q g1 g2 => ?_⟩
  rw [hq q (Nat.lt_of_lt_of_le g1 hS.1)]
  exact hS.2.1 q g1 g2
end WWN
theorem at_NSEE : (Cond.classLink RX10 347 nsX :: Cond.initialized nsX :: (nsW RX10 351).filter vx_no).all inTT = true := by decide +kernel
