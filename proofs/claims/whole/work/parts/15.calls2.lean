/-! ===== BEGIN a constructor that throws (launches without stack traces) ===== -/
section VXIA
variable {p : Program} {l : Launch} {e : Env} {R : Room} {s : State} {m : MethodId} {args : Array Value} {below : List Frame} {meth : Method} {c : Code} {T : State} {locs : List Loc} {cells slots : Nat}
theorem vx_callI (X : Stand p l e R s m args below meth c T locs cells slots) (hexec : p.tables.exec = Jvm.exec) {own : String} {index : Nat} {y : MethodName} {bytes : ByteArray} {maxL : Nat}
    (hown : s.vm.findClass own = some m.cls) (hy1 : y.name = "<init>") (hlink : (Cond.methodLink own index y).before args s = true) (hinst : (Cond.instanceMethod y).before args s = true)
    (hcode : (Cond.code y bytes maxL none).before args s = true) (hy : y.cls ≠ "java/lang/invoke/MethodHandle" ∧ y.cls ≠ "java/lang/invoke/VarHandle")
    {W9 : Nat} {Pre : Pt → Array Value → Prop} {Post : Pt → Array Value → Option Value → Pt → Prop} {PostX : Pt → Array Value → Addr → Pt → Prop} (hK : vx_Back l R p e below s args y 3 W9 Pre Post PostX)
    {g : JFrame} (hg : g.method = m) (hsize : g.locals.size = c.maxLocals) {a : Addr} {argsL rest : List Value} (hlen : ∀ sig, parseMethodDescriptor y.desc = some sig → argsL.length = sig.parameters.length)
    (hstack : g.stack = argsL.reverse ++ .ref a :: rest) (hW : 2 * g.monitorRoom + (rest.map fun v => v.category).sum ≤ W9) (hdg : decode c.code g.pc = .ok (.invokespecial index, 3))
    (hpre : ∀ vm₁, s.WarmedH vm₁ → Pre ⟨T.setVm vm₁, locs, cells, slots⟩ (Value.ref a :: argsL).toArray) :
    (∃ (v : Option Value) (vm₁ : Vm) (B : Pt), s.WarmedH vm₁ ∧ Stand p l e R s m args below meth c B.U B.locs B.cells B.slots ∧ Post ⟨T.setVm vm₁, locs, cells, slots⟩ (Value.ref a :: argsL).toArray v B ∧
      ∀ target, Steps p.tables e below (B.U.setTop { g with pc := g.pc + 3, stack := v.toList ++ rest }) target → Steps p.tables e below (T.setTop g) target) ∨
    (∃ (q : Addr) (vm₁ : Vm) (B : Pt), s.WarmedH vm₁ ∧ Stand p l e R s m args below meth c B.U B.locs B.cells B.slots ∧ PostX ⟨T.setVm vm₁, locs, cells, slots⟩ (Value.ref a :: argsL).toArray q B ∧
      Steps p.tables e below (T.setTop g) ((B.U.setTop { g with stack := rest }).pushFrame (.throwing q))) := by
  subst hg
  have hpl : e.platform.magicAccessors = ({} : Platform).magicAccessors := by rw [X.admits.platform]
  obtain ⟨mk, methM, cM, kP, vm₁, hnamed, hmethM, hcodeM, -, hlocalsM, -, hkP, -, hW₁, hstep₁⟩ := Steps.initColdArgs (e := e) X.here hexec X.warmed hpl hown hy1 hy hlink hinst hcode (f := g) rfl hlen hstack hdg
  have X₁ := X.noted hW₁
  rcases hK g.method meth c ⟨T.setVm vm₁, locs, cells, slots⟩ { g with stack := rest } (.invokespecial index) mk (Value.ref a :: argsL).toArray X₁ rfl hsize hdg hW (X₁.named hnamed) (hpre vm₁ X₁.warmed) with ⟨v, B, X', hpost, hsteps⟩ | ⟨q, B, X', hpost, hsteps⟩
  · exact Or.inl ⟨v, vm₁, B, X₁.warmed, X', hpost, fun target h => hstep₁ _ fun acts => by rw [doInvoke_state]; exact hsteps.trans h⟩
  · exact Or.inr ⟨q, vm₁, B, X₁.warmed, X', hpost, hstep₁ _ fun acts => by rw [doInvoke_state]; exact hsteps⟩
end VXIA
section VXIB
variable {p : Program} {l : Launch} {e : Env} {R : Room} {s : State} {m : MethodId} {args : Array Value} {below : List Frame} {meth : Method} {c : Code} {H : Heap} {locs : List Loc} {cells slots : Nat}
variable {y : MethodName} {bytes cc : ByteArray} {maxL nL mc ms n index : Nat} {ret : Option FieldType} {ws : List Cond} {rm : Room} {Pc : Array Value → State → Prop} {Qc : Array Value → State → Outcome → State → Prop} {XC : String → State → State → Prop} {free : Addr → Prop} {Ts : List Cond} {own C : String} {b : Addr} {As rest : List Value} {g : JFrame}
theorem vx_runI (S : CallFix p m c cc nL s args Ts own) (hM : vx_Met l y ws rm Pc Qc XC mc ms free) (cw : CallB R s args own index y bytes maxL none ws rm mc ms n ∧ y.name = "<init>" ∧ (Cond.instanceMethod y).before args s = true) (hp : PreS s H Pc (.ref b :: As))
    (hg : g.method = m) (hn : As.length = n) (hsize : g.locals.size = nL) (hstack : g.stack = As.reverse ++ .ref b :: rest) (hW : 2 * g.monitorRoom + (rest.map fun v => v.category).sum ≤ 8) (hdg : decode cc g.pc = .ok (.invokespecial index, 3)) (hf : cells + mc ≤ R.cells ∧ slots + ms ≤ R.slots) :
    vx_Run p l e R s m args below meth c H locs cells slots mc ms g rest (Qc (Value.ref b :: As).toArray) XC free := by
  have hK : vx_Back l R p e below s args y 3 8 (PreOf R mc ms Pc) (PostOf Qc mc ms free) (vx_Post XC mc ms free) := vx_callBack cw.1 hM hp.1
  obtain ⟨⟨-, -, -, -, -, -, hcode, -, hy, hlen, hl⟩, hy1, hin⟩ := cw
  obtain ⟨hx, hb, hml, ho, -⟩ := S
  have hPc := hp.2
  intro T hT X
  rcases vx_callI X hx (bytes := bytes) (maxL := maxL) ho hy1 hl hin hcode hy hK hg (hsize.trans hml.symm) (a := b) (argsL := As) (rest := rest) (fun sig h => hn.trans (hlen sig h)) hstack hW (by rw [hb]; exact hdg)
    (fun vm₁ hW₁ => ⟨hf.1, hf.2, hPc (T.setVm vm₁) hT hW₁⟩) with ⟨v, vm₁, ⟨U', l2, c2, s2⟩, hW₁, X', ⟨g', mk, t, L, e1, e2, hq, h1, hL, h2, h3⟩, st⟩ | ⟨q, vm₁, ⟨U', l2, c2, s2⟩, hW₁, X', ⟨g', mk, t, L, E, ce, e1, e2, hq, hce, hcv, hcl, h1, hL, h2, h3⟩, st⟩
  · dsimp only [Pt.U, Pt.locs, Pt.cells, Pt.slots] at X' e1 e2 h1 h2 h3 st
    subst h1; subst h2; subst h3
    exact Or.inl ⟨v, (T.setVm vm₁).calling g' mk (Value.ref b :: As).toArray, t, U', L, hT, X', hL, e1, e2, hq, st⟩
  · dsimp only [Pt.U, Pt.locs, Pt.cells, Pt.slots] at X' e1 e2 h1 h2 h3 st hcl
    subst h1; subst h2; subst h3
    exact Or.inr ⟨q, (T.setVm vm₁).calling g' mk (Value.ref b :: As).toArray, t, U', L, E, ce, hT, X', hL, e1, e2, hq, hce, hcv, vx_cls hW₁ hcl, st⟩
end VXIB
/-! ===== END ===== -/
/-! ===== BEGIN a private constructor of a nest mate that throws ===== -/
section VXIC
variable {p : Program} {l : Launch} {e : Env} {R : Room} {s : State} {m : MethodId} {args : Array Value} {below : List Frame} {meth : Method} {c : Code} {T : State} {locs : List Loc} {cells slots : Nat}
theorem vx_callIN (X : Stand p l e R s m args below meth c T locs cells slots) (hexec : p.tables.exec = Jvm.exec) {own : String} {index : Nat} {host : String} {y : MethodName} {bytes : ByteArray} {maxL : Nat}
    (hown : s.vm.findClass own = some m.cls) (hy1 : y.name = "<init>") (hlink : (Cond.methodLinkNest own index y host).before args s = true) (hinst : (Cond.instanceMethod y).before args s = true)
    (hcode : (Cond.code y bytes maxL none).before args s = true) (hy : y.cls ≠ "java/lang/invoke/MethodHandle" ∧ y.cls ≠ "java/lang/invoke/VarHandle")
    {W9 : Nat} {Pre : Pt → Array Value → Prop} {Post : Pt → Array Value → Option Value → Pt → Prop} {PostX : Pt → Array Value → Addr → Pt → Prop} (hK : vx_Back l R p e below s args y 3 W9 Pre Post PostX)
    {g : JFrame} (hg : g.method = m) (hsize : g.locals.size = c.maxLocals) {a : Addr} {argsL rest : List Value} (hlen : ∀ sig, parseMethodDescriptor y.desc = some sig → argsL.length = sig.parameters.length)
    (hstack : g.stack = argsL.reverse ++ .ref a :: rest) (hW : 2 * g.monitorRoom + (rest.map fun v => v.category).sum ≤ W9) (hdg : decode c.code g.pc = .ok (.invokespecial index, 3))
    (hpre : ∀ vm₁, s.WarmedH vm₁ → Pre ⟨T.setVm vm₁, locs, cells, slots⟩ (Value.ref a :: argsL).toArray) :
    (∃ (v : Option Value) (vm₁ : Vm) (B : Pt), s.WarmedH vm₁ ∧ Stand p l e R s m args below meth c B.U B.locs B.cells B.slots ∧ Post ⟨T.setVm vm₁, locs, cells, slots⟩ (Value.ref a :: argsL).toArray v B ∧
      ∀ target, Steps p.tables e below (B.U.setTop { g with pc := g.pc + 3, stack := v.toList ++ rest }) target → Steps p.tables e below (T.setTop g) target) ∨
    (∃ (q : Addr) (vm₁ : Vm) (B : Pt), s.WarmedH vm₁ ∧ Stand p l e R s m args below meth c B.U B.locs B.cells B.slots ∧ PostX ⟨T.setVm vm₁, locs, cells, slots⟩ (Value.ref a :: argsL).toArray q B ∧
      Steps p.tables e below (T.setTop g) ((B.U.setTop { g with stack := rest }).pushFrame (.throwing q))) := by
  subst hg
  have hpl : e.platform.magicAccessors = ({} : Platform).magicAccessors := by rw [X.admits.platform]
  obtain ⟨mk, methM, cM, kP, vm₁, hnamed, hmethM, hcodeM, -, hlocalsM, -, hkP, -, hW₁, hstep₁⟩ := Steps.initColdArgsNest (e := e) X.here hexec X.warmed hpl hown hy1 hy hlink hinst hcode (f := g) rfl hlen hstack hdg
  have X₁ := X.noted hW₁
  rcases hK g.method meth c ⟨T.setVm vm₁, locs, cells, slots⟩ { g with stack := rest } (.invokespecial index) mk (Value.ref a :: argsL).toArray X₁ rfl hsize hdg hW (X₁.named hnamed) (hpre vm₁ X₁.warmed) with ⟨v, B, X', hpost, hsteps⟩ | ⟨q, B, X', hpost, hsteps⟩
  · exact Or.inl ⟨v, vm₁, B, X₁.warmed, X', hpost, fun target h => hstep₁ _ fun acts => by rw [doInvoke_state]; exact hsteps.trans h⟩
  · exact Or.inr ⟨q, vm₁, B, X₁.warmed, X', hpost, hstep₁ _ fun acts => by rw [doInvoke_state]; exact hsteps⟩
end VXIC
section VXID
variable {p : Program} {l : Launch} {e : Env} {R : Room} {s : State} {m : MethodId} {args : Array Value} {below : List Frame} {meth : Method} {c : Code} {H : Heap} {locs : List Loc} {cells slots : Nat}
theorem vx_runIN {y : MethodName} {bytes cc : ByteArray} {maxL nL mc ms n index : Nat} {ws : List Cond} {rm : Room} {Pc : Array Value → State → Prop} {Qc : Array Value → State → Outcome → State → Prop} {XC : String → State → State → Prop} {free : Addr → Prop} {Ts : List Cond} {own host : String} {b : Addr} {As rest : List Value} {g : JFrame}
    (S : CallFix p m c cc nL s args Ts own) (hM : vx_Met l y ws rm Pc Qc XC mc ms free) (cw : va_CN R s args own index y host bytes maxL none ws rm mc ms n ∧ y.name = "<init>" ∧ (Cond.instanceMethod y).before args s = true) (hp : PreS s H Pc (.ref b :: As))
    (hg : g.method = m) (hn : As.length = n) (hsize : g.locals.size = nL) (hstack : g.stack = As.reverse ++ .ref b :: rest) (hW : 2 * g.monitorRoom + (rest.map fun v => v.category).sum ≤ 8) (hdg : decode cc g.pc = .ok (.invokespecial index, 3)) (hf : cells + mc ≤ R.cells ∧ slots + ms ≤ R.slots) :
    vx_Run p l e R s m args below meth c H locs cells slots mc ms g rest (Qc (Value.ref b :: As).toArray) XC free := by
  obtain ⟨⟨⟨hrc, hrs, hfr, hlo, hws, hcw⟩, hcode, hini, hy, hlen, hl⟩, hx1, hx2⟩ := cw
  have hK : vx_Back l R p e below s args y 3 8 (PreOf R mc ms Pc) (PostOf Qc mc ms free) (vx_Post XC mc ms free) := vx_back (bytes := bytes) (maxL := maxL) (ret := none) hM hp.1 hrc hrs hfr hlo hws hcw (fun a' U hW => word_at hW (Or.inl (by first | rfl | simp [Cond.onTables, Cond.keeps, Cond.steady])) hini)
  obtain ⟨hx, hb, hml, ho, -⟩ := S
  have hPc := hp.2
  intro T hT X
  rcases vx_callIN X hx (bytes := bytes) (maxL := maxL) ho hx1 hl hx2 hcode hy hK hg (hsize.trans hml.symm) (a := b) (argsL := As) (rest := rest) (fun sig h => hn.trans (hlen sig h)) hstack hW (by rw [hb]; exact hdg)
    (fun vm₁ hW₁ => ⟨hf.1, hf.2, hPc (T.setVm vm₁) hT hW₁⟩) with ⟨v, vm₁, ⟨U', l2, c2, s2⟩, hW₁, X', ⟨g', mk, t, L, e1, e2, hq, h1, hL, h2, h3⟩, st⟩ | ⟨q, vm₁, ⟨U', l2, c2, s2⟩, hW₁, X', ⟨g', mk, t, L, E, ce, e1, e2, hq, hce, hcv, hcl, h1, hL, h2, h3⟩, st⟩
  · dsimp only [Pt.U, Pt.locs, Pt.cells, Pt.slots] at X' e1 e2 h1 h2 h3 st
    subst h1; subst h2; subst h3
    exact Or.inl ⟨v, (T.setVm vm₁).calling g' mk (Value.ref b :: As).toArray, t, U', L, hT, X', hL, e1, e2, hq, st⟩
  · dsimp only [Pt.U, Pt.locs, Pt.cells, Pt.slots] at X' e1 e2 h1 h2 h3 st hcl
    subst h1; subst h2; subst h3
    exact Or.inr ⟨q, (T.setVm vm₁).calling g' mk (Value.ref b :: As).toArray, t, U', L, E, ce, hT, X', hL, e1, e2, hq, hce, hcv, vx_cls hW₁ hcl, st⟩
end VXID

section WWC
variable {l : Launch} {Z : EE} {M : MM} {d bc bs pc : Nat} {lv st : List Value} {h : PH} {Post : Res → PH → Prop}
theorem ww_newP {n idx : Nat} {x : Int32} (hd : decode (mm_c M) pc = .ok (.anewarray idx, 3)) (w : Cond.classLink (mm_own M) idx "WidowSeven$Past" ∈ TG) (hn : ¬ x < 0) (hx9 : x.toNatClampNeg = n) (hb9 : n * 4 ≤ 536870912) (hN : hp_N h < 1000000)
    (k : WW l Z M d bc bs (pc + 3) lv ((.ref (hp_N h)) :: st) (hp_new h 23 n (fun _ => .null) (fun _ => 0) (fun _ => 0)) Post) : WW l Z M d (bc + 1) (bs + n) pc lv ((.int x) :: st) h Post := by
  intro p e s m args below meth c ws0 mc ms ws H locs cells slots rls rst C' S h1 h2
  have C'' := C'
  obtain ⟨hx, hb, hr, hml, hown, hts, hlocks, htab, hK, hZ, hst, hnm⟩ := C''
  obtain ⟨hHR, hP, hD, hS, hL, hF, hE⟩ := S
  obtain ⟨v', r0, e0, qv, F1⟩ := hF.c
  subst e0
  cases (show v' = Value.int x from qv)
  have z1 : (ee_rm d mc ms).cells = mc := rfl
  have z2 : (ee_rm d mc ms).slots = ms := rfl
  refine va_newq (C := "WidowSeven$Past") hx hb hown (hts _ w) hZ.2.2.2.2.2.2.2.2.2 hK hP hD hS (fun q hq => Or.inr hq) hn hx9 hb9 (by rw [z1]; omega) (by rw [z2]; omega) hd (fun q cA H1 hK1 hP1 hD1 hS1 => ?_)
  have hcA : cA = Z.2.1 3 := by
    obtain ⟨_, _, -, -, -, g1⟩ := (hK.2 3 (Z.2.1 3, .object "WidowSeven$Past") rfl).2
    obtain ⟨_, _, -, -, -, g2⟩ := (hK1.2 (ee_tys Z).length (cA, .object "WidowSeven$Past") List.getElem?_concat_length).2
    exact Option.some.inj (g2.symm.trans g1)
  subst hcA
  have hx8 : ee_Ext ws (ws ++ [(q, Sum.inl (Z.2.1 3, n, Sum.inr (Sum.inr (Sum.inr (Sum.inr (fun _ => none))))))]) := ee_Ext.push ws _
  refine k p e s m args below meth c ws0 mc ms _ H1 locs (cells + 1) (slots + n) rls _ C' ⟨hHR.push hN (Or.inr (Or.inr (Or.inr (Or.inr ?_)))), hP1, hD1, hS1, hL.ext hx8, ⟨Or.inl ⟨q, _, by rw [← hHR.1]; exact List.getElem?_concat_length, rfl⟩, F1.ext hx8⟩, hE.tr hx8⟩ (by omega) (by omega)
  have e1 : hp_K (hp_new h 23 n (fun _ => .null) (fun _ => 0) (fun _ => 0)) (hp_N h) = (23, n) := by
    show (if hp_N h = hp_N h then (23, n) else hp_K h (hp_N h)) = _
    rw [if_pos rfl]
  have e2 : hp_F (hp_new h 23 n (fun _ => .null) (fun _ => 0) (fun _ => 0)) (hp_N h) = (fun _ => .null) := by
    show (if hp_N h = hp_N h then (fun _ => Value.null) else hp_F h (hp_N h)) = _
    rw [if_pos rfl]
  rw [e1, e2]
  exact ⟨rfl, fun _ => none, rfl, fun _ _ => rfl⟩
theorem ww_parts {idx : Nat} (hd : decode (mm_c M) pc = .ok (.getstatic idx, 3)) (w : Cond.fieldLink (mm_own M) idx "WidowSeven" "PARTS" "[I" ∈ TG) (k : WW l Z M d bc bs (pc + 3) lv ((.ref 1000000) :: st) h Post) : WW l Z M d bc bs pc lv st h Post := by
  intro p e s m args below meth c ws0 mc ms ws H locs cells slots rls rst C' S h1 h2
  have C'' := C'
  obtain ⟨hx, hb, hr, hml, hown, hts, hlocks, htab, hK, hZ, hst, hnm⟩ := C''
  obtain ⟨hHR, hP, hD, hS, hL, hF, hE⟩ := S
  refine va_gets hx hb hZ.1 hS hown (hts _ w) (fun _ h9 => h9) hd ?_
  exact k p e s m args below meth c ws0 mc ms ws H locs cells slots rls _ C' ⟨hHR, hP, hD, hS, hL, ⟨Or.inr ⟨Nat.le_refl _, rfl⟩, hF⟩, hE⟩ h1 h2
theorem ww_partsN {idx : Nat} {host : String} (hd : decode (mm_c M) pc = .ok (.getstatic idx, 3)) (w : Cond.fieldLinkNest (mm_own M) idx "WidowSeven" "PARTS" "[I" host ∈ TN) (k : WW l Z M d bc bs (pc + 3) lv ((.ref 1000000) :: st) h Post) : WW l Z M d bc bs pc lv st h Post := by
  intro p e s m args below meth c ws0 mc ms ws H locs cells slots rls rst C' S h1 h2
  have C'' := C'
  obtain ⟨hx, hb, hr, hml, hown, hts, hlocks, htab, hK, hZ, hst, hnm⟩ := C''
  obtain ⟨hHR, hP, hD, hS, hL, hF, hE⟩ := S
  refine va_getsN hx hb hZ.1 hS hown (va_Nw.use rfl (hZ.2.2.2.2.2.2.2.1 _ w)) (fun _ h9 => h9) hd ?_
  exact k p e s m args below meth c ws0 mc ms ws H locs cells slots rls _ C' ⟨hHR, hP, hD, hS, hL, ⟨Or.inr ⟨Nat.le_refl _, rfl⟩, hF⟩, hE⟩ h1 h2
theorem ww_pald {i : Int32} (hd : decode (mm_c M) pc = .ok (.iaload, 1)) (hi : vp_in i 61) (k : WW l Z M d bc bs (pc + 1) lv ((.int (js_parts.getD i.toNatClampNeg 0)) :: st) h Post) : WW l Z M d bc bs pc lv ((.int i) :: (.ref 1000000) :: st) h Post := by
  intro p e s m args below meth c ws0 mc ms ws H locs cells slots rls rst C' S h1 h2
  have C'' := C'
  obtain ⟨hx, hb, hr, hml, hown, hts, hlocks, htab, hK, hZ, hst, hnm⟩ := C''
  obtain ⟨hHR, hP, hD, hS, hL, hF, hE⟩ := S
  obtain ⟨v', r0, e0, qv, F1⟩ := hF.c
  subst e0
  cases (show v' = Value.int i from qv)
  obtain ⟨b0, r1, e1, q0, F2⟩ := F1.c
  subst e1
  have hb0 : b0 = .ref (Z.2.2 0) := by
    rcases q0 with ⟨a9, e9, g1, g2⟩ | ⟨-, g2⟩
    · have hlt := (List.getElem?_eq_some_iff.mp g1).1
      have r9 := hHR.1
      have r8 := hHR.2.1
      have hlt' : (1000000 : Nat) < ws.length := hlt
      omega
    · exact g2
  subst hb0
  refine va_ti hx hb hZ.2.1.1 hS hi rfl hd ?_
  exact k p e s m args below meth c ws0 mc ms ws H locs cells slots rls _ C' ⟨hHR, hP, hD, hS, hL, ⟨rfl, F2⟩, hE⟩ h1 h2
theorem ww_clone {a n idx : Nat} (hd : decode (mm_c M) pc = .ok (.invokevirtual idx, 3)) (hd2 : 1 ≤ d) (hcat : (st.map fun v => v.category).sum ≤ 8) (w1 : Cond.methodLink (mm_own M) idx ⟨"[I", "clone", "()Ljava/lang/Object;"⟩ ∈ TG) (w2 : Cond.sameMethod "[I" "java/lang/Object" "clone" "()Ljava/lang/Object;" ∈ TG) (w3 : Cond.native ⟨"java/lang/Object", "clone", "()Ljava/lang/Object;"⟩ ∈ TG) (w4 : Cond.instanceMethod ⟨"java/lang/Object", "clone", "()Ljava/lang/Object;"⟩ ∈ TG) (w5 : Cond.selects "[I" ⟨"[I", "clone", "()Ljava/lang/Object;"⟩ ⟨"java/lang/Object", "clone", "()Ljava/lang/Object;"⟩ ∈ TG) (w6 : Cond.castable "[I" "java/lang/Cloneable" ∈ TN)
    (hk : hp_K h a = (20, n)) (hN : hp_N h < 1000000) (k : WW l Z M d bc bs (pc + 3) lv ((.ref (hp_N h)) :: st) (hp_new h 20 n (fun _ => .null) (hp_I h a) (fun _ => 0)) Post) : WW l Z M d (bc + 1) (bs + n) pc lv ((.ref a) :: st) h Post := by
  intro p e s m args below meth c ws0 mc ms ws H locs cells slots rls rst C' S h1 h2
  have C'' := C'
  obtain ⟨hx, hb, hr, hml, hown, hts, hlocks, htab, hK, hZ, hst, hnm⟩ := C''
  obtain ⟨hHR, hP, hD, hS, hL, hF, hE⟩ := S
  obtain ⟨b0, r0, e0, q0, F1⟩ := hF.c
  subst e0
  obtain ⟨q1, g1, g4⟩ := hHR.arrI hk
  cases g4 _ q0
  have z1 : (ee_rm d mc ms).cells = mc := rfl
  have z2 : (ee_rm d mc ms).slots = ms := rfl
  have z3 : (ee_rm d mc ms).frames = d := rfl
  have z4 : (ee_rm d mc ms).locals = 60 * d := rfl
  have hcat2 := ee_F2.cats _ _ F1
  refine va_clone (ad := "[I") (ty := .int) hx hb (hml.trans hL.1.symm) hown (hts _ w1) (hts _ w2) (hts _ w3) (hts _ w4) (hts _ w5) (hZ.2.2.2.2.2.2.2.1 _ w6) hK hP hD hS (fun q hq => Or.inr hq) a 0 g1 rfl ((hK.2 0 (Z.2.1 0, .int) rfl).2) ?_ (by rw [z3]; exact hd2) (by rw [z4, hcat2]; omega) (by rw [z1]; omega) (by rw [z2]; show slots + n ≤ ms; omega) hd (fun q H1 hK1 hP1 hD1 hS1 => ?_)
  · intro i v hv
    have hv : (arrV (Z.2.1 0) n (fun j => Value.int (hp_I h a j))).slots[i]? = some v := hv
    by_cases hi : i < n
    · rw [arrV_read _ _ hi] at hv
      cases hv
      rfl
    · rw [Array.getElem?_eq_none (by rw [arrV_size]; omega)] at hv
      cases hv
  have hx8 : ee_Ext ws (ws ++ [(q, Sum.inl (Z.2.1 0, n, Sum.inl (hp_I h a)))]) := ee_Ext.push ws _
  refine k p e s m args below meth c ws0 mc ms _ H1 locs (cells + 1) (slots + n) rls _ C' ⟨hHR.push hN (Or.inr (Or.inl ?_)), hP1, hD1, hS1, hL.ext hx8, ⟨Or.inl ⟨q, _, by rw [← hHR.1]; exact List.getElem?_concat_length, rfl⟩, F1.ext hx8⟩, hE.tr hx8⟩ (by omega) (by omega)
  have e1 : hp_K (hp_new h 20 n (fun _ => .null) (hp_I h a) (fun _ => 0)) (hp_N h) = (20, n) := by
    show (if hp_N h = hp_N h then (20, n) else hp_K h (hp_N h)) = _
    rw [if_pos rfl]
  have e2 : hp_I (hp_new h 20 n (fun _ => .null) (hp_I h a) (fun _ => 0)) (hp_N h) = hp_I h a := by
    show (if hp_N h = hp_N h then hp_I h a else hp_I h (hp_N h)) = _
    rw [if_pos rfl]
  rw [e1, e2]
  exact ⟨rfl, rfl⟩
theorem ww_castI {a n idx : Nat} (hd : decode (mm_c M) pc = .ok (.checkcast idx, 3)) (w : Cond.classLink (mm_own M) idx "[I" ∈ TG) (hk : hp_K h a = (20, n)) (k : WW l Z M d bc bs (pc + 3) lv ((.ref a) :: st) h Post) : WW l Z M d bc bs pc lv ((.ref a) :: st) h Post := by
  intro p e s m args below meth c ws0 mc ms ws H locs cells slots rls rst C' S h1 h2
  have C'' := C'
  obtain ⟨hx, hb, hr, hml, hown, hts, hlocks, htab, hK, hZ, hst, hnm⟩ := C''
  obtain ⟨hHR, hP, hD, hS, hL, hF, hE⟩ := S
  obtain ⟨b0, r0, e0, q0, F1⟩ := hF.c
  subst e0
  obtain ⟨q, g1, g4⟩ := hHR.arrI hk
  have q1 := q0
  cases g4 _ q0
  refine va_castA (nm := "[I") hx hb hown (hts _ w) hP a g1 ((hK.2 0 (Z.2.1 0, .int) rfl).2) hd ?_
  exact k p e s m args below meth c ws0 mc ms ws H locs cells slots rls _ C' ⟨hHR, hP, hD, hS, hL, ⟨q1, F1⟩, hE⟩ h1 h2
theorem ww_copy {a b na nb idx : Nat} {sp dp n : Int32} (hd : decode (mm_c M) pc = .ok (.invokestatic idx, 3)) (hd2 : 1 ≤ d) (hcat : (st.map fun v => v.category).sum ≤ 8) (w1 : Cond.methodLink (mm_own M) idx arraycopyName ∈ TG) (w2 : Cond.native arraycopyName ∈ TG) (w3 : Cond.static arraycopyName ∈ TG) (w4 : Cond.initialized "java/lang/System" ∈ TG)
    (hka : hp_K h a = (20, na)) (hkb : hp_K h b = (20, nb)) (g1 : ¬ sp < 0) (g2 : ¬ dp < 0) (g3 : ¬ n < 0) (g4 : sp.toNatClampNeg + n.toNatClampNeg ≤ na) (g5 : dp.toNatClampNeg + n.toNatClampNeg ≤ nb)
    (k : WW l Z M d bc bs (pc + 3) lv st (hp_sI h b (va_cpy (hp_I h a) (hp_I h b) sp.toNatClampNeg dp.toNatClampNeg n.toNatClampNeg)) Post) : WW l Z M d bc bs pc lv ((.int n) :: (.int dp) :: (.ref b) :: (.int sp) :: (.ref a) :: st) h Post := by
  intro p e s m args below meth c ws0 mc ms ws H locs cells slots rls rst C' S h1 h2
  have C'' := C'
  obtain ⟨hx, hb, hr, hml, hown, hts, hlocks, htab, hK, hZ, hst, hnm⟩ := C''
  obtain ⟨hHR, hP, hD, hS, hL, hF, hE⟩ := S
  obtain ⟨y0, r0, e0, q0, F1⟩ := hF.c
  subst e0
  cases (show y0 = Value.int n from q0)
  obtain ⟨y1, r1, e1, q1, F2⟩ := F1.c
  subst e1
  cases (show y1 = Value.int dp from q1)
  obtain ⟨y2, r2, e2, q2, F3⟩ := F2.c
  subst e2
  obtain ⟨y3, r3, e3, q3, F4⟩ := F3.c
  subst e3
  cases (show y3 = Value.int sp from q3)
  obtain ⟨y4, r4, e4, q4, F5⟩ := F4.c
  subst e4
  obtain ⟨qa, ga1, ga2⟩ := hHR.arrI hka
  cases ga2 _ q4
  obtain ⟨qb, gb1, gb2⟩ := hHR.arrI hkb
  cases gb2 _ q2
  have z3 : (ee_rm d mc ms).frames = d := rfl
  have z4 : (ee_rm d mc ms).locals = 60 * d := rfl
  have hcat2 := ee_F2.cats _ _ F5
  have hnf : nativeFrameWords "java/lang/System" "arraycopy" 5 ≤ 40 := by decide +kernel
  refine va_copyi (ty := .int) hx hb (hml.trans hL.1.symm) hown (hts _ w1) (hts _ w2) (hts _ w3) (hts _ w4) hK hP hD hS a b 0 0 ga1 gb1 rfl rfl rfl g1 g2 g3 g4 g5 (fun _ _ => rfl) (by rw [z3]; exact hd2) (by rw [z4, hcat2]; omega) hd (fun H1 locs1 hP1 hD1 hS1 => ?_)
  exact k p e s m args below meth c ws0 mc ms _ H1 locs1 cells slots rls _ C' ⟨ee_sIR hHR hkb gb1, hP1, hD1, hS1, hL.ext (ee_Ext.set gb1), F5.ext (ee_Ext.set gb1), hE.tr (ee_Ext.set gb1)⟩ h1 h2
theorem ww_objInit {idx a : Nat} (hd : decode (mm_c M) pc = .ok (.invokespecial idx, 3)) (hd2 : 1 ≤ d) (hcat : (st.map fun v => v.category).sum ≤ 8) (w1 : Cond.methodLink (mm_own M) idx objectInit ∈ TG) (w2 : Cond.instanceMethod objectInit ∈ TG) (w3 : Cond.code objectInit ⟨#[0xb1]⟩ 1 none ∈ TG)
    (k : WW l Z M d bc bs (pc + 3) lv st h Post) : WW l Z M d bc bs pc lv ((.ref a) :: st) h Post := by
  intro p e s m args below meth c ws0 mc ms ws H locs cells slots rls rst C' S h1 h2
  have C'' := C'
  obtain ⟨hx, hb, hr, hml, hown, hts, hlocks, htab, hK, hZ, hst, hnm⟩ := C''
  obtain ⟨hHR, hP, hD, hS, hL, hF, hE⟩ := S
  obtain ⟨y0, r0, e0, q0, F1⟩ := hF.c
  subst e0
  have hcat2 := ee_F2.cats _ _ F1
  have z3 : (ee_rm d mc ms).frames = d := rfl
  have z4 : (ee_rm d mc ms).locals = 60 * d := rfl
  have hy : ∃ q, y0 = .ref q := by
    rcases q0 with ⟨a9, e9, g1, g2⟩ | ⟨-, g2⟩
    · exact ⟨_, g2⟩
    · exact ⟨_, g2⟩
  obtain ⟨q, rfl⟩ := hy
  refine W.objInit hx hb hown (hts _ w1) (hts _ w2) (hts _ w3) rfl (by rw [hml]; exact hL.1) rfl hd (by rw [z3]; exact hd2) (by rw [z4]; show 2 * 0 + _ + 12 ≤ _; rw [hcat2]; omega) ?_
  exact k p e s m args below meth c ws0 mc ms ws H locs cells slots rls _ C' ⟨hHR, hP, hD, hS, hL, F1, hE⟩ h1 h2
/-- behind a call -/
theorem ee_after {p : Program} {e : Env} {s : State} {m : MethodId} {args a0 : Array Value} {below : List Frame} {meth : Method} {c : Code} {ws0 ws : va_W} {mc ms mc' ms' cells slots : Nat} {H : Heap} {locs : List Loc} {rls : Array Slot} {st0 rrest : List Value} {P' : Res → PH → Prop}
    (hr : vx_Run p l e (ee_rm d mc ms) s m args below meth c H locs cells slots mc' ms' (F0 m pc rls st0) rrest (ee_Qc Z ws H.size P' a0) (ee_Xc Z ws H.size P') (va_A ws H.size)) (C : ee_Cx l Z M p s m args meth c ws0) (hD : va_D (va_A ws0 s.heap.size) ws) (hS : va_S (va_A ws0 s.heap.size) s.heap H locs) (hL : ee_LR Z ws (mm_L M) lv rls) (hF : ee_F2 (ee_VR Z ws) st rrest) (hE : ee_Ext ws0 ws)
    (h1 : cells + (bc + mc') ≤ mc) (h2 : slots + (bs + ms') ≤ ms) (hout : ∀ x ∈ c.exceptionTable.toList, covers x pc = false)
    (kk : ∀ v h', P' (.inl v) h' → WW l Z M d bc bs (pc + 3) lv (v.toList ++ st) h' Post) (kx : ∀ E h', P' (.inr E) h' → Post (.inr E) h') :
    W p l e (ee_rm d mc ms) s m args below meth c H locs cells slots (vx_MQ below (ee_Qc Z ws0 s.heap.size Post) (ee_Xc Z ws0 s.heap.size Post) args s mc ms (va_A ws0 s.heap.size)) (F0 m pc rls st0) := by
  have hAA := ee_AA hD hS
  intro T hT X
  rcases hr T hT X with ⟨v, st₀, t, T', L, g0, X', gL, e1, e2, ⟨⟨v0, ov, h', ws', hv, hp, hvr, hHR, hP', hD', hE'⟩, hFr⟩, st⟩ | ⟨q, st₀, t, T', L, E, ce, g0, X', gL, e1, e2, ⟨⟨h', ws', hp, hHR, hP', hD', hE'⟩, hFr⟩, hce, hcv, hcl, st⟩
  · cases hv
    obtain ⟨k1, k2, k3⟩ := vx_keep g0 e1 hS (fun q _ hq => hAA q hq) hAA gL hFr
    obtain ⟨t2, a1, b1⟩ := kk v0 h' hp p e s m args below meth c ws0 mc ms ws' T'.heap (locs ++ L) (cells + mc') (slots + ms') rls _ C ⟨hHR, by rw [e1]; exact hP', hD'.weaken (fun _ q _ hq => hAA q.1 hq), k3, hL.ext hE', ee_F2.app' _ _ _ _ hvr (hF.ext hE'), hE.tr hE'⟩ (by omega) (by omega) T' rfl X'
    exact ⟨t2, st t2 a1, b1⟩
  · obtain ⟨k1, k2, k3⟩ := vx_keep g0 e1 hS (fun q _ hq => hAA q hq) hAA gL hFr
    obtain ⟨t2, a1, b1⟩ := (vx_out (l := l) (p := p) (e := e) (R := ee_rm d mc ms) (s := s) (m := m) (args := args) (below := below) (meth := meth) (c := c) (H := T'.heap) (locs := locs ++ L) (cells := cells + mc') (slots := slots + ms') (ls := rls) (rest := rrest) (pc := pc) (Qc := ee_Qc Z ws0 s.heap.size Post) (XC := ee_Xc Z ws0 s.heap.size Post) (free := va_A ws0 s.heap.size) (E := E) (ce := ce) (q := q) (mc := mc) (ms := ms) hout C.2.2.2.2.2.2.1 (by rw [e1]; exact hce) hcv hcl
      (fun t9 ht9 _ => ⟨⟨h', ws', kx E h' hp, hHR, by rw [ht9, e1]; exact hP', hD'.weaken (fun _ q _ hq => hAA q.1 hq), hE.tr hE'⟩, k3.F ht9⟩) k3.2.2 (by omega) (by omega)) T' rfl X'
    exact ⟨t2, st.trans a1, b1⟩
theorem ee_PcB {ws : va_W} {sz : Nat} {argsR : List Value} : FrameBlind (ee_Pc Z ws sz argsR) := fun a U g mk q => by
  obtain ⟨q0, q1, qP, qK, qD, qZ⟩ := q
  exact ⟨q0, q1, qP, va_K.moved (u := U) (U := U.calling g mk a) (Vm.Alike.refl U.vm) qK, qD, ZZ.same (s := U) (U := U.calling g mk a) (H := U.heap) rfl qZ⟩
theorem ee_PcU {s : State} {ws0 ws : va_W} {H : Heap} {locs : List Loc} {argsR : List Value} (hP : va_P Z.1 vwCl ws H) (hK : va_K Z.1 vwCl (ee_tys Z) s) (hZ : ZZ Z (va_A ws0 s.heap.size) s s.heap) (hD : va_D (va_A ws0 s.heap.size) ws) (hS : va_S (va_A ws0 s.heap.size) s.heap H locs) (U : State) (hU : U.heap = H) (hW : s.WarmedH U.vm) : ee_Pc Z ws H.size argsR argsR.toArray U :=
  ⟨rfl, by rw [hU], by rw [hU]; exact hP, va_K.moved hW.alike hK, hD.weaken (fun _ _ _ _ => trivial), by
    rw [hU]
    exact ((hZ.kept (fun a h1 h2 => hS.2.1 a h1 h2)).narrow (ee_AA hD hS)).warm hW⟩
theorem ee_noh {c : Code} {M : MM} (hh : mm_h M = []) (htab : c.exceptionTable.toList = tableOf (mm_h M)) (pc : Nat) : ∀ x ∈ c.exceptionTable.toList, covers x pc = false := by
  intro x hx
  rw [htab, hh] at hx
  cases hx
/-- words of a call -/
def mm_ok (N : MM) (n : Nat) : Prop := (mm_y N).cls ≠ "java/lang/invoke/MethodHandle" ∧ (mm_y N).cls ≠ "java/lang/invoke/VarHandle" ∧ (parseMethodDescriptor (mm_y N).desc).map (fun d => d.parameters.length) = some n
theorem ww_callV {N : MM} {a t nn idx n d' mc' ms' : Nat} {T : u_T} {As : List Value} {P' : Res → PH → Prop} (hC : CC l Z N d' mc' ms' ((.ref a) :: As) h P') (hd : decode (mm_c M) pc = .ok (.invokevirtual idx, 3)) (hh : mm_h M = []) (hhN : mm_h N = []) (hk : hp_K h a = (t, nn)) (hc : vwCl[t]? = some ((mm_y N).cls, T, nn)) (hok : mm_ok N n) (hn : As.length = n)
    (w1 : Cond.methodLink (mm_own M) idx (mm_y N) ∈ TG) (w2 : Cond.instanceMethod (mm_y N) ∈ TG) (w3 : Cond.selects (mm_y N).cls (mm_y N) (mm_y N) ∈ TG) (w4 : Cond.initialized (mm_y N).cls ∈ TG) (w5 : Cond.code (mm_y N) (mm_c N) (mm_L N) (mm_r N) ∈ TG)
    (hdd : d' + 1 ≤ d) (hLL : mm_L N ≤ 41) (hcat : (st.map fun v => v.category).sum ≤ 8)
    (kk : ∀ v h', P' (.inl v) h' → WW l Z M d bc bs (pc + 3) lv (v.toList ++ st) h' Post) (kx : ∀ E h', P' (.inr E) h' → Post (.inr E) h') : WW l Z M d (bc + mc') (bs + ms') pc lv (As.reverse ++ (.ref a) :: st) h Post := by
  intro p e s m args below meth c ws0 mc ms ws H locs cells slots rls rst C' S h1 h2
  have C'' := C'
  obtain ⟨hx, hb, hr, hml, hown, hts, hlocks, htab, hK, hZ, hst, hnm⟩ := C''
  obtain ⟨hHR, hP, hD, hS, hL, hF, hE⟩ := S
  obtain ⟨m1, m2, rfl, G1, G2⟩ := ee_F2.app _ _ _ hF
  obtain ⟨b0, rrest, rfl, q0, F1⟩ := G2.c
  obtain ⟨q, fs, g1, g2, g3, g4⟩ := hHR.obj hk (ee_cl hc)
  have q1 := q0
  cases g4 _ q0
  have G3 := ee_F2.rev _ _ G1
  rw [List.reverse_reverse] at G3
  have z3 : (ee_rm d' mc' ms').frames + 1 ≤ (ee_rm d mc ms).frames := hdd
  have z4 : 8 + (mm_L N + 11) + (ee_rm d' mc' ms').locals ≤ (ee_rm d mc ms).locals := by show 8 + (mm_L N + 11) + 60 * d' ≤ 60 * d; omega
  have hM := hC ws H.size ((.ref q) :: m1.reverse) hHR ⟨q1, G3⟩
  have hgin : GoodIn TG (wsV (mm_own M) idx (mm_y N).cls (mm_y N) (mm_ws N)) := by
    intro w hw
    have hw2 : w ∈ TG := by
      simp only [wsV, mm_ws, mm_cd_nil hhN, List.mem_append, List.mem_cons, List.not_mem_nil, or_false] at hw
      rcases hw with (rfl | rfl | rfl | rfl) | (rfl | hw)
      · exact w1
      · exact w2
      · exact w3
      · exact w4
      · exact w5
      · exact hw
    exact tg_good w hw2
  have hlen : m1.reverse.length = n := by rw [List.length_reverse, ee_F2.len _ _ G1, List.length_reverse]; exact hn
  refine ee_after (mc' := mc') (ms' := ms') (st := st) (vx_runV (As := m1.reverse) (rest := rrest) ⟨hx, hb, hml, hown, hts⟩ hM (cwV n hts hgin (by unfold mm_ws; rw [mm_cd_nil hhN]) rfl rfl ⟨rfl, hok⟩ ⟨z3, z4⟩) ⟨ee_PcB, va_recv hK hP hc g1, fun U hU hW => ee_PcU hP hK hZ hD hS U hU hW⟩ rfl hlen hL.1 (by rw [List.reverse_reverse]) (lv_room (by rw [ee_F2.cats _ _ F1]; exact hcat)) hd ⟨?_, ?_⟩) C' hD hS hL F1 hE h1 h2 (ee_noh hh htab pc) kk kx
  · show cells + mc' ≤ mc; omega
  · show slots + ms' ≤ ms; omega
theorem ww_callS {N : MM} {idx n d' mc' ms' : Nat} {As : List Value} {P' : Res → PH → Prop} (hC : CC l Z N d' mc' ms' As h P') (hd : decode (mm_c M) pc = .ok (.invokestatic idx, 3)) (hh : mm_h M = []) (hhN : mm_h N = []) (hok : mm_ok N n) (hn : As.length = n)
    (w1 : Cond.methodLink (mm_own M) idx (mm_y N) ∈ TG) (w2 : Cond.static (mm_y N) ∈ TG) (w4 : Cond.initialized (mm_y N).cls ∈ TG) (w5 : Cond.code (mm_y N) (mm_c N) (mm_L N) (mm_r N) ∈ TG)
    (hdd : d' + 1 ≤ d) (hLL : mm_L N ≤ 41) (hcat : (st.map fun v => v.category).sum ≤ 8)
    (kk : ∀ v h', P' (.inl v) h' → WW l Z M d bc bs (pc + 3) lv (v.toList ++ st) h' Post) (kx : ∀ E h', P' (.inr E) h' → Post (.inr E) h') : WW l Z M d (bc + mc') (bs + ms') pc lv (As.reverse ++ st) h Post := by
  intro p e s m args below meth c ws0 mc ms ws H locs cells slots rls rst C' S h1 h2
  have C'' := C'
  obtain ⟨hx, hb, hr, hml, hown, hts, hlocks, htab, hK, hZ, hst, hnm⟩ := C''
  obtain ⟨hHR, hP, hD, hS, hL, hF, hE⟩ := S
  obtain ⟨m1, rrest, rfl, G1, F1⟩ := ee_F2.app _ _ _ hF
  have G3 := ee_F2.rev _ _ G1
  rw [List.reverse_reverse] at G3
  have z3 : (ee_rm d' mc' ms').frames + 1 ≤ (ee_rm d mc ms).frames := hdd
  have z4 : 8 + (mm_L N + 11) + (ee_rm d' mc' ms').locals ≤ (ee_rm d mc ms).locals := by show 8 + (mm_L N + 11) + 60 * d' ≤ 60 * d; omega
  have hM := hC ws H.size m1.reverse hHR G3
  have hgin : GoodIn TG (va_wsS (mm_own M) idx (mm_y N) (mm_ws N)) := by
    intro w hw
    have hw2 : w ∈ TG := by
      simp only [va_wsS, mm_ws, mm_cd_nil hhN, List.mem_append, List.mem_cons, List.not_mem_nil, or_false] at hw
      rcases hw with (rfl | rfl | rfl) | (rfl | hw)
      · exact w1
      · exact w2
      · exact w4
      · exact w5
      · exact hw
    exact tg_good w hw2
  have hlen : m1.reverse.length = n := by rw [List.length_reverse, ee_F2.len _ _ G1, List.length_reverse]; exact hn
  refine ee_after (mc' := mc') (ms' := ms') (st := st) (vx_runS (As := m1.reverse) (rest := rrest) ⟨hx, hb, hml, hown, hts⟩ hM (va_cwS n hts hgin (by unfold mm_ws; rw [mm_cd_nil hhN]) rfl rfl hok ⟨z3, z4⟩) ⟨ee_PcB, fun U hU hW => ee_PcU hP hK hZ hD hS U hU hW⟩ rfl hlen hL.1 (by rw [List.reverse_reverse]) (lv_room (by rw [ee_F2.cats _ _ F1]; exact hcat)) hd ⟨?_, ?_⟩) C' hD hS hL F1 hE h1 h2 (ee_noh hh htab pc) kk kx
  · show cells + mc' ≤ mc; omega
  · show slots + ms' ≤ ms; omega
theorem ww_callI {N : MM} {a idx n d' mc' ms' : Nat} {As : List Value} {P' : Res → PH → Prop} (hC : CC l Z N d' mc' ms' ((.ref a) :: As) h P') (hd : decode (mm_c M) pc = .ok (.invokespecial idx, 3)) (hh : mm_h M = []) (hhN : mm_h N = []) (hka : (hp_K h a).1 ≠ 99) (hok : mm_ok N n) (hn : As.length = n) (hi : (mm_y N).name = "<init>") (hrN : mm_r N = none)
    (w1 : Cond.methodLink (mm_own M) idx (mm_y N) ∈ TG) (w2 : Cond.instanceMethod (mm_y N) ∈ TG) (w4 : Cond.initialized (mm_y N).cls ∈ TG) (w5 : Cond.code (mm_y N) (mm_c N) (mm_L N) (mm_r N) ∈ TG)
    (hdd : d' + 1 ≤ d) (hLL : mm_L N ≤ 41) (hcat : (st.map fun v => v.category).sum ≤ 8)
    (kk : ∀ v h', P' (.inl v) h' → WW l Z M d bc bs (pc + 3) lv (v.toList ++ st) h' Post) (kx : ∀ E h', P' (.inr E) h' → Post (.inr E) h') : WW l Z M d (bc + mc') (bs + ms') pc lv (As.reverse ++ (.ref a) :: st) h Post := by
  intro p e s m args below meth c ws0 mc ms ws H locs cells slots rls rst C' S h1 h2
  have C'' := C'
  obtain ⟨hx, hb, hr, hml, hown, hts, hlocks, htab, hK, hZ, hst, hnm⟩ := C''
  obtain ⟨hHR, hP, hD, hS, hL, hF, hE⟩ := S
  obtain ⟨m1, m2, rfl, G1, G2⟩ := ee_F2.app _ _ _ hF
  obtain ⟨b0, rrest, rfl, q0, F1⟩ := G2.c
  obtain ⟨q, e9, g1, g2, g4⟩ := hHR.at (k := a) (t := (hp_K h a).1) (n := (hp_K h a).2) rfl hka
  have q1 := q0
  cases g4 _ q0
  have G3 := ee_F2.rev _ _ G1
  rw [List.reverse_reverse] at G3
  have z3 : (ee_rm d' mc' ms').frames + 1 ≤ (ee_rm d mc ms).frames := hdd
  have z4 : 8 + (mm_L N + 11) + (ee_rm d' mc' ms').locals ≤ (ee_rm d mc ms).locals := by show 8 + (mm_L N + 11) + 60 * d' ≤ 60 * d; omega
  have hM := hC ws H.size ((.ref q) :: m1.reverse) hHR ⟨q1, G3⟩
  have hgin : GoodIn TG (mm_ws N) := by
    intro w hw
    have hw2 : w ∈ TG := by
      simp only [mm_ws, mm_cd_nil hhN, List.mem_cons] at hw
      rcases hw with rfl | hw
      · exact w5
      · exact hw
    exact tg_good w hw2
  have hlen : m1.reverse.length = n := by rw [List.length_reverse, ee_F2.len _ _ G1, List.length_reverse]; exact hn
  refine ee_after (mc' := mc') (ms' := ms') (st := st) (vx_runI (As := m1.reverse) (rest := rrest) ⟨hx, hb, hml, hown, hts⟩ hM (cwI n hts hgin (by unfold mm_ws; rw [mm_cd_nil hhN, hrN]) rfl rfl (hts _ w4) (hts _ w1) (hts _ w2) hi hok ⟨z3, z4⟩) ⟨ee_PcB, fun U hU hW => ee_PcU hP hK hZ hD hS U hU hW⟩ rfl hlen hL.1 (by rw [List.reverse_reverse]) (lv_room (by rw [ee_F2.cats _ _ F1]; exact hcat)) hd ⟨?_, ?_⟩) C' hD hS hL F1 hE h1 h2 (ee_noh hh htab pc) kk kx
  · show cells + mc' ≤ mc; omega
  · show slots + ms' ≤ ms; omega
theorem ww_callIN {N : MM} {host : String} {a idx n d' mc' ms' : Nat} {As : List Value} {P' : Res → PH → Prop} (hC : CC l Z N d' mc' ms' ((.ref a) :: As) h P') (hd : decode (mm_c M) pc = .ok (.invokespecial idx, 3)) (hh : mm_h M = []) (hhN : mm_h N = []) (hka : (hp_K h a).1 ≠ 99) (hok : mm_ok N n) (hn : As.length = n) (hi : (mm_y N).name = "<init>") (hrN : mm_r N = none)
    (w1 : Cond.methodLinkNest (mm_own M) idx (mm_y N) host ∈ TN) (w2 : Cond.instanceMethod (mm_y N) ∈ TG) (w4 : Cond.initialized (mm_y N).cls ∈ TG) (w5 : Cond.code (mm_y N) (mm_c N) (mm_L N) (mm_r N) ∈ TG)
    (hdd : d' + 1 ≤ d) (hLL : mm_L N ≤ 41) (hcat : (st.map fun v => v.category).sum ≤ 8)
    (kk : ∀ v h', P' (.inl v) h' → WW l Z M d bc bs (pc + 3) lv (v.toList ++ st) h' Post) (kx : ∀ E h', P' (.inr E) h' → Post (.inr E) h') : WW l Z M d (bc + mc') (bs + ms') pc lv (As.reverse ++ (.ref a) :: st) h Post := by
  intro p e s m args below meth c ws0 mc ms ws H locs cells slots rls rst C' S h1 h2
  have C'' := C'
  obtain ⟨hx, hb, hr, hml, hown, hts, hlocks, htab, hK, hZ, hst, hnm⟩ := C''
  obtain ⟨hHR, hP, hD, hS, hL, hF, hE⟩ := S
  obtain ⟨m1, m2, rfl, G1, G2⟩ := ee_F2.app _ _ _ hF
  obtain ⟨b0, rrest, rfl, q0, F1⟩ := G2.c
  obtain ⟨q, e9, g1, g2, g4⟩ := hHR.at (k := a) (t := (hp_K h a).1) (n := (hp_K h a).2) rfl hka
  have q1 := q0
  cases g4 _ q0
  have G3 := ee_F2.rev _ _ G1
  rw [List.reverse_reverse] at G3
  have z3 : (ee_rm d' mc' ms').frames + 1 ≤ (ee_rm d mc ms).frames := hdd
  have z4 : 8 + (mm_L N + 11) + (ee_rm d' mc' ms').locals ≤ (ee_rm d mc ms).locals := by show 8 + (mm_L N + 11) + 60 * d' ≤ 60 * d; omega
  have hM := hC ws H.size ((.ref q) :: m1.reverse) hHR ⟨q1, G3⟩
  have hgin : GoodIn TG (mm_ws N) := by
    intro w hw
    have hw2 : w ∈ TG := by
      simp only [mm_ws, mm_cd_nil hhN, List.mem_cons] at hw
      rcases hw with rfl | hw
      · exact w5
      · exact hw
    exact tg_good w hw2
  have hlen : m1.reverse.length = n := by rw [List.length_reverse, ee_F2.len _ _ G1, List.length_reverse]; exact hn
  refine ee_after (mc' := mc') (ms' := ms') (st := st) (vx_runIN (As := m1.reverse) (rest := rrest) ⟨hx, hb, hml, hown, hts⟩ hM ⟨va_cnB n hts hgin (by unfold mm_ws; rw [mm_cd_nil hhN, hrN]) rfl rfl (hZ.2.2.2.2.2.2.2.1 _ w1) (hts _ w4) hok ⟨z3, z4⟩, hi, hts _ w2⟩ ⟨ee_PcB, fun U hU hW => ee_PcU hP hK hZ hD hS U hU hW⟩ rfl hlen hL.1 (by rw [List.reverse_reverse]) (lv_room (by rw [ee_F2.cats _ _ F1]; exact hcat)) hd ⟨?_, ?_⟩) C' hD hS hL F1 hE h1 h2 (ee_noh hh htab pc) kk kx
  · show cells + mc' ≤ mc; omega
  · show slots + ms' ≤ ms; omega
end WWC
