theorem vx_ofWF {l : Launch} {y : MethodName} {ws ws' : List Cond} {rm : Room} {Pc : Array Value → State → Prop} {Qc : Array Value → State → Outcome → State → Prop} {XC : String → State → State → Prop} {mc ms : Nat} {free : Addr → Prop} {cc : ByteArray} {maxL : Nat} {ret : Option FieldType}
    (hy : plainFor y = true) (hw : ws = Cond.code y cc maxL ret :: ws')
    (body : ∀ p e s m args below meth c s₁, BodyLoose p l y (headSpec ws rm) cc maxL ret e s m args below meth c s₁ → c.maxLocals = maxL → (∀ x ∈ c.exceptionTable.toList, False) → Pc args s →
      W p l e (headSpec ws rm).room s m args below meth c s.heap [] 0 0 (vx_MQ below Qc XC args s mc ms free) (entryFrame m args maxL)) : vx_Met l y ws rm Pc Qc XC mc ms free := by
  refine MetFree.of_bodySF (code := cc) (maxLocals := maxL) (ret := ret) hy ?_ ?_
  · intro args s m h hn
    obtain ⟨meth, c, h1, h2, h3, h4, h5, h6, -, -⟩ := Cond.code_spec hn (atoms_spec (ws := ws) h _ (by rw [hw]; exact List.mem_cons_self))
    exact ⟨meth, c, h1, h2, h3, h4, h5, h6⟩
  · intro p e s m args below meth c s₁ B hml hP _
    have hh0 : s₁.heap = s.heap := by rw [B.state]; rfl
    have ht : ∀ x ∈ c.exceptionTable.toList, False := by
      obtain ⟨meth9, c9, h1, h2, -, -, -, -, h7, -⟩ := Cond.code_spec B.named (atoms_spec (ws := ws) B.pre _ (by rw [hw]; exact List.mem_cons_self))
      cases Option.some.inj (h1.symm.trans B.method)
      cases Option.some.inj (h2.symm.trans (Stand.of_body B).code)
      intro x hx
      rw [Array.isEmpty_iff.mp h7] at hx
      cases hx
    obtain ⟨t, a1, o, b1, b2, b3⟩ := body p e s m args below meth c s₁ B hml ht hP s₁ hh0 (Stand.of_body B)
    exact ⟨t, o, a1, b1, b2, b3⟩
theorem ee_entryF {l : Launch} {Z : EE} {M : MM} {d mc ms : Nat} {args : List Value} {h : PH} {Post : Res → PH → Prop} (hst : l.stackTraces = false) (hy : plainFor (mm_y M) = true) (ho : (mm_y M).cls = mm_own M) (hh : mm_h M = []) (hc : ∀ v ∈ args, v.category = 1) (hn : args.length ≤ mm_L M)
    (k : WW l Z M d mc ms 0 (ee_lv args (mm_L M)) [] h Post) : CC l Z M d mc ms args h Post := by
  intro ws sz argsR hHR hA
  refine vx_ofWF (cc := mm_c M) (maxL := mm_L M) (ret := mm_r M) (ws' := TG) hy (by unfold mm_ws; rw [mm_cd_nil hh]) ?_
  intro p e s m args0 below meth c s₁ B hml htab hv
  obtain ⟨rfl, hsz, hP, hK, hD0, hZ⟩ := hv
  have hts := atoms_spec (ws := mm_ws M) B.pre
  have hown : s.vm.findClass (mm_own M) = some m.cls := by rw [← ho]; exact findClass_of_methodNamed B.named
  have hin : meth.name = (mm_y M).name := (name_of_methodNamed B.named B.method).1
  subst hsz
  have hlen : (lg_sl argsR).length ≤ mm_L M := by rw [ee_slen Z ws args argsR hA hc]; exact hn
  have hl := lv_entry argsR (n := mm_L M) hlen
  rw [lg_entry_eq]
  have htb : c.exceptionTable.toList = tableOf (mm_h M) := by
    rw [hh]
    cases hq : c.exceptionTable.toList with
    | nil => rfl
    | cons x t => exact (htab x (by rw [hq]; exact List.mem_cons_self)).elim
  refine k p e s m argsR.toArray below meth c ws mc ms ws s.heap [] 0 0 _ [] ⟨B.exec, B.bytes, B.returns, hml, hown, fun w hw => hts w (List.mem_cons_of_mem _ hw), B.notSynchronized, htb, hK, hZ, hst, hin⟩ ⟨hHR, hP, hD0.self, va_S.rf, ⟨hl.1, hl.2.1, ?_⟩, trivial, ee_Ext.rf ws⟩ (by omega) (by omega)
  intro i v hi
  unfold ee_lv at hi
  by_cases hil : i < args.length
  · rw [List.getElem?_append_left hil] at hi
    obtain ⟨v', g1, g2⟩ := ee_pad args argsR Z ws hA 0 0 [] hc i v hi
    rw [Nat.zero_add] at g2
    exact Or.inr ⟨v', g1, hl.2.2 (i, v') (List.mem_of_getElem? g2)⟩
  · rw [List.getElem?_append_right (by omega)] at hi
    exact Or.inl (List.eq_of_mem_replicate (List.mem_of_getElem? hi))
