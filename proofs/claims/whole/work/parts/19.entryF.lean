theorem vx_ofWF {l : Launch} {y : MethodName} {ws ws' : List Cond} {rm : Room} {Pc : Array Value → State → Prop} {Qc : Array Value → State → Outcome → State → Prop} {XC : String → State → State → Prop} {mc ms : Nat} {free : Addr → Prop} {cc : ByteArray} {maxL : Nat} {ret : Option FieldType}
    (hy : plainFor y = true) (hw : ws = Cond.code y cc maxL ret :: ws')
    (body : ∀ p e s m args below meth c s₁, BodyLoose p l y (headSpec ws rm) cc maxL ret e s m args below meth c s₁ → c.maxLocals = maxL → (∀ x ∈ c.exceptionTable.toList, False) → Pc args s →
      W p l e (headSpec ws rm).room s m args below meth c s.heap [] 0 0 (vx_MQ below Qc XC args s mc ms free) (entryFrame m args maxL)) : vx_Met l y ws rm Pc Qc XC mc ms free := by
  refine MetFree.of_bodySF (code := cc) (maxLocals := maxL) (ret := ret) hy ?_ ?_
  · intro args s m h hn
    obtain ⟨meth, c, h1, h2, h3, h4, h5, h6, -, -⟩ := Cond.code_spec hn (atoms_spec (ws := ws) h _ (by rw [hw]; exact List.mem_cons_self))
    exact ⟨meth, c, h1, h2, h3, h4, h5, h6⟩
  · intro p e s m args below meth c s₁ B hml hP _
    have hh0 : s₁.heap = s.heap := by rw [B.state]; rfl
    have ht : ∀ x ∈ c.exceptionTable.toList, False := by
      obtain ⟨meth9, c9, h1, h2, -, -, -, -, h7, -⟩ := Cond.code_spec B.named (atoms_spec (ws := ws) B.pre _ (by rw [hw]; exact List.mem_cons_self))
      cases Option.some.inj (h1.symm.trans B.method)
      cases Option.some.inj (h2.symm.trans (Stand.of_body B).code)
      intro x hx
      rw [Array.isEmpty_iff.mp h7] at hx
      cases hx
    obtain ⟨t, a1, o, b1, b2, b3⟩ := body p e s m args below meth c s₁ B hml ht hP s₁ hh0 (Stand.of_body B)
    exact ⟨t, o, a1, b1, b2, b3⟩
theorem ee_entryF {l : Launch} {Z : EE} {M : MM} {d mc ms : Nat} {args : List Value} {h : PH} {Post : Res → PH → Prop} (hst : l.stackTraces = false) (hy : plainFor (mm_y M) = true) (ho : (mm_y M).cls = mm_own M) (hh : mm_h M = []) (hc : ∀ v ∈ args, v.category = 1) (hn : args.length ≤ mm_L M)
    (k : WW l Z M d mc ms 0 (ee_lv args (mm_L M)) [] h Post) : CC l Z M d mc ms args h Post := by
  intro ws sz argsR hHR hA
  refine vx_ofWF (cc := mm_c M) (maxL := mm_L M) (ret := mm_r M) (ws' := TG) hy (by unfold mm_ws; rw [mm_cd_nil hh]) ?_
  intro p e s m args0 below meth c s₁ B hml htab hv
  obtain ⟨rfl, hsz, hP, hK, hD0, hZ⟩ := hv
  have hts := atoms_spec (ws := mm_ws M) B.pre
  have hown : s.vm.findClass (mm_own M) = some m.cls := by rw [← ho]; exact findClass_of_methodNamed B.named
  have hin : meth.name = (mm_y M).name := (name_of_methodNamed B.named B.method).1
  subst hsz
  have hlen : (lg_sl argsR).length ≤ mm_L M := by rw [ee_slen Z ws args argsR hA hc]; exact hn
  have hl := lv_entry argsR (n := mm_L M) hlen
  rw [lg_entry_eq]
  have htb : c.exceptionTable.toList = tableOf (mm_h M) := by
    rw [hh]
    cases hq : c.exceptionTable.toList with
    | nil => rfl
    | cons x t => exact (htab x (by rw [hq]; exact List.mem_cons_self)).elim
  refine k p e s m argsR.toArray below meth c ws mc ms ws s.heap [] 0 0 _ [] ⟨B.exec, B.bytes, B.returns, hml, hown, fun w hw => hts w (List.mem_cons_of_mem _ hw), B.notSynchronized, htb, hK, hZ, hst, hin⟩ ⟨hHR, hP, hD0.self, va_S.rf, ⟨hl.1, hl.2.1, ?_⟩, trivial, ee_Ext.rf ws⟩ (by omega) (by omega)
  intro i v hi
  unfold ee_lv at hi
  by_cases hil : i < args.length
  · rw [List.getElem?_append_left hil] at hi
    obtain ⟨v', g1, g2⟩ := ee_pad args argsR Z ws hA 0 0 [] hc i v hi
    rw [Nat.zero_add] at g2
    exact Or.inr ⟨v', g1, hl.2.2 (i, v') (List.mem_of_getElem? g2)⟩
  · rw [List.getElem?_append_right (by omega)] at hi
    exact Or.inl (List.eq_of_mem_replicate (List.mem_of_getElem? hi))
def RQ (v : Option Value) (Q : PH → Prop) : Res → PH → Prop := fun r h' => r = .inl v ∧ Q h'
/-- only the ints and longs of arrays in X and the fields in Y may have changed -/
def Same (X : Nat → Prop) (Y : Nat → Nat → Prop) (h h' : PH) : Prop := hp_N h' = hp_N h ∧ (∀ a, hp_K h' a = hp_K h a) ∧ (∀ a j, ¬ Y a j → hp_F h' a j = hp_F h a j) ∧ (∀ a, ¬ X a → hp_I h' a = hp_I h a) ∧ (∀ a, ¬ X a → hp_L h' a = hp_L h a)
theorem Same.rf {X : Nat → Prop} {Y : Nat → Nat → Prop} {h : PH} : Same X Y h h := ⟨rfl, fun _ => rfl, fun _ _ _ => rfl, fun _ _ => rfl, fun _ _ => rfl⟩
theorem Same.tr {X : Nat → Prop} {Y : Nat → Nat → Prop} {h h1 h2 : PH} (a : Same X Y h h1) (b : Same X Y h1 h2) : Same X Y h h2 :=
  ⟨b.1.trans a.1, fun c => (b.2.1 c).trans (a.2.1 c), fun c j z => (b.2.2.1 c j z).trans (a.2.2.1 c j z), fun c z => (b.2.2.2.1 c z).trans (a.2.2.2.1 c z), fun c z => (b.2.2.2.2 c z).trans (a.2.2.2.2 c z)⟩
theorem Same.mono {X X2 : Nat → Prop} {Y Y2 : Nat → Nat → Prop} {h h1 : PH} (a : Same X Y h h1) (hX : ∀ c, X c → X2 c) (hY : ∀ c j, Y c j → Y2 c j) : Same X2 Y2 h h1 :=
  ⟨a.1, a.2.1, fun c j z => a.2.2.1 c j (fun q => z (hY c j q)), fun c z => a.2.2.2.1 c (fun q => z (hX c q)), fun c z => a.2.2.2.2 c (fun q => z (hX c q))⟩
theorem Same.sI {X : Nat → Prop} {Y : Nat → Nat → Prop} {h h1 : PH} (a : Same X Y h h1) {b : Nat} {f : Nat → Int32} (hb : X b) : Same X Y h (hp_sI h1 b f) := by
  refine ⟨a.1, a.2.1, a.2.2.1, fun c z => ?_, a.2.2.2.2⟩
  have hne : c ≠ b := fun e => z (by rw [e]; exact hb)
  exact (hp_I_ne hne).trans (a.2.2.2.1 c z)
theorem Same.sL {X : Nat → Prop} {Y : Nat → Nat → Prop} {h h1 : PH} (a : Same X Y h h1) {b : Nat} {f : Nat → Int64} (hb : X b) : Same X Y h (hp_sL h1 b f) := by
  refine ⟨a.1, a.2.1, a.2.2.1, a.2.2.2.1, fun c z => ?_⟩
  have hne : c ≠ b := fun e => z (by rw [e]; exact hb)
  show (if c = b then f else hp_L h1 c) = hp_L h c
  rw [if_neg hne]
  exact a.2.2.2.2 c z
theorem Same.sF {X : Nat → Prop} {Y : Nat → Nat → Prop} {h h1 : PH} (a : Same X Y h h1) {b k : Nat} {v : Value} (hb : Y b k) : Same X Y h (hp_sF h1 b k v) := by
  refine ⟨a.1, a.2.1, fun c j z => ?_, a.2.2.2.1, a.2.2.2.2⟩
  have hne : ¬ (c = b ∧ j = k) := fun e => z (by rw [e.1, e.2]; exact hb)
  show (if c = b ∧ j = k then v else hp_F h1 c j) = hp_F h c j
  rw [if_neg hne]
  exact a.2.2.1 c j z
section WWQ
variable {l : Launch} {Z : EE} {M : MM} {d bc bs pc : Nat} {lv lv2 st : List Value} {h : PH} {Post : Res → PH → Prop}
theorem ww_cVq {N : MM} {a t nn idx n d' mc' ms' : Nat} {T : u_T} {As stk : List Value} {v : Value} {Q : PH → Prop} (hC : CC l Z N d' mc' ms' ((.ref a) :: As) h (RQ (some v) Q)) (hV : mm_V N n) (hd : decode (mm_c M) pc = .ok (.invokevirtual idx, 3)) (w1 : Cond.methodLink (mm_own M) idx (mm_y N) ∈ TG) (hk : hp_K h a = (t, nn)) (hc : vwCl[t]? = some ((mm_y N).cls, T, nn)) (hn : As.length = n) (hs : stk = As.reverse ++ (.ref a) :: st) (hh : mm_h M = []) (hdd : d' + 1 ≤ d) (hcat : (st.map fun v => v.category).sum ≤ 8) {bc0 bs0 : Nat} (hbc : bc + mc' ≤ bc0) (hbs : bs + ms' ≤ bs0)
    (kk : ∀ h', Q h' → WW l Z M d bc bs (pc + 3) lv (v :: st) h' Post) : WW l Z M d bc0 bs0 pc lv stk h Post :=
  ww_cV hC hV hd w1 hk hc hn hs hh hdd hcat hbc hbs (fun v9 h9 hp => by obtain ⟨e1, hq⟩ := hp; cases e1; exact kk h9 hq) (fun E h9 hp => by cases hp.1)
theorem ww_cVq0 {N : MM} {a t nn idx n d' mc' ms' : Nat} {T : u_T} {As stk : List Value} {Q : PH → Prop} (hC : CC l Z N d' mc' ms' ((.ref a) :: As) h (RQ none Q)) (hV : mm_V N n) (hd : decode (mm_c M) pc = .ok (.invokevirtual idx, 3)) (w1 : Cond.methodLink (mm_own M) idx (mm_y N) ∈ TG) (hk : hp_K h a = (t, nn)) (hc : vwCl[t]? = some ((mm_y N).cls, T, nn)) (hn : As.length = n) (hs : stk = As.reverse ++ (.ref a) :: st) (hh : mm_h M = []) (hdd : d' + 1 ≤ d) (hcat : (st.map fun v => v.category).sum ≤ 8) {bc0 bs0 : Nat} (hbc : bc + mc' ≤ bc0) (hbs : bs + ms' ≤ bs0)
    (kk : ∀ h', Q h' → WW l Z M d bc bs (pc + 3) lv st h' Post) : WW l Z M d bc0 bs0 pc lv stk h Post :=
  ww_cV hC hV hd w1 hk hc hn hs hh hdd hcat hbc hbs (fun v9 h9 hp => by obtain ⟨e1, hq⟩ := hp; cases e1; exact kk h9 hq) (fun E h9 hp => by cases hp.1)
theorem ww_cSq {N : MM} {idx n d' mc' ms' : Nat} {As stk : List Value} {v : Value} {Q : PH → Prop} (hC : CC l Z N d' mc' ms' As h (RQ (some v) Q)) (hV : mm_S N n) (hd : decode (mm_c M) pc = .ok (.invokestatic idx, 3)) (w1 : Cond.methodLink (mm_own M) idx (mm_y N) ∈ TG) (hn : As.length = n) (hs : stk = As.reverse ++ st) (hh : mm_h M = []) (hdd : d' + 1 ≤ d) (hcat : (st.map fun v => v.category).sum ≤ 8) {bc0 bs0 : Nat} (hbc : bc + mc' ≤ bc0) (hbs : bs + ms' ≤ bs0)
    (kk : ∀ h', Q h' → WW l Z M d bc bs (pc + 3) lv (v :: st) h' Post) : WW l Z M d bc0 bs0 pc lv stk h Post :=
  ww_cS hC hV hd w1 hn hs hh hdd hcat hbc hbs (fun v9 h9 hp => by obtain ⟨e1, hq⟩ := hp; cases e1; exact kk h9 hq) (fun E h9 hp => by cases hp.1)
end WWQ
theorem cc_post {l : Launch} {Z : EE} {M : MM} {d mc ms : Nat} {args : List Value} {h : PH} {P Q : Res → PH → Prop} (hPQ : ∀ r h', P r h' → Q r h') (k : CC l Z M d mc ms args h P) : CC l Z M d mc ms args h Q := by
  intro ws sz argsR hHR hA p e h1 h2 h3 s m args0 below hf happ hP hK
  obtain ⟨n, o, a1, a2, a3, a4⟩ := k ws sz argsR hHR hA p e h1 h2 h3 s m args0 below hf happ hP hK
  refine ⟨n, o, a1, a2, a3, ?_⟩
  rcases a4 with ⟨⟨⟨v, ov, h', ws', q1, q2, q3⟩, q4⟩, q5⟩ | ⟨q, q0, E, ce, L, ⟨⟨h', ws', q1, q2⟩, q3⟩, q4⟩
  · exact Or.inl ⟨⟨⟨v, ov, h', ws', q1, hPQ _ _ q2, q3⟩, q4⟩, q5⟩
  · exact Or.inr ⟨q, q0, E, ce, L, ⟨⟨h', ws', hPQ _ _ q1, q2⟩, q3⟩, q4⟩
/-- fewer locals known -/
def ee_sub : List Value → List Value → Prop
  | [], _ => True
  | v :: t, w :: u => (v = UU ∨ v = w) ∧ ee_sub t u
  | _ :: _, [] => False
theorem ee_sub_at : ∀ (l m : List Value) (i : Nat) (v : Value), ee_sub l m → l[i]? = some v → v = UU ∨ m[i]? = some v
  | [], _, _, _, _, h => by simp at h
  | a :: l, b :: m, 0, v, h, e => by cases (Option.some.inj e); exact h.1.imp id (fun q => by rw [q]; rfl)
  | a :: l, b :: m, i + 1, v, h, e => ee_sub_at l m i v h.2 e
  | _ :: _, [], _, _, h, _ => h.elim
theorem ww_fg {l : Launch} {Z : EE} {M : MM} {d bc bs pc : Nat} {lv lv2 st : List Value} {h : PH} {Post : Res → PH → Prop} (e : ee_sub lv2 lv) (k : WW l Z M d bc bs pc lv2 st h Post) : WW l Z M d bc bs pc lv st h Post := by
  intro p e9 s m args below meth c ws0 mc ms ws H locs cells slots rls rst C' S h1 h2
  obtain ⟨hHR, hP, hD, hS, hL, hF, hE⟩ := S
  refine k p e9 s m args below meth c ws0 mc ms ws H locs cells slots rls rst C' ⟨hHR, hP, hD, hS, ⟨hL.1, hL.2.1, fun i v hi => ?_⟩, hF, hE⟩ h1 h2
  rcases ee_sub_at lv2 lv i v e hi with q | q
  · exact Or.inl q
  · exact hL.2.2 i v q
theorem ww_decN {l : Launch} {Z : EE} {M : MM} {d bc bs pc : Nat} {lv lv2 st : List Value} {h : PH} {Post : Res → PH → Prop} {i a : Nat} {n : Int} (hd : decode (mm_c M) pc = .ok (.iinc i n, 3)) (hc : n = -1) (ha : 1 ≤ a) (hl : lv[i]? = some (.int (nI a))) (hs : lv.set i (.int (nI (a - 1))) = lv2) (hn : i < mm_L M) (hq : ee_nl lv i = true) (k : WW l Z M d bc bs (pc + 3) lv2 st h Post) : WW l Z M d bc bs pc lv st h Post := by
  obtain ⟨a0, rfl⟩ : ∃ a0, a = a0 + 1 := ⟨a - 1, by omega⟩
  refine ww_iinc hd hl (v := nI a0) ?_ hn hq (by rw [← show a0 + 1 - 1 = a0 by omega, hs]; exact k)
  rw [hc]
  exact pk_m1 a0
theorem ww_iadd0 {l : Launch} {Z : EE} {M : MM} {d bc bs pc : Nat} {lv st : List Value} {h : PH} {Post : Res → PH → Prop} {b : Nat} (hd : decode (mm_c M) pc = .ok (.iadd, 1)) (k : WW l Z M d bc bs (pc + 1) lv ((.int (nI b)) :: st) h Post) : WW l Z M d bc bs pc lv ((.int (nI b)) :: (.int (nI 0)) :: st) h Post := ww_iaddN hd (by rw [Nat.zero_add]; exact k)
