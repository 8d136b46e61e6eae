def js_own : List (String × Nat × String) := [("WidowSeven", 358, "outside what can be asked"), ("WidowSeven$Land", 42, "person own duty"), ("WidowSeven$Law", 67, "number rent way owner parts used day least most"), ("WidowSeven$Affairs", 52, "use sell rent day again"), ("WidowSeven", 349, "no such person"), ("WidowSeven", 354, "no such number"), ("WidowSevenModel", 173, "person"), ("WidowSevenModel", 183, "own"), ("WidowSevenModel", 199, "duty"), ("WidowSevenModel", 245, "least"), ("WidowSevenModel", 250, "most"), ("WidowSevenModel", 231, "number"), ("WidowSevenModel", 233, "rent"), ("WidowSevenModel", 235, "way"), ("WidowSevenModel", 237, "owner"), ("WidowSevenModel", 239, "parts"), ("WidowSevenModel", 241, "used"), ("WidowSevenModel", 243, "day"), ("WidowSevenModel", 273, "use"), ("WidowSevenModel", 278, "sell"), ("WidowSevenModel", 280, "again")]
def js_len : List Nat := [25, 15, 47, 23, 14, 14, 6, 3, 4, 5, 4, 6, 4, 3, 5, 5, 4, 3, 3, 4, 5]
def js_byt : List (List Int32) := [[111, 117, 116, 115, 105, 100, 101, 32, 119, 104, 97, 116, 32, 99, 97, 110, 32, 98, 101, 32, 97, 115, 107, 101, 100], [112, 101, 114, 115, 111, 110, 32, 111, 119, 110, 32, 100, 117, 116, 121], [110, 117, 109, 98, 101, 114, 32, 114, 101, 110, 116, 32, 119, 97, 121, 32, 111, 119, 110, 101, 114, 32, 112, 97, 114, 116, 115, 32, 117, 115, 101, 100, 32, 100, 97, 121, 32, 108, 101, 97, 115, 116, 32, 109, 111, 115, 116], [117, 115, 101, 32, 115, 101, 108, 108, 32, 114, 101, 110, 116, 32, 100, 97, 121, 32, 97, 103, 97, 105, 110], [110, 111, 32, 115, 117, 99, 104, 32, 112, 101, 114, 115, 111, 110], [110, 111, 32, 115, 117, 99, 104, 32, 110, 117, 109, 98, 101, 114], [112, 101, 114, 115, 111, 110], [111, 119, 110], [100, 117, 116, 121], [108, 101, 97, 115, 116], [109, 111, 115, 116], [110, 117, 109, 98, 101, 114], [114, 101, 110, 116], [119, 97, 121], [111, 119, 110, 101, 114], [112, 97, 114, 116, 115], [117, 115, 101, 100], [100, 97, 121], [117, 115, 101], [115, 101, 108, 108], [97, 103, 97, 105, 110]]
def js_parts : List Int32 := [0, 1, 2, 2, 3, 2, 4, 2, 4, 3, 4, 2, 6, 2, 4, 4, 5, 2, 6, 2, 6, 4, 4, 2, 8, 3, 4, 4, 6, 2, 8, 2, 6, 4, 4, 4, 9, 2, 4, 4, 8, 2, 8, 2, 6, 6, 4, 2, 10, 3, 6, 4, 6, 2, 8, 4, 8, 4, 4, 2, 12]

/-- the words that every method may use -/
def TG : List Cond := lw_tbl.filter goodWord
theorem tg_of {w : Cond} (i : Nat) (h : lw_tbl[i]? = some w) (hg : goodWord w = true) : w ∈ TG := List.mem_filter.mpr ⟨List.mem_of_getElem? h, hg⟩
theorem tg_good : GoodIn TG TG := fun w hw => ⟨hw, good_of_word (List.mem_filter.mp hw).2⟩
/-- words that every method may use, but that are carried: links of nest mates, casts, declared methods, arrays over a class -/
def tn_is : Cond → Bool
  | .fieldLinkNest _ _ _ _ _ _ => true
  | .methodLinkNest _ _ _ _ => true
  | .castable _ _ => true
  | .declares _ => true
  | _ => false
def TN : List Cond := lw_tbl.filter tn_is
theorem tn_of {w : Cond} (i : Nat) (h : lw_tbl[i]? = some w) (hg : tn_is w = true) : w ∈ TN := List.mem_filter.mpr ⟨List.mem_of_getElem? h, hg⟩
theorem tn_tab {w : Cond} (hw : w ∈ TN) : w.onTables = true := by
  have h := (List.mem_filter.mp hw).2
  cases w <;> first | rfl | (simp [tn_is] at h; done)
theorem tn_warm {w : Cond} (hw : w ∈ TN) {s U : State} (hW : s.WarmedH U.vm) (h : va_Nw w s) : va_Nw w U := by
  have hk := (List.mem_filter.mp hw).2
  cases w <;> first | exact h.warmF hW | exact h.warmM hW | exact h.warmC hW | exact h.warmD hW | (simp [tn_is] at hk; done)
/-- what checkIndex takes beside: a reference or null -/
def sfV (Z : EE) : Value := if Z.2.2 201 = 0 then .null else .ref (Z.2.2 200)
def sfP (Z : EE) : Value := if Z.2.2 201 = 0 then .null else .ref (1000000 + 200)
/-- the script's ints: the constants behind 302 -/
def scI (Z : EE) (j : Nat) : Int32 := Int32.ofNat (Z.2.2 (302 + j))
/-- what stays of the old heap: PARTS, the texts, what a Throwable takes -/
def ZZ (Z : EE) (A : Nat → Prop) (U : State) (H : Heap) : Prop :=
  va_Z "WidowSeven" "PARTS" "[I" (.ref (Z.2.2 0)) A U H ∧ (va_T .int (Z.2.2 0) 61 (fun j => .int (js_parts.getD j 0)) A U H ∧ va_T .int (Z.2.2 300) (Z.2.2 301) (fun j => .int (scI Z j)) A U H) ∧
  vk_S 21 js_len js_byt (fun i => Z.2.2 (1 + i)) (fun i => Z.2.2 (101 + i)) A U H ∧
  (∀ (i : Nat) (q : String × Nat × String), js_own[i]? = some q → vk_R q.1 q.2.1 q.2.2 (Z.2.2 (1 + i)) U) ∧
  (va_Z "java/lang/String" "COMPACT_STRINGS" "Z" (.int 1) A U H ∧ va_Z "jdk/internal/util/Preconditions" "SIOOBE_FORMATTER" "Ljava/util/function/BiFunction;" (sfV Z) A U H) ∧
  vx_Zq Bundle.tN "UNASSIGNED_STACK" Bundle.steD A U H ∧ vx_Zq Bundle.tN "SUPPRESSED_SENTINEL" Bundle.listD A U H ∧
  (∀ w ∈ TN, va_Nw w U) ∧ va_Nc "java/lang/IllegalArgumentException" "java/util/NoSuchElementException" U ∧ va_AO "WidowSeven$Past" U
theorem ZZ.warm {Z : EE} {A : Nat → Prop} {s U : State} {H : Heap} (hW : s.WarmedH U.vm) (h : ZZ Z A s H) : ZZ Z A U H :=
  ⟨h.1.moved hW.alike, ⟨h.2.1.1.moved hW.alike, h.2.1.2.moved hW.alike⟩, h.2.2.1.moved hW.alike, fun i q hi => (h.2.2.2.1 i q hi).warm hW, ⟨h.2.2.2.2.1.1.moved hW.alike, h.2.2.2.2.1.2.moved hW.alike⟩, h.2.2.2.2.2.1.moved hW.alike, h.2.2.2.2.2.2.1.moved hW.alike, fun w hw => tn_warm hw hW (h.2.2.2.2.2.2.2.1 w hw), h.2.2.2.2.2.2.2.2.1.moved hW.alike, h.2.2.2.2.2.2.2.2.2.moved hW.alike⟩
theorem ZZ.same {Z : EE} {A : Nat → Prop} {s U : State} {H : Heap} (hv : U.vm = s.vm) (h : ZZ Z A s H) : ZZ Z A U H := by
  have ha : s.vm.Alike U.vm := by rw [hv]; exact Vm.Alike.refl _
  exact ⟨h.1.moved ha, ⟨h.2.1.1.moved ha, h.2.1.2.moved ha⟩, h.2.2.1.moved ha, fun i q hi => (h.2.2.2.1 i q hi).same hv, ⟨h.2.2.2.2.1.1.moved ha, h.2.2.2.2.1.2.moved ha⟩, h.2.2.2.2.2.1.moved ha, h.2.2.2.2.2.2.1.moved ha, fun w hw => (h.2.2.2.2.2.2.2.1 w hw).same (tn_tab hw) hv.symm, h.2.2.2.2.2.2.2.2.1.moved ha, h.2.2.2.2.2.2.2.2.2.moved ha⟩
theorem ZZ.kept {Z : EE} {A : Nat → Prop} {U : State} {H H1 : Heap} (h : ZZ Z A U H) (hq : ∀ a : Nat, a < H.size → ¬ A a → H1[a]? = H[a]?) : ZZ Z A U H1 :=
  ⟨h.1.kept hq, ⟨h.2.1.1.kept hq, h.2.1.2.kept hq⟩, h.2.2.1.kept hq, h.2.2.2.1, ⟨h.2.2.2.2.1.1.kept hq, h.2.2.2.2.1.2.kept hq⟩, h.2.2.2.2.2.1.kept hq, h.2.2.2.2.2.2.1.kept hq, h.2.2.2.2.2.2.2⟩
theorem ZZ.narrow {Z : EE} {A B : Nat → Prop} {U : State} {H : Heap} (h : ZZ Z A U H) (hAB : ∀ q, B q → A q) : ZZ Z B U H :=
  ⟨h.1.narrow hAB, ⟨h.2.1.1.narrow hAB, h.2.1.2.narrow hAB⟩, h.2.2.1.narrow hAB, h.2.2.2.1, ⟨h.2.2.2.2.1.1.narrow hAB, h.2.2.2.2.1.2.narrow hAB⟩, h.2.2.2.2.2.1.narrow hAB, h.2.2.2.2.2.2.1.narrow hAB, h.2.2.2.2.2.2.2⟩
def ee_rm (d mc ms : Nat) : Room := { frames := d, cells := mc, slots := ms, locals := 60 * d }
def ee_Qc (Z : EE) (ws0 : va_W) (sz : Nat) (Post : Res → PH → Prop) : Array Value → State → Outcome → State → Prop := fun _ st oc t =>
  (∃ (v ov : Option Value) (h' : PH) (ws' : va_W), oc = .returned ov ∧ Post (.inl v) h' ∧ ee_F2 (ee_VR Z ws') v.toList ov.toList ∧ ee_HR Z ws' h' ∧ va_P Z.1 vwCl ws' t.heap ∧ va_D (va_A ws0 sz) ws' ∧ ee_Ext ws0 ws') ∧ va_F (va_A ws0 sz) st t
def ee_Xc (Z : EE) (ws0 : va_W) (sz : Nat) (Post : Res → PH → Prop) : String → State → State → Prop := fun E st t =>
  (∃ (h' : PH) (ws' : va_W), Post (.inr E) h' ∧ ee_HR Z ws' h' ∧ va_P Z.1 vwCl ws' t.heap ∧ va_D (va_A ws0 sz) ws' ∧ ee_Ext ws0 ws') ∧ va_F (va_A ws0 sz) st t
def ee_Pc (Z : EE) (ws : va_W) (sz : Nat) (argsR : List Value) : Array Value → State → Prop := va_Pc argsR (fun U => U.heap.size = sz ∧ va_P Z.1 vwCl ws U.heap ∧ va_K Z.1 vwCl (ee_tys Z) U ∧ va_D (fun _ => True) ws ∧ ZZ Z (va_A ws sz) U U.heap)
def mm_cd (M : MM) : Cond := match mm_h M with
  | [] => .code (mm_y M) (mm_c M) (mm_L M) (mm_r M)
  | hh => .codeWith (mm_y M) (mm_c M) (mm_L M) (mm_r M) hh
def mm_ws (M : MM) : List Cond := mm_cd M :: TG
theorem mm_cd_nil {M : MM} (hh : mm_h M = []) : mm_cd M = .code (mm_y M) (mm_c M) (mm_L M) (mm_r M) := by unfold mm_cd; rw [hh]
/-- a method's contract in plain words: at most d frames, mc cells of ms slots; from these arguments and this heap it ends with Post -/
def CC (l : Launch) (Z : EE) (M : MM) (d mc ms : Nat) (args : List Value) (h : PH) (Post : Res → PH → Prop) : Prop :=
  ∀ (ws : va_W) (sz : Nat) (argsR : List Value), ee_HR Z ws h → ee_F2 (ee_VR Z ws) args argsR →
    vx_Met l (mm_y M) (mm_ws M) (ee_rm d mc ms) (ee_Pc Z ws sz argsR) (ee_Qc Z ws sz Post) (ee_Xc Z ws sz Post) mc ms (va_A ws sz)
/-- what stands in a method's walk -/
def ee_Cx (l : Launch) (Z : EE) (M : MM) (p : Program) (s : State) (m : MethodId) (args : Array Value) (meth : Method) (c : Code) (ws0 : va_W) : Prop :=
  p.tables.exec = Jvm.exec ∧ c.code = mm_c M ∧ meth.sig.returnType = mm_r M ∧ c.maxLocals = mm_L M ∧ s.vm.findClass (mm_own M) = some m.cls ∧ (∀ w ∈ TG, w.before args s = true) ∧ meth.locks = false ∧ c.exceptionTable.toList = tableOf (mm_h M) ∧ va_K Z.1 vwCl (ee_tys Z) s ∧ ZZ Z (va_A ws0 s.heap.size) s s.heap ∧ l.stackTraces = false ∧ meth.name = (mm_y M).name
def ee_Sx (Z : EE) (M : MM) (s : State) (ws0 : va_W) (lv st : List Value) (h : PH) (ws : va_W) (H : Heap) (locs : List Loc) (rls : Array Slot) (rst : List Value) : Prop :=
  ee_HR Z ws h ∧ va_P Z.1 vwCl ws H ∧ va_D (va_A ws0 s.heap.size) ws ∧ va_S (va_A ws0 s.heap.size) s.heap H locs ∧ ee_LR Z ws (mm_L M) lv rls ∧ ee_F2 (ee_VR Z ws) st rst ∧ ee_Ext ws0 ws
/-- the walk: from here the method ends with Post; d frames, bc cells and bs slots may still come -/
def WW (l : Launch) (Z : EE) (M : MM) (d bc bs pc : Nat) (lv st : List Value) (h : PH) (Post : Res → PH → Prop) : Prop :=
  ∀ (p : Program) (e : Env) (s : State) (m : MethodId) (args : Array Value) (below : List Frame) (meth : Method) (c : Code) (ws0 : va_W) (mc ms : Nat) (ws : va_W) (H : Heap) (locs : List Loc) (cells slots : Nat) (rls : Array Slot) (rst : List Value),
    ee_Cx l Z M p s m args meth c ws0 → ee_Sx Z M s ws0 lv st h ws H locs rls rst → cells + bc ≤ mc → slots + bs ≤ ms →
    W p l e (ee_rm d mc ms) s m args below meth c H locs cells slots (vx_MQ below (ee_Qc Z ws0 s.heap.size Post) (ee_Xc Z ws0 s.heap.size Post) args s mc ms (va_A ws0 s.heap.size)) (F0 m pc rls rst)
theorem ee_AA {ws0 ws : va_W} {s : State} {H : Heap} {locs : List Loc} (hD : va_D (va_A ws0 s.heap.size) ws) (hS : va_S (va_A ws0 s.heap.size) s.heap H locs) : ∀ q, va_A ws H.size q → va_A ws0 s.heap.size q := by
  intro q hq
  rcases hq with ⟨k, e, hk⟩ | hq
  · exact hD.2 k (q, e) hk
  · exact Or.inr (Nat.le_trans hS.1 hq)
theorem ee_pad (vs : List Value) (rs : List Value) (Z : EE) (ws : va_W) (h : ee_F2 (ee_VR Z ws) vs rs) (n : Nat) : ∀ (i : Nat) (pre : List Value), (∀ v ∈ vs, v.category = 1) → (∀ (j : Nat) (v : Value), vs[j]? = some v → ∃ v', ee_VR Z ws v v' ∧ (lv_args i rs)[j]? = some (i + j, v')) := by
  induction vs generalizing rs with
  | nil => intro i pre _ j v hj; simp at hj
  | cons a l ih =>
    cases rs with
    | nil => exact h.elim
    | cons b r =>
      intro i pre hc j v hj
      have hb : b.category = 1 := by rw [h.1.cat]; exact hc a List.mem_cons_self
      cases j with
      | zero =>
        cases (Option.some.inj hj)
        exact ⟨b, h.1, rfl⟩
      | succ j =>
        obtain ⟨v', g1, g2⟩ := ih r h.2 (i + 1) pre (fun v hv => hc v (List.mem_cons_of_mem _ hv)) j v hj
        refine ⟨v', g1, ?_⟩
        show (lv_args (if b.category = 2 then i + 2 else i + 1) r)[j]? = _
        rw [if_neg (by omega), g2, show i + 1 + j = i + (j + 1) by omega]
theorem ee_slen (Z : EE) (ws : va_W) : ∀ (vs rs : List Value), ee_F2 (ee_VR Z ws) vs rs → (∀ v ∈ vs, v.category = 1) → (lg_sl rs).length = vs.length
  | [], [], _, _ => rfl
  | a :: l, b :: r, h, hc => by
    have hb : b.category = 1 := by rw [h.1.cat]; exact hc a List.mem_cons_self
    have := ee_slen Z ws l r h.2 (fun v hv => hc v (List.mem_cons_of_mem _ hv))
    simp only [lg_sl, List.flatMap_cons, List.length_append, List.length_cons] at this ⊢
    rw [if_neg (by omega), this]
    simp; omega
  | [], _ :: _, h, _ => h.elim
  | _ :: _, [], h, _ => h.elim
/-- the locals at a method's entry -/
def ee_lv (args : List Value) (n : Nat) : List Value := args ++ List.replicate (n - args.length) UU
theorem ee_entry {l : Launch} {Z : EE} {M : MM} {d mc ms : Nat} {args : List Value} {h : PH} {Post : Res → PH → Prop} (hst : l.stackTraces = false) (hy : plainName (mm_y M).cls = true) (ho : (mm_y M).cls = mm_own M) (hh : mm_h M = []) (hc : ∀ v ∈ args, v.category = 1) (hn : args.length ≤ mm_L M)
    (k : WW l Z M d mc ms 0 (ee_lv args (mm_L M)) [] h Post) : CC l Z M d mc ms args h Post := by
  intro ws sz argsR hHR hA
  refine vx_ofW (cc := mm_c M) (maxL := mm_L M) (ret := mm_r M) (ws' := TG) hy (by unfold mm_ws; rw [mm_cd_nil hh]) ?_
  intro p e s m args0 below meth c s₁ B hml htab hv
  obtain ⟨rfl, hsz, hP, hK, hD0, hZ⟩ := hv
  have hts := atoms_spec (ws := mm_ws M) B.pre
  have hown : s.vm.findClass (mm_own M) = some m.cls := by rw [← ho]; exact findClass_of_methodNamed B.named
  have hin : meth.name = (mm_y M).name := (name_of_methodNamed B.named B.method).1
  subst hsz
  have hlen : (lg_sl argsR).length ≤ mm_L M := by rw [ee_slen Z ws args argsR hA hc]; exact hn
  have hl := lv_entry argsR (n := mm_L M) hlen
  rw [lg_entry_eq]
  have htb : c.exceptionTable.toList = tableOf (mm_h M) := by
    rw [hh]
    cases hq : c.exceptionTable.toList with
    | nil => rfl
    | cons x t => exact (htab x (by rw [hq]; exact List.mem_cons_self)).elim
  refine k p e s m argsR.toArray below meth c ws mc ms ws s.heap [] 0 0 _ [] ⟨B.exec, B.bytes, B.returns, hml, hown, fun w hw => hts w (List.mem_cons_of_mem _ hw), B.notSynchronized, htb, hK, hZ, hst, hin⟩ ⟨hHR, hP, hD0.self, va_S.rf, ⟨hl.1, hl.2.1, ?_⟩, trivial, ee_Ext.rf ws⟩ (by omega) (by omega)
  intro i v hi
  unfold ee_lv at hi
  by_cases hil : i < args.length
  · rw [List.getElem?_append_left hil] at hi
    obtain ⟨v', g1, g2⟩ := ee_pad args argsR Z ws hA 0 0 [] hc i v hi
    rw [Nat.zero_add] at g2
    exact Or.inr ⟨v', g1, hl.2.2 (i, v') (List.mem_of_getElem? g2)⟩
  · rw [List.getElem?_append_right (by omega)] at hi
    exact Or.inl (List.eq_of_mem_replicate (List.mem_of_getElem? hi))
