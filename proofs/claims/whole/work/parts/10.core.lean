/-! ===== the plain heap: kinds, fields, ints, longs, by plain addresses ===== -/
abbrev PH : Type := Nat × (Nat → Nat × Nat) × (Nat → Nat → Value) × (Nat → Nat → Int32) × (Nat → Nat → Int64)
def hp_N (h : PH) : Nat := h.1
def hp_K (h : PH) : Nat → Nat × Nat := h.2.1
def hp_F (h : PH) : Nat → Nat → Value := h.2.2.1
def hp_I (h : PH) : Nat → Nat → Int32 := h.2.2.2.1
def hp_L (h : PH) : Nat → Nat → Int64 := h.2.2.2.2
def hp_sF (h : PH) (a k : Nat) (v : Value) : PH := (h.1, h.2.1, fun b j => if b = a ∧ j = k then v else h.2.2.1 b j, h.2.2.2.1, h.2.2.2.2)
def hp_sI (h : PH) (a : Nat) (f : Nat → Int32) : PH := (h.1, h.2.1, h.2.2.1, fun b => if b = a then f else h.2.2.2.1 b, h.2.2.2.2)
def hp_sL (h : PH) (a : Nat) (f : Nat → Int64) : PH := (h.1, h.2.1, h.2.2.1, h.2.2.2.1, fun b => if b = a then f else h.2.2.2.2 b)
def hp_new (h : PH) (t n : Nat) (fv : Nat → Value) (fi : Nat → Int32) (fl : Nat → Int64) : PH := (h.1 + 1, fun b => if b = h.1 then (t, n) else h.2.1 b, fun b => if b = h.1 then fv else h.2.2.1 b, fun b => if b = h.1 then fi else h.2.2.2.1 b, fun b => if b = h.1 then fl else h.2.2.2.2 b)
/-- no value known at this local -/
abbrev UU : Value := .retAddr 0
abbrev Res : Type := Option Value ⊕ String
/-- own class, name, code, locals, return type, handlers -/
abbrev MM : Type := String × MethodName × ByteArray × Nat × Option FieldType × List (Nat × Nat × Nat × Nat)
def mm_own (M : MM) : String := M.1
def mm_y (M : MM) : MethodName := M.2.1
def mm_c (M : MM) : ByteArray := M.2.2.1
def mm_L (M : MM) : Nat := M.2.2.2.1
def mm_r (M : MM) : Option FieldType := M.2.2.2.2.1
def mm_h (M : MM) : List (Nat × Nat × Nat × Nat) := M.2.2.2.2.2
/-- the classes' numbers, the arrays' classes, the constants' addresses -/
abbrev EE : Type := va_G × (Nat → ClassId) × (Nat → Nat)
def ee_tys (Z : EE) : List (ClassId × FieldType) := [(Z.2.1 0, .int), (Z.2.1 1, .long), (Z.2.1 2, .boolean), (Z.2.1 3, .object "WidowSeven$Past")]
def ee_VR (Z : EE) (ws : va_W) (v v' : Value) : Prop := match v with
  | .ref k => (∃ (a : Nat) (e : va_E), ws[k]? = some (a, e) ∧ v' = .ref a) ∨ (1000000 ≤ k ∧ v' = .ref (Z.2.2 (k - 1000000)))
  | w => v' = w
def ee_F2 {α β : Type} (R : α → β → Prop) : List α → List β → Prop
  | [], [] => True
  | a :: l, b :: m => R a b ∧ ee_F2 R l m
  | _, _ => False
def ee_CR (Z : EE) (ws : va_W) (h : PH) (k : Nat) (e : va_E) : Prop :=
  ((hp_K h k).1 < 12 ∧ ∃ fs : List Value, e = .inr ((hp_K h k).1, fs) ∧ fs.length = (hp_K h k).2 ∧ ∀ j, j < (hp_K h k).2 → ∃ v', fs[j]? = some v' ∧ ee_VR Z ws (hp_F h k j) v') ∨
  ((hp_K h k).1 = 20 ∧ e = .inl (Z.2.1 0, (hp_K h k).2, .inl (hp_I h k))) ∨
  ((hp_K h k).1 = 21 ∧ e = .inl (Z.2.1 1, (hp_K h k).2, .inr (.inl (hp_L h k)))) ∨
  ((hp_K h k).1 = 22 ∧ e = .inl (Z.2.1 2, (hp_K h k).2, .inl (hp_I h k))) ∨
  ((hp_K h k).1 = 23 ∧ ∃ g : Nat → Option Nat, e = .inl (Z.2.1 3, (hp_K h k).2, .inr (.inr (.inr (.inr g)))) ∧ ∀ j, j < (hp_K h k).2 → ee_VR Z ws (hp_F h k j) (va_rf (g j)))
def ee_HR (Z : EE) (ws : va_W) (h : PH) : Prop := ws.length = hp_N h ∧ hp_N h ≤ 1000000 ∧ (∀ k, hp_N h ≤ k → (hp_K h k).1 = 99) ∧ ∀ k, k < hp_N h → ∃ (a : Nat) (e : va_E), ws[k]? = some (a, e) ∧ ee_CR Z ws h k e
/-- the same cells at the same addresses, and perhaps more -/
def ee_Ext (ws ws' : va_W) : Prop := ∀ (k a : Nat) (e : va_E), ws[k]? = some (a, e) → ∃ e' : va_E, ws'[k]? = some (a, e')
theorem ee_Ext.rf (ws : va_W) : ee_Ext ws ws := fun _ _ e h => ⟨e, h⟩
theorem ee_Ext.tr {a b c : va_W} (h1 : ee_Ext a b) (h2 : ee_Ext b c) : ee_Ext a c := fun k q e h => by
  obtain ⟨e', h'⟩ := h1 k q e h
  exact h2 k q e' h'
theorem ee_VR.ext {Z : EE} {ws ws' : va_W} {v v' : Value} (h : ee_VR Z ws v v') (hx : ee_Ext ws ws') : ee_VR Z ws' v v' := by
  cases v with
  | ref k =>
    rcases h with ⟨a, e, h1, h2⟩ | h
    · obtain ⟨e', h3⟩ := hx k a e h1
      exact Or.inl ⟨a, e', h3, h2⟩
    · exact Or.inr h
  | _ => exact h
theorem ee_VR.cat {Z : EE} {ws : va_W} {v v' : Value} (h : ee_VR Z ws v v') : v'.category = v.category := by
  cases v with
  | ref k =>
    rcases h with ⟨a, e, h1, h2⟩ | ⟨-, h2⟩
    · rw [h2]; rfl
    · rw [h2]; rfl
  | _ => rw [show v' = _ from h]
theorem ee_F2.imp {α β : Type} {R S : α → β → Prop} (hRS : ∀ a b, R a b → S a b) : ∀ (l : List α) (m : List β), ee_F2 R l m → ee_F2 S l m
  | [], [], _ => trivial
  | a :: l, b :: m, h => ⟨hRS a b h.1, ee_F2.imp hRS l m h.2⟩
  | [], _ :: _, h => h.elim
  | _ :: _, [], h => h.elim
theorem ee_F2.ext {Z : EE} {ws ws' : va_W} {l m : List Value} (h : ee_F2 (ee_VR Z ws) l m) (hx : ee_Ext ws ws') : ee_F2 (ee_VR Z ws') l m := ee_F2.imp (fun _ _ q => q.ext hx) l m h
theorem ee_F2.cats {Z : EE} {ws : va_W} : ∀ (l m : List Value), ee_F2 (ee_VR Z ws) l m → (m.map fun v => v.category).sum = (l.map fun v => v.category).sum
  | [], [], _ => rfl
  | a :: l, b :: m, h => by
    have h1 := ee_F2.cats l m h.2
    simp only [List.map_cons, List.sum_cons, h1, h.1.cat]
  | [], _ :: _, h => h.elim
  | _ :: _, [], h => h.elim
theorem ee_F2.len {α β : Type} {R : α → β → Prop} : ∀ (l : List α) (m : List β), ee_F2 R l m → m.length = l.length
  | [], [], _ => rfl
  | a :: l, b :: m, h => by simp only [List.length_cons, ee_F2.len l m h.2]
  | [], _ :: _, h => h.elim
  | _ :: _, [], h => h.elim
theorem ee_F2.app {α β : Type} {R : α → β → Prop} : ∀ (l : List α) (l2 : List α) (m : List β), ee_F2 R (l ++ l2) m → ∃ m1 m2, m = m1 ++ m2 ∧ ee_F2 R l m1 ∧ ee_F2 R l2 m2
  | [], l2, m, h => ⟨[], m, rfl, trivial, h⟩
  | a :: l, l2, [], h => h.elim
  | a :: l, l2, b :: m, h => by
    obtain ⟨m1, m2, e, h1, h2⟩ := ee_F2.app l l2 m h.2
    exact ⟨b :: m1, m2, by rw [e]; rfl, ⟨h.1, h1⟩, h2⟩
theorem ee_F2.app' {α β : Type} {R : α → β → Prop} : ∀ (l : List α) (l2 : List α) (m1 m2 : List β), ee_F2 R l m1 → ee_F2 R l2 m2 → ee_F2 R (l ++ l2) (m1 ++ m2)
  | [], l2, [], m2, _, h => h
  | a :: l, l2, b :: m1, m2, h1, h2 => ⟨h1.1, ee_F2.app' l l2 m1 m2 h1.2 h2⟩
  | [], _, _ :: _, _, h, _ => h.elim
  | _ :: _, _, [], _, h, _ => h.elim
theorem ee_F2.rev {α β : Type} {R : α → β → Prop} : ∀ (l : List α) (m : List β), ee_F2 R l m → ee_F2 R l.reverse m.reverse
  | [], [], _ => trivial
  | a :: l, b :: m, h => by
    rw [List.reverse_cons, List.reverse_cons]
    exact ee_F2.app' _ _ _ _ (ee_F2.rev l m h.2) ⟨h.1, trivial⟩
  | [], _ :: _, h => h.elim
  | _ :: _, [], h => h.elim
theorem ee_F2.at {α β : Type} {R : α → β → Prop} : ∀ (l : List α) (m : List β) (i : Nat) (a : α), ee_F2 R l m → l[i]? = some a → ∃ b, m[i]? = some b ∧ R a b
  | [], [], i, a, _, h => by simp at h
  | x :: l, y :: m, 0, a, h, e => ⟨y, rfl, by cases (Option.some.inj e); exact h.1⟩
  | x :: l, y :: m, i + 1, a, h, e => ee_F2.at l m i a h.2 e
  | [], _ :: _, _, _, h, _ => h.elim
  | _ :: _, [], _, _, h, _ => h.elim
/-- the locals -/
def ee_LR (Z : EE) (ws : va_W) (nL : Nat) (lv : List Value) (rls : Array Slot) : Prop := rls.size = nL ∧ lv_wf rls ∧ ∀ (i : Nat) (v : Value), lv[i]? = some v → v = UU ∨ ∃ v', ee_VR Z ws v v' ∧ rls[i]? = some (.val v')
theorem ee_LR.ext {Z : EE} {ws ws' : va_W} {nL : Nat} {lv : List Value} {rls : Array Slot} (h : ee_LR Z ws nL lv rls) (hx : ee_Ext ws ws') : ee_LR Z ws' nL lv rls :=
  ⟨h.1, h.2.1, fun i v hi => (h.2.2 i v hi).imp id fun ⟨v', a, b⟩ => ⟨v', a.ext hx, b⟩⟩
def lv_all (rls : Array Slot) : List (Nat × Value) := (List.range rls.size).filterMap (fun i => match (rls[i]? : Option Slot) with
  | some (Slot.val v) => some (i, v)
  | _ => none)
theorem lv_all_mem {rls : Array Slot} {i : Nat} {v : Value} : (i, v) ∈ lv_all rls ↔ rls[i]? = some (.val v) := by
  unfold lv_all
  rw [List.mem_filterMap]
  constructor
  · rintro ⟨j, hj, e⟩
    split at e
    · rename_i w hw
      cases e
      exact hw
    · cases e
  · intro h
    refine ⟨i, List.mem_range.mpr (lv_lt h), ?_⟩
    rw [h]
theorem lv_all_has {rls : Array Slot} {nL : Nat} (h1 : rls.size = nL) (h2 : lv_wf rls) : lv_has rls nL (lv_all rls) := ⟨h1, h2, fun q hq => lv_all_mem.mp hq⟩
def ee_nl (lv : List Value) : Nat → Bool
  | 0 => true
  | j + 1 => match lv[j]? with
    | some (.long _) => false
    | some (.double _) => false
    | _ => true
theorem ee_LR.set1 {Z : EE} {ws : va_W} {nL : Nat} {lv : List Value} {rls rls' : Array Slot} {i : Nat} {v v' : Value} (h : ee_LR Z ws nL lv rls) (hn : ee_nl lv i = true) (hv : ee_VR Z ws v v')
    (h' : lv_has rls' nL ((i, v') :: (lv_all rls).filter (fun q => !(q.1 == i) && !(q.1 + 1 == i && q.2.category == 2)))) : ee_LR Z ws nL (lv.set i v) rls' := by
  refine ⟨h'.1, h'.2.1, fun j w hj => ?_⟩
  by_cases hji : j = i
  · subst hji
    by_cases hl : j < lv.length
    · rw [List.getElem?_set_self hl] at hj
      cases hj
      exact Or.inr ⟨v', hv, h'.2.2 (j, v') List.mem_cons_self⟩
    · rw [List.getElem?_eq_none (by rw [List.length_set]; omega)] at hj
      cases hj
  · rw [List.getElem?_set_ne (fun e => hji e.symm)] at hj
    rcases h.2.2 j w hj with e | ⟨w', h1, h2⟩
    · exact Or.inl e
    · refine Or.inr ⟨w', h1, h'.2.2 (j, w') (List.mem_cons_of_mem _ (List.mem_filter.mpr ⟨lv_all_mem.mpr h2, ?_⟩))⟩
      have hc : ¬ (j + 1 = i ∧ w'.category = 2) := by
        rintro ⟨e1, e2⟩
        subst e1
        rw [h1.cat] at e2
        simp only [ee_nl, hj] at hn
        cases w <;> simp_all [Value.category]
      simp only [Bool.and_eq_true, Bool.not_eq_true', beq_eq_false_iff_ne, ne_eq, hji, not_false_eq_true, true_and, Bool.and_eq_false_iff]
      by_cases e1 : j + 1 = i
      · exact Or.inr (fun e2 => hc ⟨e1, e2⟩)
      · exact Or.inl e1
theorem ee_LR.set2 {Z : EE} {ws : va_W} {nL : Nat} {lv : List Value} {rls rls' : Array Slot} {i : Nat} {v v' : Value} (h : ee_LR Z ws nL lv rls) (hn : ee_nl lv i = true) (hv : ee_VR Z ws v v')
    (h' : lv_has rls' nL ((i, v') :: (lv_all rls).filter (fun q => !(q.1 == i) && (!(q.1 == i + 1) && !(q.1 + 1 == i && q.2.category == 2))))) : ee_LR Z ws nL ((lv.set i v).set (i + 1) UU) rls' := by
  refine ⟨h'.1, h'.2.1, fun j w hj => ?_⟩
  by_cases hj1 : j = i + 1
  · subst hj1
    by_cases hl : i + 1 < (lv.set i v).length
    · rw [List.getElem?_set_self hl] at hj
      cases hj
      exact Or.inl rfl
    · rw [List.getElem?_eq_none (by rw [List.length_set]; omega)] at hj
      cases hj
  rw [List.getElem?_set_ne (fun e => hj1 e.symm)] at hj
  by_cases hji : j = i
  · subst hji
    by_cases hl : j < lv.length
    · rw [List.getElem?_set_self hl] at hj
      cases hj
      exact Or.inr ⟨v', hv, h'.2.2 (j, v') List.mem_cons_self⟩
    · rw [List.getElem?_eq_none (by rw [List.length_set]; omega)] at hj
      cases hj
  · rw [List.getElem?_set_ne (fun e => hji e.symm)] at hj
    rcases h.2.2 j w hj with e | ⟨w', h1, h2⟩
    · exact Or.inl e
    · refine Or.inr ⟨w', h1, h'.2.2 (j, w') (List.mem_cons_of_mem _ (List.mem_filter.mpr ⟨lv_all_mem.mpr h2, ?_⟩))⟩
      have hc : ¬ (j + 1 = i ∧ w'.category = 2) := by
        rintro ⟨e1, e2⟩
        subst e1
        rw [h1.cat] at e2
        simp only [ee_nl, hj] at hn
        cases w <;> simp_all [Value.category]
      simp only [Bool.and_eq_true, Bool.not_eq_true', beq_eq_false_iff_ne, ne_eq, hji, hj1, not_false_eq_true, true_and, Bool.and_eq_false_iff]
      by_cases e1 : j + 1 = i
      · exact Or.inr (fun e2 => hc ⟨e1, e2⟩)
      · exact Or.inl e1
theorem ee_HR.at {Z : EE} {ws : va_W} {h : PH} {k t n : Nat} (hr : ee_HR Z ws h) (hk : hp_K h k = (t, n)) (ht : t ≠ 99) : ∃ (a : Nat) (e : va_E), ws[k]? = some (a, e) ∧ ee_CR Z ws h k e ∧ ∀ v', ee_VR Z ws (.ref k) v' → v' = .ref a := by
  have hlt : k < hp_N h := by
    rcases Nat.lt_or_ge k (hp_N h) with q | q
    · exact q
    · exact absurd (hr.2.2.1 k q) (by rw [hk]; exact ht)
  obtain ⟨a, e, h1, h2⟩ := hr.2.2.2 k hlt
  refine ⟨a, e, h1, h2, fun v' hv => ?_⟩
  rcases hv with ⟨a', e', g1, g2⟩ | ⟨g1, -⟩
  · cases h1.symm.trans g1
    exact g2
  · have r9 := hr.2.1
    have g9 : (1000000 : Nat) ≤ k := g1
    omega
