theorem ee_CR.to {Z : EE} {ws ws' : va_W} {h h' : PH} {k : Nat} {e : va_E} (hx : ee_Ext ws ws') (hK : hp_K h' k = hp_K h k) (hF : hp_F h' k = hp_F h k) (hI : hp_I h' k = hp_I h k) (hL : hp_L h' k = hp_L h k) (hc : ee_CR Z ws h k e) : ee_CR Z ws' h' k e := by
  unfold ee_CR at hc ⊢
  rw [hK, hF, hI, hL]
  rcases hc with ⟨a, fs, b, c, g⟩ | hc | hc | hc | ⟨a, g, b, c⟩
  · exact Or.inl ⟨a, fs, b, c, fun j hj => by
      obtain ⟨v', p1, p2⟩ := g j hj
      exact ⟨v', p1, p2.ext hx⟩⟩
  · exact Or.inr (Or.inl hc)
  · exact Or.inr (Or.inr (Or.inl hc))
  · exact Or.inr (Or.inr (Or.inr (Or.inl hc)))
  · exact Or.inr (Or.inr (Or.inr (Or.inr ⟨a, g, b, fun j hj => (c j hj).ext hx⟩)))
theorem ee_Ext.set {ws : va_W} {a q : Nat} {e0 e' : va_E} (ha : ws[a]? = some (q, e0)) : ee_Ext ws (ws.set a (q, e')) := by
  intro k b e hk
  by_cases hka : k = a
  · subst hka
    cases ha.symm.trans hk
    exact ⟨e', List.getElem?_set_self (List.getElem?_eq_some_iff.mp ha).1⟩
  · exact ⟨e, by rw [List.getElem?_set_ne (fun z => hka z.symm)]; exact hk⟩
theorem ee_Ext.push (ws : va_W) (x : Nat × va_E) : ee_Ext ws (ws ++ [x]) := fun k a e hk => ⟨e, by rw [List.getElem?_append_left (List.getElem?_eq_some_iff.mp hk).1]; exact hk⟩
theorem ee_HR.set {Z : EE} {ws : va_W} {h h' : PH} {a q : Nat} {e0 e' : va_E} (hr : ee_HR Z ws h) (ha : ws[a]? = some (q, e0)) (hN : hp_N h' = hp_N h) (hK : hp_K h' = hp_K h) (ho : ∀ k, k ≠ a → hp_F h' k = hp_F h k ∧ hp_I h' k = hp_I h k ∧ hp_L h' k = hp_L h k)
    (he : ee_CR Z (ws.set a (q, e')) h' a e') : ee_HR Z (ws.set a (q, e')) h' := by
  obtain ⟨r1, r2, r3, r4⟩ := hr
  refine ⟨by rw [List.length_set, hN]; exact r1, by rw [hN]; exact r2, fun k hk => by rw [hK]; exact r3 k (by rw [← hN]; exact hk), fun k hk => ?_⟩
  by_cases hka : k = a
  · subst hka
    exact ⟨q, e', List.getElem?_set_self (List.getElem?_eq_some_iff.mp ha).1, he⟩
  · obtain ⟨b, e, g1, g2⟩ := r4 k (by rw [← hN]; exact hk)
    obtain ⟨o1, o2, o3⟩ := ho k hka
    exact ⟨b, e, by rw [List.getElem?_set_ne (fun z => hka z.symm)]; exact g1, g2.to (ee_Ext.set ha) (by rw [hK]) o1 o2 o3⟩
theorem ee_HR.push {Z : EE} {ws : va_W} {h : PH} {q t n : Nat} {e : va_E} {fv : Nat → Value} {fi : Nat → Int32} {fl : Nat → Int64} (hr : ee_HR Z ws h) (hN : hp_N h < 1000000) (he : ee_CR Z (ws ++ [(q, e)]) (hp_new h t n fv fi fl) (hp_N h) e) : ee_HR Z (ws ++ [(q, e)]) (hp_new h t n fv fi fl) := by
  obtain ⟨r1, r2, r3, r4⟩ := hr
  have n1 : hp_N (hp_new h t n fv fi fl) = hp_N h + 1 := rfl
  refine ⟨by rw [List.length_append, r1, n1]; rfl, by rw [n1]; omega, fun k hk => ?_, fun k hk => ?_⟩
  · rw [n1] at hk
    show (if k = hp_N h then (t, n) else hp_K h k).1 = 99
    rw [if_neg (by omega)]
    exact r3 k (by omega)
  · rw [n1] at hk
    by_cases hkn : k = hp_N h
    · subst hkn
      exact ⟨q, e, by rw [← r1]; exact List.getElem?_concat_length, he⟩
    · obtain ⟨b, e1, g1, g2⟩ := r4 k (by omega)
      refine ⟨b, e1, by rw [List.getElem?_append_left (by rw [r1]; omega)]; exact g1, g2.to (ee_Ext.push ws _) ?_ ?_ ?_ ?_⟩
      · show (if k = hp_N h then (t, n) else hp_K h k) = _
        rw [if_neg hkn]
      · show (if k = hp_N h then fv else hp_F h k) = _
        rw [if_neg hkn]
      · show (if k = hp_N h then fi else hp_I h k) = _
        rw [if_neg hkn]
      · show (if k = hp_N h then fl else hp_L h k) = _
        rw [if_neg hkn]
theorem ee_HR.obj {Z : EE} {ws : va_W} {h : PH} {a t n : Nat} (hr : ee_HR Z ws h) (hk : hp_K h a = (t, n)) (ht : t < 12) : ∃ (q : Nat) (fs : List Value), ws[a]? = some (q, .inr (t, fs)) ∧ fs.length = n ∧ (∀ j, j < n → ∃ v', fs[j]? = some v' ∧ ee_VR Z ws (hp_F h a j) v') ∧ ∀ v', ee_VR Z ws (.ref a) v' → v' = .ref q := by
  obtain ⟨q, e, g1, g2, g3⟩ := hr.at hk (by omega)
  unfold ee_CR at g2
  rw [hk] at g2
  rcases g2 with ⟨_, fs, b, c, g⟩ | ⟨b, _⟩ | ⟨b, _⟩ | ⟨b, _⟩ | ⟨b, _⟩
  · subst b
    exact ⟨q, fs, g1, c, g, g3⟩
  all_goals (have b : t = _ := b; omega)
theorem ee_HR.arrI {Z : EE} {ws : va_W} {h : PH} {a n : Nat} (hr : ee_HR Z ws h) (hk : hp_K h a = (20, n)) : ∃ q : Nat, ws[a]? = some (q, .inl (Z.2.1 0, n, .inl (hp_I h a))) ∧ ∀ v', ee_VR Z ws (.ref a) v' → v' = .ref q := by
  obtain ⟨q, e, g1, g2, g3⟩ := hr.at hk (by omega)
  unfold ee_CR at g2
  rw [hk] at g2
  rcases g2 with ⟨b, _⟩ | ⟨_, b⟩ | ⟨b, _⟩ | ⟨b, _⟩ | ⟨b, _⟩
  · exact absurd (show (20 : Nat) < 12 from b) (by omega)
  · subst b
    exact ⟨q, g1, g3⟩
  all_goals (exact absurd (show (20 : Nat) = _ from b) (by omega))
theorem ee_HR.arrL {Z : EE} {ws : va_W} {h : PH} {a n : Nat} (hr : ee_HR Z ws h) (hk : hp_K h a = (21, n)) : ∃ q : Nat, ws[a]? = some (q, .inl (Z.2.1 1, n, .inr (.inl (hp_L h a)))) ∧ ∀ v', ee_VR Z ws (.ref a) v' → v' = .ref q := by
  obtain ⟨q, e, g1, g2, g3⟩ := hr.at hk (by omega)
  unfold ee_CR at g2
  rw [hk] at g2
  rcases g2 with ⟨b, _⟩ | ⟨b, _⟩ | ⟨_, b⟩ | ⟨b, _⟩ | ⟨b, _⟩
  · exact absurd (show (21 : Nat) < 12 from b) (by omega)
  · exact absurd (show (21 : Nat) = _ from b) (by omega)
  · subst b
    exact ⟨q, g1, g3⟩
  all_goals (exact absurd (show (21 : Nat) = _ from b) (by omega))
theorem ee_HR.arrZ {Z : EE} {ws : va_W} {h : PH} {a n : Nat} (hr : ee_HR Z ws h) (hk : hp_K h a = (22, n)) : ∃ q : Nat, ws[a]? = some (q, .inl (Z.2.1 2, n, .inl (hp_I h a))) ∧ ∀ v', ee_VR Z ws (.ref a) v' → v' = .ref q := by
  obtain ⟨q, e, g1, g2, g3⟩ := hr.at hk (by omega)
  unfold ee_CR at g2
  rw [hk] at g2
  rcases g2 with ⟨b, _⟩ | ⟨b, _⟩ | ⟨b, _⟩ | ⟨_, b⟩ | ⟨b, _⟩
  · exact absurd (show (22 : Nat) < 12 from b) (by omega)
  · exact absurd (show (22 : Nat) = _ from b) (by omega)
  · exact absurd (show (22 : Nat) = _ from b) (by omega)
  · subst b
    exact ⟨q, g1, g3⟩
  all_goals (exact absurd (show (22 : Nat) = _ from b) (by omega))
theorem ee_HR.arrP {Z : EE} {ws : va_W} {h : PH} {a n : Nat} (hr : ee_HR Z ws h) (hk : hp_K h a = (23, n)) : ∃ (q : Nat) (g : Nat → Option Nat), ws[a]? = some (q, .inl (Z.2.1 3, n, .inr (.inr (.inr (.inr g))))) ∧ (∀ j, j < n → ee_VR Z ws (hp_F h a j) (va_rf (g j))) ∧ ∀ v', ee_VR Z ws (.ref a) v' → v' = .ref q := by
  obtain ⟨q, e, g1, g2, g3⟩ := hr.at hk (by omega)
  unfold ee_CR at g2
  rw [hk] at g2
  rcases g2 with ⟨b, _⟩ | ⟨b, _⟩ | ⟨b, _⟩ | ⟨b, _⟩ | ⟨_, g, b, c⟩
  · exact absurd (show (23 : Nat) < 12 from b) (by omega)
  · exact absurd (show (23 : Nat) = _ from b) (by omega)
  · exact absurd (show (23 : Nat) = _ from b) (by omega)
  · exact absurd (show (23 : Nat) = _ from b) (by omega)
  · subst b
    exact ⟨q, g, g1, c, g3⟩
theorem ee_cl {t n : Nat} {C : String} {T : u_T} (hc : vwCl[t]? = some (C, T, n)) : t < 12 := (List.getElem?_eq_some_iff.mp hc).1
theorem ee_dv (Z : EE) (ws : va_W) (ty : FieldType) : ee_VR Z ws (defaultValue ty) (defaultValue ty) := by
  cases ty <;> rfl
section WWH
variable {l : Launch} {Z : EE} {M : MM} {d bc bs pc : Nat} {lv st : List Value} {h : PH} {Post : Res → PH → Prop}
theorem ww_get {a t n idx : Nat} {C : String} {T : u_T} (j : Nat) {v : Value} (hd : decode (mm_c M) pc = .ok (.getfield idx, 3)) (hk : hp_K h a = (t, n)) (hc : vwCl[t]? = some (C, T, n)) (hj : j < n) (hin : ∀ w ∈ u_ws C T n, w ∈ TG) (hw : Cond.fieldLink (mm_own M) idx (T j).1 (T j).2.1 (T j).2.2.1 ∈ TG) (hv : hp_F h a j = v)
    (k : WW l Z M d bc bs (pc + 3) lv (v :: st) h Post) : WW l Z M d bc bs pc lv ((.ref a) :: st) h Post := by
  intro p e s m args below meth c ws0 mc ms ws H locs cells slots rls rst C' S h1 h2
  have C'' := C'
  obtain ⟨hx, hb, hr, hml, hown, hts, hlocks, htab, hK, hZ, hst, hnm⟩ := C''
  obtain ⟨hHR, hP, hD, hS, hL, hF, hE⟩ := S
  obtain ⟨b0, r0, e0, q0, F1⟩ := hF.c
  subst e0
  obtain ⟨q, fs, g1, g2, g3, g4⟩ := hHR.obj hk (ee_cl hc)
  cases g4 _ q0
  obtain ⟨v', p1, p2⟩ := g3 j hj
  refine va_get (C := C) (T := T) (N := n) (ref := (T j).1) (v := v') hx hb hts hin hown hK hP a g1 hc j hj (hts _ hw) (fun _ h9 => h9) p1 hd ?_
  rw [hv] at p2
  exact k p e s m args below meth c ws0 mc ms ws H locs cells slots rls _ C' ⟨hHR, hP, hD, hS, hL, ⟨p2, F1⟩, hE⟩ h1 h2
theorem ww_getN {a t n idx : Nat} {C host : String} {T : u_T} (j : Nat) {v : Value} (hd : decode (mm_c M) pc = .ok (.getfield idx, 3)) (hk : hp_K h a = (t, n)) (hc : vwCl[t]? = some (C, T, n)) (hj : j < n) (hin : ∀ w ∈ u_ws C T n, w ∈ TG) (hw : Cond.fieldLinkNest (mm_own M) idx (T j).1 (T j).2.1 (T j).2.2.1 host ∈ TN) (hv : hp_F h a j = v)
    (k : WW l Z M d bc bs (pc + 3) lv (v :: st) h Post) : WW l Z M d bc bs pc lv ((.ref a) :: st) h Post := by
  intro p e s m args below meth c ws0 mc ms ws H locs cells slots rls rst C' S h1 h2
  have C'' := C'
  obtain ⟨hx, hb, hr, hml, hown, hts, hlocks, htab, hK, hZ, hst, hnm⟩ := C''
  obtain ⟨hHR, hP, hD, hS, hL, hF, hE⟩ := S
  obtain ⟨b0, r0, e0, q0, F1⟩ := hF.c
  subst e0
  obtain ⟨q, fs, g1, g2, g3, g4⟩ := hHR.obj hk (ee_cl hc)
  cases g4 _ q0
  obtain ⟨v', p1, p2⟩ := g3 j hj
  refine va_getN (C := C) (T := T) (N := n) (ref := (T j).1) (host := host) (v := v') hx hb hts hin hown hK hP a g1 hc j hj (va_Nw.use rfl (hZ.2.2.2.2.2.2.2.1 _ hw)) (fun _ h9 => h9) p1 hd ?_
  rw [hv] at p2
  exact k p e s m args below meth c ws0 mc ms ws H locs cells slots rls _ C' ⟨hHR, hP, hD, hS, hL, ⟨p2, F1⟩, hE⟩ h1 h2
theorem ee_putR {Z : EE} {ws : va_W} {h : PH} {a t n j q : Nat} {fs : List Value} {v v' : Value} (hHR : ee_HR Z ws h) (hk : hp_K h a = (t, n)) (ht : t < 12) (g1 : ws[a]? = some (q, .inr (t, fs))) (g2 : fs.length = n) (g3 : ∀ j, j < n → ∃ v', fs[j]? = some v' ∧ ee_VR Z ws (hp_F h a j) v') (hj : j < n) (hv : ee_VR Z ws v v') :
    ee_HR Z (ws.set a (q, .inr (t, fs.set j v'))) (hp_sF h a j v) := by
  have hK9 : hp_K (hp_sF h a j v) a = (t, n) := hk
  refine hHR.set g1 rfl rfl (fun k hka => ⟨?_, rfl, rfl⟩) (Or.inl ⟨by rw [hK9]; exact ht, fs.set j v', by rw [hK9], by rw [List.length_set, hK9]; exact g2, fun i hi => ?_⟩)
  · funext i
    show (if k = a ∧ i = j then v else hp_F h k i) = _
    rw [if_neg (fun z => hka z.1)]
  · rw [hK9] at hi
    have hi : i < n := hi
    show ∃ v', (fs.set j _)[i]? = some v' ∧ ee_VR Z _ (if a = a ∧ i = j then v else hp_F h a i) v'
    by_cases hij : i = j
    · subst hij
      rw [if_pos ⟨rfl, rfl⟩]
      exact ⟨v', List.getElem?_set_self (by omega), hv.ext (ee_Ext.set g1)⟩
    · rw [if_neg (fun z => hij z.2)]
      obtain ⟨w, p1, p2⟩ := g3 i hi
      exact ⟨w, by rw [List.getElem?_set_ne (fun z => hij z.symm)]; exact p1, p2.ext (ee_Ext.set g1)⟩
theorem ww_put {a t n idx : Nat} {C : String} {T : u_T} (ty0 : Nat → FieldType) (j : Nat) {v : Value} (hd : decode (mm_c M) pc = .ok (.putfield idx, 3)) (hk : hp_K h a = (t, n)) (hc : vwCl[t]? = some (C, T, n)) (hj : j < n) (hin : ∀ w ∈ u_ws C T n, w ∈ TG) (hty : ∀ k, k < n → parseFieldDescriptor (T k).2.2.1 = some (ty0 k)) (hnm0 : ∀ a, a < n → ∀ b, b < n → a ≠ b → (T a).2.1 ≠ (T b).2.1)
    (hw : Cond.fieldLink (mm_own M) idx (T j).1 (T j).2.1 (T j).2.2.1 ∈ TG) (hfin : (T j).2.2.2 = false) (hna : ∀ v', v'.category = v.category → (∀ x, v = .int x → v' = .int x) → (∀ x, v = .long x → v' = .long x) → ((∃ x, v = .ref x) → ∃ y, v' = .ref y) → (v = .null → v' = .null) → narrow (ty0 j) v' = v' ∧ fits (ty0 j) v' = true)
    (k : WW l Z M d bc bs (pc + 3) lv st (hp_sF h a j v) Post) : WW l Z M d bc bs pc lv (v :: (.ref a) :: st) h Post := by
  intro p e s m args below meth c ws0 mc ms ws H locs cells slots rls rst C' S h1 h2
  have C'' := C'
  obtain ⟨hx, hb, hr, hml, hown, hts, hlocks, htab, hK, hZ, hst, hnm⟩ := C''
  obtain ⟨hHR, hP, hD, hS, hL, hF, hE⟩ := S
  obtain ⟨v', r0, e0, qv, F1⟩ := hF.c
  subst e0
  obtain ⟨b0, r1, e1, q0, F2⟩ := F1.c
  subst e1
  obtain ⟨q, fs, g1, g2, g3, g4⟩ := hHR.obj hk (ee_cl hc)
  cases g4 _ q0
  obtain ⟨n1, n2⟩ := hna v' qv.cat (fun x hx9 => by subst hx9; exact qv) (fun x hx9 => by subst hx9; exact qv) (fun ⟨x, hx9⟩ => by
    subst hx9
    rcases qv with ⟨a9, e9, y1, y2⟩ | ⟨y1, y2⟩
    · exact ⟨_, y2⟩
    · exact ⟨_, y2⟩) (fun hx9 => by subst hx9; exact qv)
  refine va_put (C := C) (T := T) (N := n) (ref := (T j).1) (v := v') (ty := ty0 j) hx hb hts hin ty0 hty hnm0 hown hK hP hD hS a g1 hc j hj (hts _ hw) (fun _ h9 => h9) hfin (hty j hj) n1 n2 (by omega) hd (fun H1 locs1 hP1 hD1 hS1 => ?_)
  exact k p e s m args below meth c ws0 mc ms _ H1 locs1 cells slots rls _ C' ⟨ee_putR hHR hk (ee_cl hc) g1 g2 g3 hj qv, hP1, hD1, hS1, hL.ext (ee_Ext.set g1), F2.ext (ee_Ext.set g1), hE.tr (ee_Ext.set g1)⟩ h1 h2
theorem ww_putF {a t n idx : Nat} {C : String} {T : u_T} (ty0 : Nat → FieldType) (j : Nat) {v : Value} (hd : decode (mm_c M) pc = .ok (.putfield idx, 3)) (hk : hp_K h a = (t, n)) (hc : vwCl[t]? = some (C, T, n)) (hj : j < n) (hin : ∀ w ∈ u_ws C T n, w ∈ TG) (hty : ∀ k, k < n → parseFieldDescriptor (T k).2.2.1 = some (ty0 k)) (hnm0 : ∀ a, a < n → ∀ b, b < n → a ≠ b → (T a).2.1 ≠ (T b).2.1)
    (hw : Cond.fieldLink (mm_own M) idx (T j).1 (T j).2.1 (T j).2.2.1 ∈ TG) (hfin : (T j).2.2.2 = true) (hin2 : (mm_y M).name = "<init>") (hdecl : (T j).1 = mm_own M) (hna : ∀ v', v'.category = v.category → (∀ x, v = .int x → v' = .int x) → (∀ x, v = .long x → v' = .long x) → ((∃ x, v = .ref x) → ∃ y, v' = .ref y) → (v = .null → v' = .null) → narrow (ty0 j) v' = v' ∧ fits (ty0 j) v' = true)
    (k : WW l Z M d bc bs (pc + 3) lv st (hp_sF h a j v) Post) : WW l Z M d bc bs pc lv (v :: (.ref a) :: st) h Post := by
  intro p e s m args below meth c ws0 mc ms ws H locs cells slots rls rst C' S h1 h2
  have C'' := C'
  obtain ⟨hx, hb, hr, hml, hown, hts, hlocks, htab, hK, hZ, hst, hnm⟩ := C''
  obtain ⟨hHR, hP, hD, hS, hL, hF, hE⟩ := S
  obtain ⟨v', r0, e0, qv, F1⟩ := hF.c
  subst e0
  obtain ⟨b0, r1, e1, q0, F2⟩ := F1.c
  subst e1
  obtain ⟨q, fs, g1, g2, g3, g4⟩ := hHR.obj hk (ee_cl hc)
  cases g4 _ q0
  obtain ⟨n1, n2⟩ := hna v' qv.cat (fun x hx9 => by subst hx9; exact qv) (fun x hx9 => by subst hx9; exact qv) (fun ⟨x, hx9⟩ => by
    subst hx9
    rcases qv with ⟨a9, e9, y1, y2⟩ | ⟨y1, y2⟩
    · exact ⟨_, y2⟩
    · exact ⟨_, y2⟩) (fun hx9 => by subst hx9; exact qv)
  refine va_putF (C := C) (T := T) (N := n) (ref := (T j).1) (v := v') (ty := ty0 j) hx hb hts hin ty0 hty hnm0 hown hK hP hD hS a g1 hc j hj (hts _ hw) (fun _ h9 => h9) hfin (hnm.trans hin2) hdecl (hty j hj) n1 n2 (by omega) hd (fun H1 locs1 hP1 hD1 hS1 => ?_)
  exact k p e s m args below meth c ws0 mc ms _ H1 locs1 cells slots rls _ C' ⟨ee_putR hHR hk (ee_cl hc) g1 g2 g3 hj qv, hP1, hD1, hS1, hL.ext (ee_Ext.set g1), F2.ext (ee_Ext.set g1), hE.tr (ee_Ext.set g1)⟩ h1 h2
theorem ww_iald {a n : Nat} {i : Int32} (hd : decode (mm_c M) pc = .ok (.iaload, 1)) (hk : hp_K h a = (20, n)) (hi : vp_in i n) (k : WW l Z M d bc bs (pc + 1) lv ((.int (hp_I h a i.toNatClampNeg)) :: st) h Post) : WW l Z M d bc bs pc lv ((.int i) :: (.ref a) :: st) h Post := by
  intro p e s m args below meth c ws0 mc ms ws H locs cells slots rls rst C' S h1 h2
  have C'' := C'
  obtain ⟨hx, hb, hr, hml, hown, hts, hlocks, htab, hK, hZ, hst, hnm⟩ := C''
  obtain ⟨hHR, hP, hD, hS, hL, hF, hE⟩ := S
  obtain ⟨v', r0, e0, qv, F1⟩ := hF.c
  subst e0
  cases (show v' = Value.int i from qv)
  obtain ⟨b0, r1, e1, q0, F2⟩ := F1.c
  subst e1
  obtain ⟨q, g1, g4⟩ := hHR.arrI hk
  cases g4 _ q0
  refine va_iald hx hb hK hP a 0 g1 rfl hi hd ?_
  exact k p e s m args below meth c ws0 mc ms ws H locs cells slots rls _ C' ⟨hHR, hP, hD, hS, hL, ⟨rfl, F2⟩, hE⟩ h1 h2
theorem ww_zald {a n : Nat} {i : Int32} (hd : decode (mm_c M) pc = .ok (.baload, 1)) (hk : hp_K h a = (22, n)) (hi : vp_in i n) (k : WW l Z M d bc bs (pc + 1) lv ((.int (hp_I h a i.toNatClampNeg)) :: st) h Post) : WW l Z M d bc bs pc lv ((.int i) :: (.ref a) :: st) h Post := by
  intro p e s m args below meth c ws0 mc ms ws H locs cells slots rls rst C' S h1 h2
  have C'' := C'
  obtain ⟨hx, hb, hr, hml, hown, hts, hlocks, htab, hK, hZ, hst, hnm⟩ := C''
  obtain ⟨hHR, hP, hD, hS, hL, hF, hE⟩ := S
  obtain ⟨v', r0, e0, qv, F1⟩ := hF.c
  subst e0
  cases (show v' = Value.int i from qv)
  obtain ⟨b0, r1, e1, q0, F2⟩ := F1.c
  subst e1
  obtain ⟨q, g1, g4⟩ := hHR.arrZ hk
  cases g4 _ q0
  refine va_zald hx hb hK hP a 2 g1 rfl hi hd ?_
  exact k p e s m args below meth c ws0 mc ms ws H locs cells slots rls _ C' ⟨hHR, hP, hD, hS, hL, ⟨rfl, F2⟩, hE⟩ h1 h2
theorem ww_lald {a n : Nat} {i : Int32} (hd : decode (mm_c M) pc = .ok (.laload, 1)) (hk : hp_K h a = (21, n)) (hi : vp_in i n) (k : WW l Z M d bc bs (pc + 1) lv ((.long (hp_L h a i.toNatClampNeg)) :: st) h Post) : WW l Z M d bc bs pc lv ((.int i) :: (.ref a) :: st) h Post := by
  intro p e s m args below meth c ws0 mc ms ws H locs cells slots rls rst C' S h1 h2
  have C'' := C'
  obtain ⟨hx, hb, hr, hml, hown, hts, hlocks, htab, hK, hZ, hst, hnm⟩ := C''
  obtain ⟨hHR, hP, hD, hS, hL, hF, hE⟩ := S
  obtain ⟨v', r0, e0, qv, F1⟩ := hF.c
  subst e0
  cases (show v' = Value.int i from qv)
  obtain ⟨b0, r1, e1, q0, F2⟩ := F1.c
  subst e1
  obtain ⟨q, g1, g4⟩ := hHR.arrL hk
  cases g4 _ q0
  refine va_lald hx hb hK hP a 1 g1 rfl hi hd ?_
  exact k p e s m args below meth c ws0 mc ms ws H locs cells slots rls _ C' ⟨hHR, hP, hD, hS, hL, ⟨rfl, F2⟩, hE⟩ h1 h2
theorem ee_sIR {Z : EE} {ws : va_W} {h : PH} {a n q : Nat} {f : Nat → Int32} (hHR : ee_HR Z ws h) (hk : hp_K h a = (20, n)) (g1 : ws[a]? = some (q, .inl (Z.2.1 0, n, .inl (hp_I h a)))) : ee_HR Z (ws.set a (q, .inl (Z.2.1 0, n, .inl f))) (hp_sI h a f) := by
  have hK9 : hp_K (hp_sI h a f) a = (20, n) := hk
  refine hHR.set g1 rfl rfl (fun k hka => ⟨rfl, ?_, rfl⟩) (Or.inr (Or.inl ⟨by rw [hK9], by
    rw [hK9]
    show _ = Sum.inl (Z.2.1 0, n, Sum.inl (if a = a then f else hp_I h a))
    rw [if_pos rfl]⟩))
  show (if k = a then f else hp_I h k) = _
  rw [if_neg hka]
theorem ee_sZR {Z : EE} {ws : va_W} {h : PH} {a n q : Nat} {f : Nat → Int32} (hHR : ee_HR Z ws h) (hk : hp_K h a = (22, n)) (g1 : ws[a]? = some (q, .inl (Z.2.1 2, n, .inl (hp_I h a)))) : ee_HR Z (ws.set a (q, .inl (Z.2.1 2, n, .inl f))) (hp_sI h a f) := by
  have hK9 : hp_K (hp_sI h a f) a = (22, n) := hk
  refine hHR.set g1 rfl rfl (fun k hka => ⟨rfl, ?_, rfl⟩) (Or.inr (Or.inr (Or.inr (Or.inl ⟨by rw [hK9], by
    rw [hK9]
    show _ = Sum.inl (Z.2.1 2, n, Sum.inl (if a = a then f else hp_I h a))
    rw [if_pos rfl]⟩))))
  show (if k = a then f else hp_I h k) = _
  rw [if_neg hka]
theorem ee_sLR {Z : EE} {ws : va_W} {h : PH} {a n q : Nat} {f : Nat → Int64} (hHR : ee_HR Z ws h) (hk : hp_K h a = (21, n)) (g1 : ws[a]? = some (q, .inl (Z.2.1 1, n, .inr (.inl (hp_L h a))))) : ee_HR Z (ws.set a (q, .inl (Z.2.1 1, n, .inr (.inl f)))) (hp_sL h a f) := by
  have hK9 : hp_K (hp_sL h a f) a = (21, n) := hk
  refine hHR.set g1 rfl rfl (fun k hka => ⟨rfl, rfl, ?_⟩) (Or.inr (Or.inr (Or.inl ⟨by rw [hK9], by
    rw [hK9]
    show _ = Sum.inl (Z.2.1 1, n, Sum.inr (Sum.inl (if a = a then f else hp_L h a)))
    rw [if_pos rfl]⟩)))
  show (if k = a then f else hp_L h k) = _
  rw [if_neg hka]
theorem ww_iast {a n : Nat} {i x : Int32} (hd : decode (mm_c M) pc = .ok (.iastore, 1)) (hk : hp_K h a = (20, n)) (hi : vp_in i n) (k : WW l Z M d bc bs (pc + 1) lv st (hp_sI h a (upd (hp_I h a) i.toNatClampNeg x)) Post) : WW l Z M d bc bs pc lv ((.int x) :: (.int i) :: (.ref a) :: st) h Post := by
  intro p e s m args below meth c ws0 mc ms ws H locs cells slots rls rst C' S h1 h2
  have C'' := C'
  obtain ⟨hx, hb, hr, hml, hown, hts, hlocks, htab, hK, hZ, hst, hnm⟩ := C''
  obtain ⟨hHR, hP, hD, hS, hL, hF, hE⟩ := S
  obtain ⟨w', r0, e0, qw, F1⟩ := hF.c
  subst e0
  cases (show w' = Value.int x from qw)
  obtain ⟨v', r1, e1, qv, F2⟩ := F1.c
  subst e1
  cases (show v' = Value.int i from qv)
  obtain ⟨b0, r2, e2, q0, F3⟩ := F2.c
  subst e2
  obtain ⟨q, g1, g4⟩ := hHR.arrI hk
  cases g4 _ q0
  refine va_iast hx hb hK hP hD hS a 0 g1 rfl hi hd (fun H1 locs1 hP1 hD1 hS1 => ?_)
  exact k p e s m args below meth c ws0 mc ms _ H1 locs1 cells slots rls _ C' ⟨ee_sIR hHR hk g1, hP1, hD1, hS1, hL.ext (ee_Ext.set g1), F3.ext (ee_Ext.set g1), hE.tr (ee_Ext.set g1)⟩ h1 h2
theorem ww_last {a n : Nat} {i : Int32} {x : Int64} (hd : decode (mm_c M) pc = .ok (.lastore, 1)) (hk : hp_K h a = (21, n)) (hi : vp_in i n) (k : WW l Z M d bc bs (pc + 1) lv st (hp_sL h a (vp_updL (hp_L h a) i.toNatClampNeg x)) Post) : WW l Z M d bc bs pc lv ((.long x) :: (.int i) :: (.ref a) :: st) h Post := by
  intro p e s m args below meth c ws0 mc ms ws H locs cells slots rls rst C' S h1 h2
  have C'' := C'
  obtain ⟨hx, hb, hr, hml, hown, hts, hlocks, htab, hK, hZ, hst, hnm⟩ := C''
  obtain ⟨hHR, hP, hD, hS, hL, hF, hE⟩ := S
  obtain ⟨w', r0, e0, qw, F1⟩ := hF.c
  subst e0
  cases (show w' = Value.long x from qw)
  obtain ⟨v', r1, e1, qv, F2⟩ := F1.c
  subst e1
  cases (show v' = Value.int i from qv)
  obtain ⟨b0, r2, e2, q0, F3⟩ := F2.c
  subst e2
  obtain ⟨q, g1, g4⟩ := hHR.arrL hk
  cases g4 _ q0
  refine va_last hx hb hK hP hD hS a 1 g1 rfl hi hd (fun H1 locs1 hP1 hD1 hS1 => ?_)
  exact k p e s m args below meth c ws0 mc ms _ H1 locs1 cells slots rls _ C' ⟨ee_sLR hHR hk g1, hP1, hD1, hS1, hL.ext (ee_Ext.set g1), F3.ext (ee_Ext.set g1), hE.tr (ee_Ext.set g1)⟩ h1 h2
end WWH
