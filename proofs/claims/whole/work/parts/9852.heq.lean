/-! ===== a row's values beyond its length are nothing ===== -/
def hqE (h h2 : PH) : Prop := hp_N h2 = hp_N h ∧ hp_K h2 = hp_K h ∧ hp_F h2 = hp_F h ∧ hp_L h2 = hp_L h ∧ ∀ a i, i < (hp_K h a).2 → hp_I h2 a i = hp_I h a i
def hqR (h2 : PH) (k : Nat) (q : Nat × va_E) : Nat × va_E := match q with
  | (a, .inl (c, n, .inl _)) => (a, .inl (c, n, .inl (hp_I h2 k)))
  | x => x
theorem hqR_1 (h2 : PH) (k : Nat) (q : Nat × va_E) : (hqR h2 k q).1 = q.1 := by
  unfold hqR; split <;> rfl
theorem hq_cell {cA : ClassId} {n : Nat} {f g : Nat → Int32} (h : ∀ i, i < n → g i = f i) : vp_cell cA (n, .inl g) = vp_cell cA (n, .inl f) := by
  rw [vp_cell_i, vp_cell_i]
  have e : (fun j : Fin n => Value.int (g j.val)) = fun j : Fin n => Value.int (f j.val) := by
    funext j
    rw [h j.val j.isLt]
  unfold arrV
  rw [e]
theorem hq_ext {ws : va_W} (h2 : PH) : ee_Ext ws (ws.mapIdx (hqR h2)) := fun k a e hk => by
  refine ⟨(hqR h2 k (a, e)).2, ?_⟩
  rw [List.getElem?_mapIdx, hk]
  show some (hqR h2 k (a, e)) = _
  have e1 : (hqR h2 k (a, e)).1 = a := hqR_1 h2 k (a, e)
  exact congrArg some (Prod.ext e1 rfl)
theorem hq_back {ws : va_W} {h2 : PH} {k : Nat} {q : Nat × va_E} (h : (ws.mapIdx (hqR h2))[k]? = some q) : ∃ q0, ws[k]? = some q0 ∧ q = hqR h2 k q0 := by
  rw [List.getElem?_mapIdx] at h
  cases hw : ws[k]? with
  | none => rw [hw] at h; cases h
  | some q0 => rw [hw] at h; exact ⟨q0, rfl, (Option.some.inj h).symm⟩
theorem hq_HR {Z : EE} {ws : va_W} {h h2 : PH} (hq : hqE h h2) (hr : ee_HR Z ws h) : ee_HR Z (ws.mapIdx (hqR h2)) h2 := by
  obtain ⟨e1, e2, e3, e4, e5⟩ := hq
  obtain ⟨r1, r2, r3, r4⟩ := hr
  refine ⟨by rw [List.length_mapIdx, e1]; exact r1, by rw [e1]; exact r2, fun k hk => by rw [e2]; exact r3 k (by rw [← e1]; exact hk), fun k hk => ?_⟩
  obtain ⟨a, e, g1, g2⟩ := r4 k (by rw [← e1]; exact hk)
  have gm : (ws.mapIdx (hqR h2))[k]? = some (hqR h2 k (a, e)) := by rw [List.getElem?_mapIdx, g1]; rfl
  unfold ee_CR at g2
  rcases g2 with ⟨b1, fs, b2, b3, b4⟩ | ⟨b1, b2⟩ | ⟨b1, b2⟩ | ⟨b1, b2⟩ | ⟨b1, g, b2, b3⟩
  · subst b2
    refine ⟨a, _, gm, ?_⟩
    unfold ee_CR
    rw [e2, e3]
    exact Or.inl ⟨b1, fs, rfl, b3, fun j hj => by
      obtain ⟨v', p1, p2⟩ := b4 j hj
      exact ⟨v', p1, p2.ext (hq_ext h2)⟩⟩
  · subst b2
    refine ⟨a, _, gm, ?_⟩
    unfold ee_CR
    rw [e2]
    exact Or.inr (Or.inl ⟨b1, rfl⟩)
  · subst b2
    refine ⟨a, _, gm, ?_⟩
    unfold ee_CR
    rw [e2, e4]
    exact Or.inr (Or.inr (Or.inl ⟨b1, rfl⟩))
  · subst b2
    refine ⟨a, _, gm, ?_⟩
    unfold ee_CR
    rw [e2]
    exact Or.inr (Or.inr (Or.inr (Or.inl ⟨b1, rfl⟩)))
  · subst b2
    refine ⟨a, _, gm, ?_⟩
    unfold ee_CR
    rw [e2, e3]
    exact Or.inr (Or.inr (Or.inr (Or.inr ⟨b1, g, rfl, fun j hj => (b3 j hj).ext (hq_ext h2)⟩)))
theorem hq_P {Z : EE} {ws : va_W} {h h2 : PH} {H : Heap} (hq : hqE h h2) (hr : ee_HR Z ws h) (hP : va_P Z.1 vwCl ws H) : va_P Z.1 vwCl (ws.mapIdx (hqR h2)) H := by
  intro k q hk
  obtain ⟨q0, g0, rfl⟩ := hq_back hk
  have hat := hP k q0 g0
  have hlt : k < hp_N h := by rw [← hr.1]; exact (List.getElem?_eq_some_iff.mp g0).1
  obtain ⟨a, e, g1, g2⟩ := hr.2.2.2 k hlt
  cases g0.symm.trans g1
  unfold ee_CR at g2
  rcases g2 with ⟨b1, fs, b2, b3, b4⟩ | ⟨b1, b2⟩ | ⟨b1, b2⟩ | ⟨b1, b2⟩ | ⟨b1, g, b2, b3⟩
  · subst b2; exact hat
  · subst b2
    show H[a]? = some (vp_cell (Z.2.1 0) ((hp_K h k).2, .inl (hp_I h2 k)))
    rw [hq_cell (fun i hi => hq.2.2.2.2 k i hi)]; exact hat
  · subst b2; exact hat
  · subst b2
    show H[a]? = some (vp_cell (Z.2.1 2) ((hp_K h k).2, .inl (hp_I h2 k)))
    rw [hq_cell (fun i hi => hq.2.2.2.2 k i hi)]; exact hat
  · subst b2; exact hat
theorem hq_D {A : Nat → Prop} {ws : va_W} {h2 : PH} (hD : va_D A ws) : va_D A (ws.mapIdx (hqR h2)) := by
  refine ⟨fun i j p q hi hj e => ?_, fun k q hk => ?_⟩
  · obtain ⟨p0, g1, rfl⟩ := hq_back hi
    obtain ⟨q0, g2, rfl⟩ := hq_back hj
    rw [hqR_1, hqR_1] at e
    exact hD.1 i j p0 q0 g1 g2 e
  · obtain ⟨q0, g2, rfl⟩ := hq_back hk
    rw [hqR_1]
    exact hD.2 k q0 g2
theorem ww_heq {l : Launch} {Z : EE} {M : MM} {d bc bs pc : Nat} {lv st : List Value} {h h2 : PH} {Post : Res → PH → Prop} (hq : hqE h h2) (k : WW l Z M d bc bs pc lv st h2 Post) : WW l Z M d bc bs pc lv st h Post := by
  intro p e s m args below meth c ws0 mc ms ws H locs cells slots rls rst C S h1 h9
  obtain ⟨hHR, hP, hD, hS, hL, hF, hE⟩ := S
  exact k p e s m args below meth c ws0 mc ms _ H locs cells slots rls rst C ⟨hq_HR hq hHR, hq_P hq hHR hP, hq_D hD, hS, hL.ext (hq_ext h2), hF.ext (hq_ext h2), hE.tr (hq_ext h2)⟩ h1 h9
/-- one row as another function says it -/
theorem hq_row {h : PH} {a n : Nat} {f : Nat → Int32} (hk : hp_K h a = (20, n)) (hf : ∀ i, i < n → f i = hp_I h a i) : hqE h (hp_sI h a f) := by
  refine ⟨rfl, rfl, rfl, rfl, fun b i hi => ?_⟩
  show (if b = a then f else hp_I h b) i = _
  by_cases e : b = a
  · subst e; rw [if_pos rfl]; exact hf i (by rw [hk] at hi; exact hi)
  · rw [if_neg e]
