/-! ===== numbers settled one by one, the least first ===== -/
def ubN {α : Type} (f : Nat → α) (n : Nat) (v : α) : Nat → α := fun i => if i = n then v else f i
theorem ubN_s {α : Type} (f : Nat → α) (n : Nat) (v : α) : ubN f n v n = v := if_pos rfl
theorem ubN_n {α : Type} (f : Nat → α) {n i : Nat} (v : α) (h : i ≠ n) : ubN f n v i = f i := if_neg h
abbrev PQ : Type := (Nat → Nat) × (Nat → Nat)
def isLB (x : PQ) (c l n : Nat) : Bool := decide (c < x.1 n) || (c == x.1 n && decide (l < x.2 n))
theorem isLB_t {x : PQ} {c l n : Nat} : isLB x c l n = true ↔ (c < x.1 n ∨ (c = x.1 n ∧ l < x.2 n)) := by
  unfold isLB
  simp only [Bool.or_eq_true, Bool.and_eq_true, decide_eq_true_iff, beq_iff_eq]
theorem isLB_f {x : PQ} {c l n : Nat} (h : isLB x c l n = false) : lexle (x.1 n) (x.2 n) c l := by
  have h1 : ¬ (c < x.1 n ∨ (c = x.1 n ∧ l < x.2 n)) := fun e => by rw [isLB_t.mpr e] at h; cases h
  unfold lexle
  omega
def ofr (s : Nat → Bool) (x : PQ) (n c l : Nat) : PQ := if n ≤ 60 ∧ s n = false ∧ isLB x c l n = true then (ubN x.1 n c, ubN x.2 n l) else x
def adf (a b : Nat) : Nat := if a ≤ b then b - a else a - b
def ofJ (s : Nat → Bool) (D : Nat) (x : PQ) (a b : Nat) : PQ :=
  ofr s (ofr s (ofr s x (a + b) (x.1 a + x.1 b + D) (x.2 a + x.2 b)) (adf a b) (x.1 a + x.1 b + D) (x.2 a + x.2 b)) (a * b) (x.1 a + x.1 b + D) (x.2 a + x.2 b)
def ofA (s : Nat → Bool) (D : Nat) (x : PQ) (a : Nat) (σ : Nat → Nat) : Nat → PQ
  | 0 => x
  | k + 1 => ofJ s D (ofA s D x a σ k) a (σ k)
def lsU (x : PQ) (s : Nat → Bool) : Nat → Option Nat
  | 0 => none
  | k + 1 => if (!s k && decide (x.1 k < spFAR) && (match lsU x s k with | none => true | some b => isLB x (x.1 k) (x.2 k) b)) = true then some k else lsU x s k
abbrev SS : Type := PQ × (Nat → Bool) × (Nat → Nat)
def stpS (D t : Nat) (y : SS) : SS := match lsU y.1 y.2.1 61 with
  | none => y
  | some n => (ofA (ubN y.2.1 n true) D y.1 n (ubN y.2.2 t n) (t + 1), ubN y.2.1 n true, ubN y.2.2 t n)
def knS (own : Nat → Nat) (D : Nat) : Nat → SS
  | 0 => ((own, fun _ => 1), fun _ => false, fun _ => 0)
  | t + 1 => stpS D t (knS own D t)
theorem lexle.rf (a b : Nat) : lexle a b a b := Or.inr ⟨rfl, Nat.le_refl _⟩
theorem lexle.tr {a b c d e f : Nat} (h1 : lexle a b c d) (h2 : lexle c d e f) : lexle a b e f := by unfold lexle at *; omega
theorem mk3_cases {n a b : Nat} (h : mk3 n a b) : n = a + b ∨ n = adf a b ∨ n = a * b := by
  unfold adf
  rcases h with h | h | h | h
  · exact Or.inl h
  · refine Or.inr (Or.inl ?_); split <;> omega
  · refine Or.inr (Or.inl ?_); split <;> omega
  · exact Or.inr (Or.inr h)
theorem mk3_adf (a b : Nat) : mk3 (adf a b) a b := by
  unfold adf mk3
  split
  · exact Or.inr (Or.inr (Or.inl (by omega)))
  · exact Or.inr (Or.inl (by omega))
/-- what offers keep -/
def ofG (s : Nat → Bool) (D : Nat) (x0 : PQ) (a : Nat) (x : PQ) : Prop :=
  (∀ m, s m = true → x.1 m = x0.1 m ∧ x.2 m = x0.2 m) ∧
  (∀ m, m ≤ 60 → (x.1 m = x0.1 m ∧ x.2 m = x0.2 m) ∨ ∃ b, b ≤ 60 ∧ s b = true ∧ mk3 m a b ∧ x.1 m = x0.1 a + x0.1 b + D ∧ x.2 m = x0.2 a + x0.2 b) ∧
  (∀ m, lexle (x.1 m) (x.2 m) (x0.1 m) (x0.2 m))
theorem ofr_G {s : Nat → Bool} {D : Nat} {x0 x : PQ} {a b n : Nat} (h : ofG s D x0 a x) (hb : b ≤ 60) (sb : s b = true) (hm : mk3 n a b) :
    ofG s D x0 a (ofr s x n (x0.1 a + x0.1 b + D) (x0.2 a + x0.2 b)) ∧ (n ≤ 60 → s n = false → lexle ((ofr s x n (x0.1 a + x0.1 b + D) (x0.2 a + x0.2 b)).1 n) ((ofr s x n (x0.1 a + x0.1 b + D) (x0.2 a + x0.2 b)).2 n) (x0.1 a + x0.1 b + D) (x0.2 a + x0.2 b)) ∧
    ∀ m, lexle ((ofr s x n (x0.1 a + x0.1 b + D) (x0.2 a + x0.2 b)).1 m) ((ofr s x n (x0.1 a + x0.1 b + D) (x0.2 a + x0.2 b)).2 m) (x.1 m) (x.2 m) := by
  unfold ofr
  by_cases hc : n ≤ 60 ∧ s n = false ∧ isLB x (x0.1 a + x0.1 b + D) (x0.2 a + x0.2 b) n = true
  · rw [if_pos hc]
    have hl := isLB_t.mp hc.2.2
    have hd : ∀ m, lexle (ubN x.1 n (x0.1 a + x0.1 b + D) m) (ubN x.2 n (x0.2 a + x0.2 b) m) (x.1 m) (x.2 m) := fun m => by
      by_cases e : m = n
      · subst e
        rw [ubN_s, ubN_s]
        unfold lexle
        omega
      · rw [ubN_n _ _ e, ubN_n _ _ e]
        exact lexle.rf _ _
    refine ⟨⟨fun m sm => ?_, fun m hm9 => ?_, fun m => (hd m).tr (h.2.2 m)⟩, fun _ _ => ?_, hd⟩
    · have e : m ≠ n := fun e => by rw [e, hc.2.1] at sm; cases sm
      show ubN x.1 n _ m = _ ∧ ubN x.2 n _ m = _
      rw [ubN_n _ _ e, ubN_n _ _ e]
      exact h.1 m sm
    · show (ubN x.1 n _ m = _ ∧ ubN x.2 n _ m = _) ∨ ∃ b, b ≤ 60 ∧ s b = true ∧ mk3 m a b ∧ ubN x.1 n _ m = _ ∧ ubN x.2 n _ m = _
      by_cases e : m = n
      · subst e
        exact Or.inr ⟨b, hb, sb, hm, ubN_s _ _ _, ubN_s _ _ _⟩
      · rw [ubN_n _ _ e, ubN_n _ _ e]
        exact h.2.1 m hm9
    · show lexle (ubN x.1 n _ n) (ubN x.2 n _ n) _ _
      rw [ubN_s, ubN_s]
      exact lexle.rf _ _
  · rw [if_neg hc]
    refine ⟨h, fun h1 h2 => ?_, fun m => lexle.rf _ _⟩
    apply isLB_f
    cases e : isLB x (x0.1 a + x0.1 b + D) (x0.2 a + x0.2 b) n with
    | false => rfl
    | true => exact absurd ⟨h1, h2, e⟩ hc
theorem ofJ_G {s : Nat → Bool} {D : Nat} {x0 x : PQ} {a b : Nat} (h : ofG s D x0 a x) (sa : s a = true) (hb : b ≤ 60) (sb : s b = true) :
    ofG s D x0 a (ofJ s D x a b) ∧ (∀ n, n ≤ 60 → mk3 n a b → s n = false → lexle ((ofJ s D x a b).1 n) ((ofJ s D x a b).2 n) (x0.1 a + x0.1 b + D) (x0.2 a + x0.2 b)) ∧ ∀ m, lexle ((ofJ s D x a b).1 m) ((ofJ s D x a b).2 m) (x.1 m) (x.2 m) := by
  unfold ofJ
  rw [(h.1 a sa).1, (h.1 a sa).2, (h.1 b sb).1, (h.1 b sb).2]
  have h1 := ofr_G h hb sb (n := a + b) (Or.inl rfl)
  generalize ofr s x (a + b) (x0.1 a + x0.1 b + D) (x0.2 a + x0.2 b) = x1 at h1 ⊢
  have h2 := ofr_G h1.1 hb sb (mk3_adf a b)
  generalize ofr s x1 (adf a b) (x0.1 a + x0.1 b + D) (x0.2 a + x0.2 b) = x2 at h2 ⊢
  have h3 := ofr_G h2.1 hb sb (n := a * b) (Or.inr (Or.inr (Or.inr rfl)))
  generalize ofr s x2 (a * b) (x0.1 a + x0.1 b + D) (x0.2 a + x0.2 b) = x3 at h3 ⊢
  refine ⟨h3.1, fun n hn hm sn => ?_, fun m => ((h3.2.2 m).tr (h2.2.2 m)).tr (h1.2.2 m)⟩
  rcases mk3_cases hm with e | e | e
  · subst e
    exact ((h3.2.2 _).tr (h2.2.2 _)).tr (h1.2.1 hn sn)
  · subst e
    exact (h3.2.2 _).tr (h2.2.1 hn sn)
  · subst e
    exact h3.2.1 hn sn
theorem ofA_G {s : Nat → Bool} {D : Nat} {x0 : PQ} {a : Nat} {σ : Nat → Nat} (sa : s a = true) : ∀ k, (∀ i, i < k → σ i ≤ 60 ∧ s (σ i) = true) →
    ofG s D x0 a (ofA s D x0 a σ k) ∧ ∀ i, i < k → ∀ n, n ≤ 60 → mk3 n a (σ i) → s n = false → lexle ((ofA s D x0 a σ k).1 n) ((ofA s D x0 a σ k).2 n) (x0.1 a + x0.1 (σ i) + D) (x0.2 a + x0.2 (σ i))
  | 0, _ => ⟨⟨fun _ _ => ⟨rfl, rfl⟩, fun _ _ => Or.inl ⟨rfl, rfl⟩, fun _ => lexle.rf _ _⟩, fun i hi => absurd hi (Nat.not_lt_zero _)⟩
  | k + 1, hσ => by
    have ih := ofA_G (D := D) (x0 := x0) sa k (fun i hi => hσ i (by omega))
    have h1 := ofJ_G ih.1 sa (hσ k (by omega)).1 (hσ k (by omega)).2
    refine ⟨h1.1, fun i hi n hn hm sn => ?_⟩
    by_cases e : i = k
    · subst e
      exact h1.2.1 n hn hm sn
    · exact (h1.2.2 n).tr (ih.2 i (by omega) n hn hm sn)
theorem lsU_ok (x : PQ) (s : Nat → Bool) : ∀ k, (lsU x s k = none ∧ ∀ m, m < k → s m = false → spFAR ≤ x.1 m) ∨ ∃ n, lsU x s k = some n ∧ n < k ∧ s n = false ∧ x.1 n < spFAR ∧ ∀ m, m < k → s m = false → x.1 m < spFAR → lexle (x.1 n) (x.2 n) (x.1 m) (x.2 m)
  | 0 => Or.inl ⟨rfl, fun m hm => absurd hm (Nat.not_lt_zero _)⟩
  | k + 1 => by
    have ih := lsU_ok x s k
    simp only [lsU]
    by_cases hs : s k = false
    · by_cases hp : x.1 k < spFAR
      · rcases ih with ⟨e, h1⟩ | ⟨n, e, hn, sn, pn, h1⟩
        · rw [e]
          simp only [hs, hp, Bool.not_false, decide_true, Bool.and_true, if_true]
          refine Or.inr ⟨k, rfl, by omega, hs, hp, fun m hm sm pm => ?_⟩
          by_cases e2 : m = k
          · rw [e2]; exact lexle.rf _ _
          · have := h1 m (by omega) sm
            omega
        · rw [e]
          simp only [hs, hp, Bool.not_false, decide_true, Bool.true_and]
          by_cases hl : isLB x (x.1 k) (x.2 k) n = true
          · rw [if_pos hl]
            have hl2 := isLB_t.mp hl
            refine Or.inr ⟨k, rfl, by omega, hs, hp, fun m hm sm pm => ?_⟩
            by_cases e2 : m = k
            · rw [e2]; exact lexle.rf _ _
            · have := h1 m (by omega) sm pm
              unfold lexle at *
              omega
          · rw [if_neg hl]
            have hl2 : lexle (x.1 n) (x.2 n) (x.1 k) (x.2 k) := isLB_f (by simpa using hl)
            refine Or.inr ⟨n, rfl, by omega, sn, pn, fun m hm sm pm => ?_⟩
            by_cases e2 : m = k
            · rw [e2]; exact hl2
            · exact h1 m (by omega) sm pm
      · simp only [hp, decide_false, Bool.and_false, Bool.false_and, Bool.false_eq_true, if_false]
        rcases ih with ⟨e, h1⟩ | ⟨n, e, hn, sn, pn, h1⟩
        · refine Or.inl ⟨e, fun m hm sm => ?_⟩
          by_cases e2 : m = k
          · rw [e2]; omega
          · exact h1 m (by omega) sm
        · refine Or.inr ⟨n, e, by omega, sn, pn, fun m hm sm pm => ?_⟩
          by_cases e2 : m = k
          · rw [e2] at pm; exact absurd pm hp
          · exact h1 m (by omega) sm pm
    · have hs2 : s k = true := by simpa using hs
      simp only [hs2, Bool.not_true, Bool.false_and, Bool.false_eq_true, if_false]
      rcases ih with ⟨e, h1⟩ | ⟨n, e, hn, sn, pn, h1⟩
      · refine Or.inl ⟨e, fun m hm sm => ?_⟩
        by_cases e2 : m = k
        · rw [e2, hs2] at sm; cases sm
        · exact h1 m (by omega) sm
      · refine Or.inr ⟨n, e, by omega, sn, pn, fun m hm sm pm => ?_⟩
        by_cases e2 : m = k
        · rw [e2, hs2] at sm; cases sm
        · exact h1 m (by omega) sm pm
/-- how things stand behind t rounds: t are settled, or no more can be -/
def knI (own : Nat → Nat) (D : Nat) (y : SS) : Prop :=
  (∀ a b, a ≤ 60 → b ≤ 60 → y.2.1 a = true → y.2.1 b = false → lexle (y.1.1 a) (y.1.2 a) (y.1.1 b) (y.1.2 b)) ∧
  (∀ n a b, n ≤ 60 → a ≤ 60 → b ≤ 60 → y.2.1 a = true → y.2.1 b = true → mk3 n a b → lexle (y.1.1 n) (y.1.2 n) (y.1.1 a + y.1.1 b + D) (y.1.2 a + y.1.2 b)) ∧
  (∀ n, n ≤ 60 → (y.1.1 n = own n ∧ y.1.2 n = 1) ∨ ∃ a b, a ≤ 60 ∧ b ≤ 60 ∧ y.2.1 a = true ∧ y.2.1 b = true ∧ mk3 n a b ∧ y.1.1 n = y.1.1 a + y.1.1 b + D ∧ y.1.2 n = y.1.2 a + y.1.2 b) ∧
  (∀ n, n ≤ 60 → lexle (y.1.1 n) (y.1.2 n) (own n) 1) ∧ (∀ n, n ≤ 60 → 1 ≤ y.1.2 n) ∧
  (∀ n, n ≤ 60 → y.2.1 n = true → y.1.1 n < spFAR)
def knC (t : Nat) (y : SS) : Prop := (∀ i, i < t → y.2.2 i ≤ 60 ∧ y.2.1 (y.2.2 i) = true) ∧ (∀ n, n ≤ 60 → y.2.1 n = true → ∃ i, i < t ∧ y.2.2 i = n) ∧ cnt y.2.1 61 = t
theorem cnt_up {s : Nat → Bool} {n : Nat} (hs : s n = false) : ∀ k, cnt (ubN s n true) k = cnt s k + if n < k then 1 else 0
  | 0 => rfl
  | k + 1 => by
    have ih := cnt_up hs k
    simp only [cnt, ih]
    by_cases e : k = n
    · subst e
      have h2 : k < k + 1 := by omega
      have h3 : ¬ k < k := by omega
      rw [ubN_s, hs, if_neg h3, if_pos h2, if_pos rfl, if_neg (by decide)]
    · rw [ubN_n _ _ e]
      by_cases h1 : n < k
      · have h2 : n < k + 1 := by omega
        rw [if_pos h1, if_pos h2]; omega
      · have h2 : ¬ n < k + 1 := by omega
        rw [if_neg h1, if_neg h2]; omega
theorem kn_some {D t : Nat} {y : SS} {n : Nat} (hn : lsU y.1 y.2.1 61 = some n) : stpS D t y = (ofA (ubN y.2.1 n true) D y.1 n (ubN y.2.2 t n) (t + 1), ubN y.2.1 n true, ubN y.2.2 t n) := by unfold stpS; rw [hn]
theorem kn_step {own : Nat → Nat} {D t : Nat} {y : SS} {n : Nat} (hI : knI own D y) (hC : knC t y) (hn : lsU y.1 y.2.1 61 = some n) : knI own D (stpS D t y) ∧ knC (t + 1) (stpS D t y) ∧ (∀ m, m ≤ 60 → y.2.1 m = true → (stpS D t y).2.1 m = true ∧ (stpS D t y).1.1 m = y.1.1 m ∧ (stpS D t y).1.2 m = y.1.2 m) ∧ ((stpS D t y).1.1 n = y.1.1 n ∧ (stpS D t y).1.2 n = y.1.2 n) := by
  obtain ⟨i1, i2, i3, i4, i5, i6⟩ := hI
  obtain ⟨c1, c2, c3⟩ := hC
  rcases lsU_ok y.1 y.2.1 61 with ⟨e, -⟩ | ⟨n', e, hn61, sn, pn, hmin⟩
  · rw [hn] at e; cases e
  rw [hn] at e
  cases e
  have hn60 : n ≤ 60 := by omega
  rw [kn_some hn]
  have sa : ubN y.2.1 n true n = true := ubN_s _ _ _
  have hσ : ∀ i, i < t + 1 → ubN y.2.2 t n i ≤ 60 ∧ ubN y.2.1 n true (ubN y.2.2 t n i) = true := fun i hi => by
    by_cases e : i = t
    · subst e; rw [ubN_s]; exact ⟨hn60, sa⟩
    · rw [ubN_n _ _ e]
      have := c1 i (by omega)
      refine ⟨this.1, ?_⟩
      by_cases e2 : y.2.2 i = n
      · rw [e2]; exact sa
      · rw [ubN_n _ _ e2]; exact this.2
  have hG := ofA_G (D := D) (x0 := y.1) sa (t + 1) hσ
  generalize ofA (ubN y.2.1 n true) D y.1 n (ubN y.2.2 t n) (t + 1) = x at hG ⊢
  obtain ⟨⟨g1, g2, g3⟩, hA⟩ := hG
  have sold : ∀ m, y.2.1 m = true → ubN y.2.1 n true m = true := fun m hm => by
    by_cases e : m = n
    · rw [e]; exact sa
    · rw [ubN_n _ _ e]; exact hm
  have snew : ∀ m, ubN y.2.1 n true m = true → m = n ∨ y.2.1 m = true := fun m hm => by
    by_cases e : m = n
    · exact Or.inl e
    · rw [ubN_n _ _ e] at hm; exact Or.inr hm
  have sf : ∀ m, ubN y.2.1 n true m = false → m ≠ n ∧ y.2.1 m = false := fun m hm => by
    by_cases e : m = n
    · rw [e, sa] at hm; cases hm
    · rw [ubN_n _ _ e] at hm; exact ⟨e, hm⟩
  have kle : ∀ m, m ≤ 60 → ubN y.2.1 n true m = true → lexle (y.1.1 m) (y.1.2 m) (y.1.1 n) (y.1.2 n) := fun m hm sm => by
    rcases snew m sm with e | e
    · rw [e]; exact lexle.rf _ _
    · exact i1 m n hm hn60 e sn
  have hsn : ∀ m, m ≤ 60 → y.2.1 m = false → lexle (y.1.1 n) (y.1.2 n) (y.1.1 m) (y.1.2 m) := fun m hm sm => by
    by_cases e : y.1.1 m < spFAR
    · exact hmin m (by omega) sm e
    · unfold lexle; omega
  refine ⟨⟨fun a b ha hb s1 s2 => ?_, fun m a b hm ha hb s1 s2 h3 => ?_, fun m hm => ?_, fun m hm => (g3 m).tr (i4 m hm), fun m hm => ?_, fun m hm sm => ?_⟩, ⟨hσ, fun m hm sm => ?_, ?_⟩, fun m hm sm => ⟨sold m sm, g1 m (sold m sm)⟩, g1 n sa⟩
  · show lexle (x.1 a) (x.2 a) (x.1 b) (x.2 b)
    have s1 : ubN y.2.1 n true a = true := s1
    have s2 : ubN y.2.1 n true b = false := s2
    rw [(g1 a s1).1, (g1 a s1).2]
    have k1 := kle a ha s1
    rcases g2 b hb with ⟨e1, e2⟩ | ⟨z, hz, sz, mz, e1, e2⟩
    · rw [e1, e2]
      exact k1.tr (hsn b hb (sf b s2).2)
    · refine k1.tr ?_
      unfold lexle
      omega
  · show lexle (x.1 m) (x.2 m) (x.1 a + x.1 b + D) (x.2 a + x.2 b)
    have s1 : ubN y.2.1 n true a = true := s1
    have s2 : ubN y.2.1 n true b = true := s2
    rw [(g1 a s1).1, (g1 a s1).2, (g1 b s2).1, (g1 b s2).2]
    have key : ∀ z, z ≤ 60 → ubN y.2.1 n true z = true → mk3 m n z → lexle (x.1 m) (x.2 m) (y.1.1 n + y.1.1 z + D) (y.1.2 n + y.1.2 z) := fun z hz sz h9 => by
      cases hsm : ubN y.2.1 n true m with
      | true =>
        rw [(g1 m hsm).1, (g1 m hsm).2]
        refine (kle m hm hsm).tr ?_
        unfold lexle
        omega
      | false =>
        have : ∃ i, i < t + 1 ∧ ubN y.2.2 t n i = z := by
          rcases snew z sz with e | e
          · exact ⟨t, by omega, by rw [ubN_s, e]⟩
          · obtain ⟨i, hi, ei⟩ := c2 z hz e
            exact ⟨i, by omega, by rw [ubN_n _ _ (by omega)]; exact ei⟩
        obtain ⟨i, hi, ei⟩ := this
        have := hA i hi m hm (by rw [ei]; exact h9) hsm
        rw [ei] at this
        exact this
    rcases snew a s1 with ea | ea
    · rw [ea] at h3 ⊢
      exact key b hb s2 h3
    · rcases snew b s2 with eb | eb
      · rw [eb] at h3 ⊢
        have := key a ha s1 h3.sym
        rw [Nat.add_comm (y.1.1 a), Nat.add_comm (y.1.2 a)]
        exact this
      · exact (g3 m).tr (i2 m a b hm ha hb ea eb h3)
  · show (x.1 m = own m ∧ x.2 m = 1) ∨ ∃ a b, a ≤ 60 ∧ b ≤ 60 ∧ ubN y.2.1 n true a = true ∧ ubN y.2.1 n true b = true ∧ mk3 m a b ∧ x.1 m = x.1 a + x.1 b + D ∧ x.2 m = x.2 a + x.2 b
    rcases g2 m hm with ⟨e1, e2⟩ | ⟨z, hz, sz, mz, e1, e2⟩
    · rw [e1, e2]
      rcases i3 m hm with e | ⟨a, b, ha, hb, s1, s2, h3, f1, f2⟩
      · exact Or.inl e
      · refine Or.inr ⟨a, b, ha, hb, sold a s1, sold b s2, h3, ?_, ?_⟩
        · rw [(g1 a (sold a s1)).1, (g1 b (sold b s2)).1]; exact f1
        · rw [(g1 a (sold a s1)).2, (g1 b (sold b s2)).2]; exact f2
    · refine Or.inr ⟨n, z, hn60, hz, sa, sz, mz, ?_, ?_⟩
      · rw [(g1 n sa).1, (g1 z sz).1]; exact e1
      · rw [(g1 n sa).2, (g1 z sz).2]; exact e2
  · show 1 ≤ x.2 m
    rcases g2 m hm with ⟨e1, e2⟩ | ⟨z, hz, sz, mz, e1, e2⟩
    · rw [e2]; exact i5 m hm
    · have := i5 n hn60
      omega
  · show x.1 m < spFAR
    have sm : ubN y.2.1 n true m = true := sm
    rw [(g1 m sm).1]
    rcases snew m sm with e | e
    · rw [e]; exact pn
    · exact i6 m hm e
  · show ∃ i, i < t + 1 ∧ ubN y.2.2 t n i = m
    rcases snew m sm with e | e
    · exact ⟨t, by omega, by rw [ubN_s, e]⟩
    · obtain ⟨i, hi, ei⟩ := c2 m hm e
      exact ⟨i, by omega, by rw [ubN_n _ _ (by omega)]; exact ei⟩
  · show cnt (ubN y.2.1 n true) 61 = t + 1
    rw [cnt_up sn, if_pos (by omega), c3]
theorem kn_none {D t : Nat} {y : SS} (hn : lsU y.1 y.2.1 61 = none) : stpS D t y = y := by unfold stpS; rw [hn]
theorem kn_I (own : Nat → Nat) (D : Nat) : ∀ t, knI own D (knS own D t) ∧ (knC t (knS own D t) ∨ lsU (knS own D t).1 (knS own D t).2.1 61 = none)
  | 0 => by
    refine ⟨⟨fun a b _ _ s1 => ?_, fun n a b _ _ _ s1 => ?_, fun n hn => Or.inl ⟨rfl, rfl⟩, fun n hn => lexle.rf _ _, fun n hn => Nat.le_refl _, fun n hn s1 => ?_⟩, Or.inl ⟨fun i hi => absurd hi (Nat.not_lt_zero _), fun n hn s1 => ?_, ?_⟩⟩
    · cases s1
    · cases s1
    · cases s1
    · cases s1
    · show cnt (fun _ => false) 61 = 0
      decide
  | t + 1 => by
    have ih := kn_I own D t
    simp only [knS]
    generalize knS own D t = y at ih ⊢
    cases hl : lsU y.1 y.2.1 61 with
    | none => rw [kn_none hl]; exact ⟨ih.1, Or.inr hl⟩
    | some n =>
      rcases ih.2 with hC | hC
      · have := kn_step ih.1 hC hl
        exact ⟨this.1, Or.inl this.2.1⟩
      · rw [hl] at hC; cases hC
theorem cnt_full {s : Nat → Bool} : ∀ k, cnt s k = k → ∀ i, i < k → s i = true
  | 0, _, i, hi => absurd hi (Nat.not_lt_zero _)
  | k + 1, h, i, hi => by
    simp only [cnt] at h
    have h1 := cnt_le s k
    by_cases e : s k = true
    · rw [if_pos e] at h
      by_cases e2 : i = k
      · rw [e2]; exact e
      · exact cnt_full k (by omega) i (by omega)
    · rw [if_neg e] at h; omega
theorem kn_fix {own : Nat → Nat} {D : Nat} : fixC own D (knS own D 61).1.1 (knS own D 61).1.2 := by
  have h := kn_I own D 61
  generalize knS own D 61 = y at h ⊢
  obtain ⟨⟨i1, i2, i3, i4, i5, i6⟩, hC⟩ := h
  have hset : ∀ n, n ≤ 60 → y.1.1 n < spFAR → y.2.1 n = true := fun n hn hp => by
    rcases hC with ⟨-, -, c⟩ | hl
    · exact cnt_full 61 c n (by omega)
    · rcases lsU_ok y.1 y.2.1 61 with ⟨-, h1⟩ | ⟨m, e, -⟩
      · cases e : y.2.1 n with
        | true => rfl
        | false => have := h1 n (by omega) e; omega
      · rw [hl] at e; cases e
  refine ⟨fun n hn => ?_, i4, fun n a b hn ha hb hm pa pb => i2 n a b hn ha hb (hset a ha pa) (hset b hb pb) hm, i5⟩
  rcases i3 n hn with e | ⟨a, b, ha, hb, sa, sb, hm, e1, e2⟩
  · exact Or.inl e
  · exact Or.inr ⟨a, b, ha, hb, hm, i6 a ha sa, i6 b hb sb, e1, e2⟩
theorem kn_keep (own : Nat → Nat) (D t : Nat) {m : Nat} (hm : m ≤ 60) (sm : (knS own D t).2.1 m = true) : ∀ i, (knS own D (t + i)).2.1 m = true ∧ (knS own D (t + i)).1.1 m = (knS own D t).1.1 m ∧ (knS own D (t + i)).1.2 m = (knS own D t).1.2 m
  | 0 => ⟨sm, rfl, rfl⟩
  | i + 1 => by
    have ih := kn_keep own D t hm sm i
    have h9 := kn_I own D (t + i)
    rw [show t + (i + 1) = (t + i) + 1 from rfl]
    simp only [knS]
    generalize knS own D (t + i) = y at ih h9 ⊢
    cases hl : lsU y.1 y.2.1 61 with
    | none => rw [kn_none hl]; exact ih
    | some n =>
      rcases h9.2 with hC | hC
      · have := (kn_step h9.1 hC hl).2.2.1 m hm ih.1
        exact ⟨this.1, this.2.1.trans ih.2.1, this.2.2.trans ih.2.2⟩
      · rw [hl] at hC; cases hC
