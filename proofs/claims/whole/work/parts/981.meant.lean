/-! ===== what was meant: what is reckoned ===== -/
abbrev MT : Type := Nat × Nat × (Nat → Nat)
def hld (w : Nat → Nat) (n : Nat) : Nat → Nat := fun i => if i = n then w i + 1 else w i
def hB2 (w : Nat → Nat) (a b : Nat) : Nat → Nat := if b = a then hld w a else hld (hld w a) b
def hB3 (w : Nat → Nat) (a b c : Nat) : Nat → Nat := if c = b then hB2 w a b else hld (hB2 w a b) c
theorem hld_c (w : Nat → Nat) (a b : Nat) : hld (hld w a) b = hld (hld w b) a := by
  funext i
  show (if i = b then (if i = a then w i + 1 else w i) + 1 else (if i = a then w i + 1 else w i)) = (if i = a then (if i = b then w i + 1 else w i) + 1 else (if i = b then w i + 1 else w i))
  by_cases h1 : i = a
  · by_cases h2 : i = b
    · simp only [if_pos h1, if_pos h2]
    · simp only [if_pos h1, if_neg h2]
  · by_cases h2 : i = b
    · simp only [if_neg h1, if_pos h2]
    · simp only [if_neg h1, if_neg h2]
def lf1 (a : Nat) (s : MT) : MT := (s.1 + 1, (if s.1 = 0 then a else s.2.1), hld s.2.2 a)
def lf2 (a b : Nat) (s : MT) : MT := (s.1 + 1, (if s.1 = 0 then 100 * a + b else s.2.1), hB2 s.2.2 a b)
def lf3 (a b c : Nat) (s : MT) : MT := (s.1 + 1, (if s.1 = 0 then 10000 * a + 100 * b + c else s.2.1), hB3 s.2.2 a b c)
def lp {α : Type} (g : Nat → α → α) : Nat → Nat → α → α
  | _, 0, s => s
  | n, j + 1, s => lp g (n + 1) j (g n s)
theorem lp_id {α : Type} {g : Nat → α → α} : ∀ j n s, (∀ i s, n ≤ i → i < n + j → g i s = s) → lp g n j s = s
  | 0, _, _, _ => rfl
  | j + 1, n, s, h => by
    show lp g (n + 1) j (g n s) = s
    rw [h n s (Nat.le_refl _) (by omega)]
    exact lp_id j (n + 1) s (fun i s h1 h2 => h i s (by omega) (by omega))
theorem lp_cg {α : Type} {g g' : Nat → α → α} : ∀ j n s, (∀ i s, n ≤ i → i < n + j → g i s = g' i s) → lp g n j s = lp g' n j s
  | 0, _, _, _ => rfl
  | j + 1, n, s, h => by
    show lp g (n + 1) j (g n s) = lp g' (n + 1) j (g' n s)
    rw [h n s (Nat.le_refl _) (by omega)]
    exact lp_cg j (n + 1) _ (fun i s h1 h2 => h i s (by omega) (by omega))
def T3 (fr : Nat → Nat) (v A a b : Nat) (s : MT) : MT := lp (fun c s => if A + fr c = v then lf3 a b c s else s) b (61 - b) s
def P3 (fr : Nat → Nat) (v A a : Nat) (s : MT) : MT := lp (fun b s => T3 fr v (A + fr b) a b s) a (61 - a) s
def P2 (fr : Nat → Nat) (v A a : Nat) (s : MT) : MT := lp (fun b s => if A + fr b = v then lf2 a b s else s) a (61 - a) s
def GM (fr : Nat → Nat) (v k : Nat) (s : MT) : MT := if k = 1 then lp (fun a s => if fr a = v then lf1 a s else s) 1 60 s else if k = 2 then lp (fun a s => P2 fr v (fr a) a s) 1 60 s else lp (fun a s => P3 fr v (fr a) a s) 1 60 s
def mt0 : MT := (0, 0, fun _ => 0)
def ftV (s : MT) : Int32 := if s.1 = 0 then -1 else nI s.2.1
def MtG (s : MT) : Prop := (∀ n, s.2.2 n ≤ s.1) ∧ s.2.1 ≤ 606060
theorem mt0_g : MtG mt0 := ⟨fun _ => Nat.le_refl _, Nat.zero_le _⟩
theorem hld_le (w : Nat → Nat) (n i : Nat) : hld w n i ≤ w i + 1 := by unfold hld; split <;> omega
theorem hld_ne {w : Nat → Nat} {n i : Nat} (h : i ≠ n) : hld w n i = w i := if_neg h
theorem hB2_le (w : Nat → Nat) (a b i : Nat) : hB2 w a b i ≤ w i + 1 := by
  unfold hB2
  split
  · exact hld_le w a i
  · rename_i e
    by_cases h : i = b
    · rw [h]
      have h1 := hld_le (hld w a) b b
      rw [hld_ne (w := w) e] at h1
      exact h1
    · rw [hld_ne h]; exact hld_le w a i
theorem hB2_ne {w : Nat → Nat} {a b i : Nat} (h : i ≠ a) (h2 : i ≠ b) : hB2 w a b i = w i := by
  unfold hB2
  split
  · exact hld_ne h
  · rw [hld_ne h2, hld_ne h]
theorem hB3_le (w : Nat → Nat) {a b c : Nat} (h1 : a ≤ b) (h2 : b ≤ c) (i : Nat) : hB3 w a b c i ≤ w i + 1 := by
  unfold hB3
  split
  · exact hB2_le w a b i
  · rename_i e
    by_cases h : i = c
    · rw [h]
      have h3 := hld_le (hB2 w a b) c c
      rw [hB2_ne (w := w) (a := a) (b := b) (by omega) e] at h3
      exact h3
    · rw [hld_ne h]; exact hB2_le w a b i
theorem lf1_g {a : Nat} {s : MT} (ha : a ≤ 60) (h : MtG s) : MtG (lf1 a s) := by
  refine ⟨fun n => ?_, ?_⟩
  · have h1 := hld_le s.2.2 a n
    have h2 := h.1 n
    show hld s.2.2 a n ≤ s.1 + 1
    omega
  · have := h.2
    show (if s.1 = 0 then _ else _) ≤ _
    split <;> omega
theorem lf2_g {a b : Nat} {s : MT} (ha : a ≤ 60) (hb : b ≤ 60) (h : MtG s) : MtG (lf2 a b s) := by
  refine ⟨fun n => ?_, ?_⟩
  · have h1 := hB2_le s.2.2 a b n
    have h2 := h.1 n
    show hB2 s.2.2 a b n ≤ s.1 + 1
    omega
  · have := h.2
    show (if s.1 = 0 then _ else _) ≤ _
    split <;> omega
theorem lf3_g {a b c : Nat} {s : MT} (h1 : a ≤ b) (h2 : b ≤ c) (hc : c ≤ 60) (h : MtG s) : MtG (lf3 a b c s) := by
  refine ⟨fun n => ?_, ?_⟩
  · have h3 := hB3_le s.2.2 h1 h2 n
    have h4 := h.1 n
    show hB3 s.2.2 a b c n ≤ s.1 + 1
    omega
  · have := h.2
    show (if s.1 = 0 then _ else _) ≤ _
    split <;> omega
theorem lp_g {K : Nat} {g : Nat → MT → MT} : ∀ j n s, (∀ i s, n ≤ i → i < n + j → MtG s → MtG (g i s) ∧ (g i s).1 ≤ s.1 + K) → MtG s → MtG (lp g n j s) ∧ (lp g n j s).1 ≤ s.1 + K * j
  | 0, _, _, _, h => ⟨h, Nat.le_refl _⟩
  | j + 1, n, s, hg, h => by
    have h1 := hg n s (Nat.le_refl _) (by omega) h
    have h2 := lp_g j (n + 1) (g n s) (fun i s a b => hg i s (by omega) (by omega)) h1.1
    refine ⟨h2.1, Nat.le_trans h2.2 ?_⟩
    rw [Nat.mul_succ]; omega
theorem T3_g {fr : Nat → Nat} {v A a b : Nat} {s : MT} (hab : a ≤ b) (hb : b ≤ 60) (h : MtG s) : MtG (T3 fr v A a b s) ∧ (T3 fr v A a b s).1 ≤ s.1 + 61 := by
  have h1 := lp_g (K := 1) (g := fun c s => if A + fr c = v then lf3 a b c s else s) (61 - b) b s (fun i s h1 h2 h3 => by
    show MtG (if _ then _ else _) ∧ (if _ then _ else _ : MT).1 ≤ _
    split
    · exact ⟨lf3_g hab h1 (by omega) h3, Nat.le_refl _⟩
    · exact ⟨h3, by omega⟩) h
  exact ⟨h1.1, Nat.le_trans h1.2 (by omega)⟩
theorem P3_g {fr : Nat → Nat} {v A a : Nat} {s : MT} (ha : a ≤ 60) (h : MtG s) : MtG (P3 fr v A a s) ∧ (P3 fr v A a s).1 ≤ s.1 + 3721 := by
  have h1 := lp_g (K := 61) (g := fun b s => T3 fr v (A + fr b) a b s) (61 - a) a s (fun i s h1 h2 h3 => T3_g h1 (by omega) h3) h
  exact ⟨h1.1, Nat.le_trans h1.2 (by omega)⟩
theorem P2_g {fr : Nat → Nat} {v A a : Nat} {s : MT} (ha : a ≤ 60) (h : MtG s) : MtG (P2 fr v A a s) ∧ (P2 fr v A a s).1 ≤ s.1 + 3721 := by
  have h1 := lp_g (K := 1) (g := fun b s => if A + fr b = v then lf2 a b s else s) (61 - a) a s (fun i s h1 h2 h3 => by
    show MtG (if _ then _ else _) ∧ (if _ then _ else _ : MT).1 ≤ _
    split
    · exact ⟨lf2_g ha (by omega) h3, Nat.le_refl _⟩
    · exact ⟨h3, by omega⟩) h
  exact ⟨h1.1, Nat.le_trans h1.2 (by omega)⟩
theorem GM_g (fr : Nat → Nat) (v k : Nat) : MtG (GM fr v k mt0) ∧ (GM fr v k mt0).1 ≤ 223260 := by
  unfold GM
  split
  · have h1 := lp_g (K := 1) (g := fun a s => if fr a = v then lf1 a s else s) 60 1 mt0 (fun i s h1 h2 h3 => by
      show MtG (if _ then _ else _) ∧ (if _ then _ else _ : MT).1 ≤ _
      split
      · exact ⟨lf1_g (by omega) h3, Nat.le_refl _⟩
      · exact ⟨h3, by omega⟩) mt0_g
    exact ⟨h1.1, Nat.le_trans h1.2 (by show 0 + 1 * 60 ≤ _; omega)⟩
  · split
    · have h1 := lp_g (K := 3721) (g := fun a s => P2 fr v (fr a) a s) 60 1 mt0 (fun i s h1 h2 h3 => P2_g (by omega) h3) mt0_g
      exact ⟨h1.1, Nat.le_trans h1.2 (by show 0 + 3721 * 60 ≤ _; omega)⟩
    · have h1 := lp_g (K := 3721) (g := fun a s => P3 fr v (fr a) a s) 60 1 mt0 (fun i s h1 h2 h3 => P3_g (by omega) h3) mt0_g
      exact ⟨h1.1, Nat.le_trans h1.2 (by show 0 + 3721 * 60 ≤ _; omega)⟩
theorem T3_id {fr : Nat → Nat} {v A a b : Nat} {s : MT} (h : ∀ c, c ≤ 60 → ¬ A + fr c = v) (hb : b ≤ 60) : T3 fr v A a b s = s := lp_id _ _ _ (fun i s h1 h2 => if_neg (h i (by omega)))
theorem P3_id {fr : Nat → Nat} {v A a : Nat} {s : MT} (h : v < A) (ha : a ≤ 60) : P3 fr v A a s = s := lp_id _ _ _ (fun i s h1 h2 => T3_id (fun c _ => by omega) (by omega))
theorem P2_id {fr : Nat → Nat} {v A a : Nat} {s : MT} (h : v < A) (ha : a ≤ 60) : P2 fr v A a s = s := lp_id _ _ _ (fun i s h1 h2 => if_neg (by omega))
def wsN (s : MT) (n : Nat) : Nat := max (s.2.2 n) (s.1 - s.2.2 n)
def btF (s : MT) : Nat → Nat
  | 0 => 1
  | j + 1 => if wsN s (j + 2) < wsN s (btF s j) then j + 2 else btF s j
theorem btF_le (s : MT) : ∀ j, 1 ≤ btF s j ∧ btF s j ≤ j + 1
  | 0 => ⟨Nat.le_refl _, Nat.le_refl _⟩
  | j + 1 => by
    have := btF_le s j
    by_cases c : wsN s (j + 2) < wsN s (btF s j)
    · rw [show btF s (j + 1) = j + 2 from if_pos c]; omega
    · rw [show btF s (j + 1) = btF s j from if_neg c]; omega
theorem wsN_le {s : MT} (h : MtG s) (n : Nat) : wsN s n ≤ s.1 := by
  have := h.1 n
  unfold wsN; omega
/-! differences that may be below nought -/
theorem sub_neg {v A : Nat} (h : v < A) (hA9 : A ≤ 1000) : nI v - nI A < 0 := by
  have h1 : (nI v).toInt = v := Int32.toInt_ofNat_of_lt (by omega)
  have h2 : (nI A).toInt = A := Int32.toInt_ofNat_of_lt (by omega)
  rw [Int32.lt_iff_toInt_lt, Int32.toInt_sub, h1, h2]
  have h3 : ((v : Int) - A).bmod (2 ^ 32) = (v : Int) - A := Int.bmod_eq_of_le (by omega) (by omega)
  rw [h3]
  show (v : Int) - A < 0
  omega
theorem sub_sub (v A B : Nat) : nI v - nI A - nI B = nI v - nI (A + B) := by
  rw [← nI_add, Int32.sub_eq_add_neg, Int32.sub_eq_add_neg, Int32.sub_eq_add_neg, Int32.neg_add, Int32.sub_eq_add_neg, Int32.add_assoc]
theorem sub_0 {v A : Nat} (hv : v ≤ 1000) (hA9 : A ≤ 1000) : (nI v - nI A = 0) ↔ A = v := by
  constructor
  · intro h
    rcases Nat.lt_or_ge v A with c | c
    · have := sub_neg c hA9; rw [h] at this; exact absurd this (by decide)
    · rw [pk_sub c] at h
      have := (nI_eq (show v - A < 2 ^ 31 by omega) (show 0 < 2 ^ 31 by omega)).mp h
      omega
  · intro h; rw [h, pk_sub (Nat.le_refl _), Nat.sub_self]; rfl
