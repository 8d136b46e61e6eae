/-! ===== both find the same way ===== -/
theorem fstN_congr {P Q : Nat → Bool} : ∀ (j i : Nat), (∀ k, i ≤ k → k < i + j → P k = Q k) → fstN P i j = fstN Q i j
  | 0, _, _ => rfl
  | j + 1, i, h => by
    have ih := fstN_congr (P := P) (Q := Q) j (i + 1) (fun k h1 h2 => h k (by omega) (by omega))
    simp only [fstN, h i (Nat.le_refl _) (by omega), ih]
theorem fstN_one {P : Nat → Bool} {c : Nat} (h : ∀ i, P i = true → i = c) : ∀ (j i : Nat), fstN P i j = if i ≤ c ∧ c < i + j ∧ P c = true then some c else none
  | 0, i => by rw [if_neg (by omega)]; rfl
  | j + 1, i => by
    have ih := fstN_one h j (i + 1)
    by_cases e : P i = true
    · have hc := h i e
      rw [fstN_t j e, if_pos ⟨by omega, by omega, by rw [← hc]; exact e⟩, hc]
    · rw [fstN_f j (by simpa using e), ih]
      by_cases e2 : i = c
      · rw [if_neg (by omega), if_neg (fun q => e (by rw [e2]; exact q.2.2))]
      · by_cases e3 : i + 1 ≤ c ∧ c < i + 1 + j ∧ P c = true
        · rw [if_pos e3, if_pos ⟨by omega, by omega, e3.2.2⟩]
        · rw [if_neg e3, if_neg (fun q => e3 ⟨by omega, by omega, q.2.2⟩)]
section WAYS
variable {f : Nat → Int32} {sz : Nat} {kf vf : Nat → Int32} {du n : Nat}
theorem rfT_tk (hn : n ≤ 60) {a b : Nat} (ha : a ≤ 60) (hb : b ≤ 60) (hm : mk3 n a b) : rfT (syL f sz kf vf du) du n a b = tkB (syQ f sz kf vf du) du n a b := by
  have h1 : fixC (syO f sz kf vf) du (syQ f sz kf vf du).1 (syQ f sz kf vf du).2 := by unfold syQ; exact kn_fix
  have qa := syQ_le f sz kf vf du ha
  have qb := syQ_le f sz kf vf du hb
  have qn := syQ_le f sz kf vf du hn
  have hF : spFAR = 1000000000 := rfl
  have hx := h1.2.2.1 n a b hn ha hb hm (by omega) (by omega)
  unfold lexle at hx
  rw [Bool.eq_iff_iff]
  simp only [rfT, tkB, syL, Bool.and_eq_true, beq_iff_eq]
  omega
theorem rs_1 (hn : n ≤ 60) : ∀ (j a : Nat), a + j = 61 → rsd (syL f sz kf vf du) du n 1 a j = (fstN (suP (syQ f sz kf vf du) du n) a j).map (fun a => (a, n - a))
  | 0, _, _ => rfl
  | j + 1, a, hj => by
    have ih := rs_1 hn j (a + 1) (by omega)
    have hone := fstN_one (P := rfP (syL f sz kf vf du) du n 1 a) (c := n - a) (fun i hi => by
      simp only [rfP, mdO, if_pos, Bool.and_eq_true, beq_iff_eq, Option.some.injEq] at hi; omega) (61 - a) a
    by_cases c : suP (syQ f sz kf vf du) du n a = true
    · have c2 : 2 * a ≤ n ∧ tkB (syQ f sz kf vf du) du n a (n - a) = true := by simpa [suP] using c
      have ht := rfT_tk (f := f) (sz := sz) (kf := kf) (vf := vf) (du := du) hn (a := a) (b := n - a) (by omega) (by omega) (Or.inl (by omega))
      rw [if_pos ⟨by omega, by omega, by simp only [rfP, mdO, if_pos, Bool.and_eq_true, beq_iff_eq, Option.some.injEq]; exact ⟨by omega, by rw [ht]; exact c2.2⟩⟩] at hone
      rw [rsd_t j (by exact hone), fstN_t j c]; rfl
    · rw [fstN_f j (by simpa using c), ← ih]
      refine rsd_f j ?_
      show fstN (rfP (syL f sz kf vf du) du n 1 a) a (61 - a) = none
      rw [hone]
      refine if_neg (fun q => c ?_)
      have q3 := q.2.2
      simp only [rfP, mdO, if_pos, Bool.and_eq_true, beq_iff_eq, Option.some.injEq] at q3
      have ht := rfT_tk (f := f) (sz := sz) (kf := kf) (vf := vf) (du := du) hn (a := a) (b := n - a) (by omega) (by omega) (Or.inl (by omega))
      simp only [suP, Bool.and_eq_true, decide_eq_true_eq]
      exact ⟨by omega, by rw [← ht]; exact q3.2⟩
theorem rs_3 (hn : n ≤ 60) : ∀ (j a : Nat), a + j = 61 → rsd (syL f sz kf vf du) du n 3 a j = prd (syQ f sz kf vf du) du n a j
  | 0, _, _ => rfl
  | j + 1, a, hj => by
    have ih := rs_3 hn j (a + 1) (by omega)
    have hcg : fstN (rfP (syL f sz kf vf du) du n 3 a) a (61 - a) = fstN (prP (syQ f sz kf vf du) du n a) a (61 - a) := fstN_congr _ _ (fun b h1 h2 => by
      by_cases e : a * b = n
      · have ht := rfT_tk (f := f) (sz := sz) (kf := kf) (vf := vf) (du := du) hn (a := a) (b := b) (by omega) (by omega) (Or.inr (Or.inr (Or.inr e.symm)))
        simp [rfP, prP, mdO, e, ht]
      · have e2 : (a * b == n) = false := by simpa using e
        simp [rfP, prP, mdO, e2])
    rcases e : fstN (prP (syQ f sz kf vf du) du n a) a (61 - a) with _ | b
    · rw [prd_f j e, ← ih]; exact rsd_f j (by show fstN (rfP (syL f sz kf vf du) du n 3 a) a (61 - a) = none; rw [hcg]; exact e)
    · rw [prd_t j e]; exact rsd_t j (by show fstN (rfP (syL f sz kf vf du) du n 3 a) a (61 - a) = some b; rw [hcg]; exact e)
theorem rfP2 {v : Nat → Nat} {a b : Nat} : rfP v du n 2 a b = true ↔ (b ≤ a ∧ a - b = n ∧ rfT v du n a b = true) := by
  unfold rfP mdO
  by_cases c : b ≤ a <;> simp [c]
theorem fstN_skip {P : Nat → Bool} : ∀ (k i j : Nat), (∀ q, i ≤ q → q < i + k → P q = false) → fstN P i (k + j) = fstN P (i + k) j
  | 0, i, j, _ => by simp
  | k + 1, i, j, h => by
    rw [show k + 1 + j = (k + j) + 1 by omega, fstN_f (k + j) (h i (Nat.le_refl _) (by omega)), fstN_skip k (i + 1) j (fun q h1 h2 => h q (by omega) (by omega)), show i + 1 + k = i + (k + 1) by omega]
theorem rs_2 (hn : n ≤ 60) : ∀ (j a : Nat), a + j = 61 → rsd (syL f sz kf vf du) du n 2 a j = (fstN (fun a => decide (n ≤ a) && dfP (syQ f sz kf vf du) du n a) a j).map (fun a => (a, a - n))
  | 0, _, _ => rfl
  | j + 1, a, hj => by
    have ih := rs_2 hn j (a + 1) (by omega)
    have hone := fstN_one (P := rfP (syL f sz kf vf du) du n 2 a) (c := a - n) (fun i hi => by
      have := rfP2.mp hi; omega) 61 0
    by_cases c : (fun a => decide (n ≤ a) && dfP (syQ f sz kf vf du) du n a) a = true
    · have c2 : n ≤ a ∧ tkB (syQ f sz kf vf du) du n a (a - n) = true := by simpa [dfP] using c
      have ht := rfT_tk (f := f) (sz := sz) (kf := kf) (vf := vf) (du := du) hn (a := a) (b := a - n) (by omega) (by omega) (Or.inr (Or.inl (by omega)))
      rw [if_pos ⟨by omega, by omega, rfP2.mpr ⟨by omega, by omega, by rw [ht]; exact c2.2⟩⟩] at hone
      rw [rsd_t j (by exact hone), fstN_t j c]; rfl
    · rw [fstN_f j (by simpa using c), ← ih]
      refine rsd_f j ?_
      show fstN (rfP (syL f sz kf vf du) du n 2 a) 0 61 = none
      rw [hone]
      refine if_neg (fun q => c ?_)
      have q3 := rfP2.mp q.2.2
      have ht := rfT_tk (f := f) (sz := sz) (kf := kf) (vf := vf) (du := du) hn (a := a) (b := a - n) (by omega) (by omega) (Or.inr (Or.inl (by omega)))
      simp only [dfP, Bool.and_eq_true, decide_eq_true_eq]
      exact ⟨by omega, by rw [← ht]; exact q3.2.2⟩
theorem rs_2n (hn : n ≤ 60) : rsd (syL f sz kf vf du) du n 2 0 61 = (fstN (dfP (syQ f sz kf vf du) du n) n (61 - n)).map (fun a => (a, a - n)) := by
  rw [rs_2 hn 61 0 rfl]
  have h1 := fstN_skip (P := fun a => decide (n ≤ a) && dfP (syQ f sz kf vf du) du n a) n 0 (61 - n) (fun q _ h2 => by
    have : decide (n ≤ q) = false := by simp; omega
    simp only [this, Bool.false_and])
  rw [show n + (61 - n) = 61 by omega, Nat.zero_add] at h1
  rw [h1, fstN_congr (Q := dfP (syQ f sz kf vf du) du n) (61 - n) n (fun k h2 _ => by simp [h2])]
theorem rs_way (hn : n ≤ 60) (hl : (syQ f sz kf vf du).1 n ≠ syO f sz kf vf n) : rsw (syL f sz kf vf du) du n 1 3 = sayS (syO f sz kf vf) (syQ f sz kf vf du) du n := by
  unfold sayS
  rw [if_neg hl]
  have r1 := rs_1 (f := f) (sz := sz) (kf := kf) (vf := vf) (du := du) hn 61 0 rfl
  have r2 := rs_2n (f := f) (sz := sz) (kf := kf) (vf := vf) (du := du) hn
  have r3 := rs_3 (f := f) (sz := sz) (kf := kf) (vf := vf) (du := du) hn 61 0 rfl
  rcases e1 : fstN (suP (syQ f sz kf vf du) du n) 0 61 with _ | a
  · rw [e1] at r1
    rw [rsw_f 2 r1]
    rcases e2 : fstN (dfP (syQ f sz kf vf du) du n) n (61 - n) with _ | a
    · rw [e2] at r2
      rw [rsw_f 1 r2]
      rcases e3 : prd (syQ f sz kf vf du) du n 0 61 with _ | ⟨a, b⟩
      · rw [e3] at r3
        rw [rsw_f 0 r3]; rfl
      · rw [e3] at r3
        rw [rsw_t 0 r3]
    · rw [e2] at r2
      rw [rsw_t 1 r2]
  · rw [e1] at r1
    rw [rsw_t 2 r1]
end WAYS
