/-! ===== a way is always found ===== -/
theorem fstN_ex {P : Nat → Bool} {c : Nat} (hc : P c = true) : ∀ (j i : Nat), i ≤ c → c < i + j → fstN P i j ≠ none
  | 0, i, h1, h2 => by omega
  | j + 1, i, h1, h2 => by
    by_cases e : P i = true
    · rw [fstN_t j e]; exact fun q => by cases q
    · rw [fstN_f j (by simpa using e)]
      have : i ≠ c := fun q => e (by rw [q]; exact hc)
      exact fstN_ex hc j (i + 1) (by omega) (by omega)
theorem prd_ex {x : PQ} {D n c d : Nat} (h1 : c ≤ d) (h2 : d ≤ 60) (hP : prP x D n c d = true) : ∀ (j i : Nat), i ≤ c → c < i + j → prd x D n i j ≠ none
  | 0, i, h1, h2 => by omega
  | j + 1, i, h3, h4 => by
    rcases e : fstN (prP x D n i) i (61 - i) with _ | b
    · rw [prd_f j e]
      have : i ≠ c := fun q => fstN_ex hP (61 - i) i (by omega) (by omega) (by rw [q] at e ⊢; exact e)
      exact prd_ex h1 h2 hP j (i + 1) (by omega) (by omega)
    · rw [prd_t j e]; exact fun q => by cases q
theorem tkB_sym {x : PQ} {D n a b : Nat} : tkB x D n a b = tkB x D n b a := by
  unfold tkB
  rw [Nat.add_comm (x.1 a), Nat.add_comm (x.2 a)]
theorem say_some {f : Nat → Int32} {sz : Nat} {kf vf : Nat → Int32} {du n : Nat} (hn : n ≤ 60) (hl : (syQ f sz kf vf du).1 n ≠ syO f sz kf vf n) : sayS (syO f sz kf vf) (syQ f sz kf vf du) du n ≠ none := by
  have h1 : fixC (syO f sz kf vf) du (syQ f sz kf vf du).1 (syQ f sz kf vf du).2 := by unfold syQ; exact kn_fix
  generalize syQ f sz kf vf du = x at h1 hl ⊢
  rcases h1.1 n hn with e | ⟨a, b, ha, hb, hm, -, -, e1, e2⟩
  · exact absurd e.1 hl
  · have ht : tkB x du n a b = true := by simp [tkB, e1, e2]
    have ht2 : tkB x du n b a = true := by rw [tkB_sym]; exact ht
    have key : fstN (suP x du n) 0 61 ≠ none ∨ fstN (dfP x du n) n (61 - n) ≠ none ∨ prd x du n 0 61 ≠ none := by
      rcases hm with e | e | e | e
      · left
        rcases Nat.le_total a b with q | q
        · exact fstN_ex (c := a) (by simp only [suP, Bool.and_eq_true, decide_eq_true_eq]; exact ⟨by omega, by rw [show n - a = b by omega]; exact ht⟩) 61 0 (by omega) (by omega)
        · exact fstN_ex (c := b) (by simp only [suP, Bool.and_eq_true, decide_eq_true_eq]; exact ⟨by omega, by rw [show n - b = a by omega]; exact ht2⟩) 61 0 (by omega) (by omega)
      · right; left
        exact fstN_ex (c := a) (by unfold dfP; rw [show a - n = b by omega]; exact ht) _ _ (by omega) (by omega)
      · right; left
        exact fstN_ex (c := b) (by unfold dfP; rw [show b - n = a by omega]; exact ht2) _ _ (by omega) (by omega)
      · right; right
        rcases Nat.le_total a b with q | q
        · exact prd_ex q hb (by simp only [prP, Bool.and_eq_true, beq_iff_eq]; exact ⟨e.symm, ht⟩) 61 0 (by omega) (by omega)
        · exact prd_ex q ha (by simp only [prP, Bool.and_eq_true, beq_iff_eq]; exact ⟨by rw [Nat.mul_comm]; exact e.symm, ht2⟩) 61 0 (by omega) (by omega)
    unfold sayS
    rw [if_neg hl]
    rcases e1 : fstN (suP x du n) 0 61 with _ | a
    · rcases e2 : fstN (dfP x du n) n (61 - n) with _ | a
      · rcases e3 : prd x du n 0 61 with _ | ⟨a, b⟩
        · rw [e1, e2, e3] at key; simp at key
        · exact fun q => by cases q
      · exact fun q => by cases q
    · exact fun q => by cases q
theorem sy_leaf1 (f : Nat → Int32) (sz : Nat) (kf vf : Nat → Int32) (du : Nat) {n : Nat} (hn : n ≤ 60) : (syQ f sz kf vf du).2 n = 1 ↔ (syQ f sz kf vf du).1 n = syO f sz kf vf n := by
  have h1 : fixC (syO f sz kf vf) du (syQ f sz kf vf du).1 (syQ f sz kf vf du).2 := by unfold syQ; exact kn_fix
  generalize syQ f sz kf vf du = x at h1 ⊢
  have h2 := h1.2.1 n hn
  have h3 := h1.2.2.2 n hn
  unfold lexle at h2
  rcases h1.1 n hn with e | ⟨a, b, ha, hb, hm, -, -, e1, e2⟩
  · omega
  · have := h1.2.2.2 a ha
    have := h1.2.2.2 b hb
    omega
