/-! ===== the reference's out: what a sweep of steps of one keeps ===== -/
def soI (own : Nat → Nat) (W : Nat) (v : Nat → Nat) : Prop := (∀ n, n ≤ 60 → v n ≤ own n) ∧ ∀ n, n ≤ 60 → v n = own n ∨ ∃ a b, a ≤ 60 ∧ b ≤ 60 ∧ mk3 n a b ∧ v a + v b + W ≤ v n
theorem soI_up {own : Nat → Nat} {W : Nat} {v : Nat → Nat} (h : soI own W v) {n a b : Nat} (hn : n ≤ 60) (ha : a ≤ 60) (hb : b ≤ 60) (hm : mk3 n a b) (hl : v a + v b + W < v n) : soI own W (ubN v n (v a + v b + W)) := by
  have hle := fun i => ubN_le (v := v) (n := n) (x := v a + v b + W) (by omega) i
  refine ⟨fun i hi => Nat.le_trans (hle i) (h.1 i hi), fun i hi => ?_⟩
  by_cases e : i = n
  · have h1 := hle a
    have h2 := hle b
    refine Or.inr ⟨a, b, ha, hb, by rw [e]; exact hm, ?_⟩
    rw [e, ubN_s]; omega
  · rw [ubN_n _ _ e]
    rcases h.2 i hi with q | ⟨a2, b2, ha2, hb2, hm2, q⟩
    · exact Or.inl q
    · have h1 := hle a2
      have h2 := hle b2
      exact Or.inr ⟨a2, b2, ha2, hb2, hm2, by omega⟩
theorem so_fix {own : Nat → Nat} {W : Nat} {v v0 : Nat → Nat} (hW : 1 ≤ W) (h : soI own W v) (hp : swP W v0 4 0 0 0 v) : fixU own W v := by
  rcases hp with ⟨-, -, h3⟩ | ⟨h4, -⟩
  · have key : ∀ w9 a9 b9, 1 ≤ w9 → w9 ≤ 3 → a9 ≤ 60 → b9 ≤ 60 → swC W v w9 a9 b9 := fun w9 a9 b9 k1 k2 k3 k4 => h3 w9 a9 b9 k1 k2 k3 k4 (Or.inl (by omega))
    refine ⟨h.1, fun n a b hn ha hb hm => ?_, h.2, Or.inl hW⟩
    rcases hm with e | e | e | e
    · exact key 1 a b (by omega) (by omega) ha hb n (by rw [e]; rfl) hn
    · exact key 2 a b (by omega) (by omega) ha hb n (by unfold mdO; rw [if_neg (by decide), if_pos rfl, if_pos (by omega), show a - b = n by omega]) hn
    · have h9 := key 2 b a (by omega) (by omega) hb ha n (by unfold mdO; rw [if_neg (by decide), if_pos rfl, if_pos (by omega), show b - a = n by omega]) hn
      omega
    · exact key 3 a b (by omega) (by omega) ha hb n (by rw [e]; rfl) hn
  · cases h4
/-- one step of the sweep's single counter -/
theorem so_ab {i : Nat} (h : i < 3721) : i / 61 ≤ 60 ∧ i % 61 ≤ 60 := by omega
theorem so_next {W : Nat} {v0 v : Nat → Nat} {w i c : Nat} (h : swP W v0 w (i / 61) (i % 61 + 1) c v) : swP W v0 w ((i + 1) / 61) ((i + 1) % 61) c v := by
  rcases Nat.lt_or_ge (i % 61 + 1) 61 with e | e
  · rw [show (i + 1) / 61 = i / 61 by omega, show (i + 1) % 61 = i % 61 + 1 by omega]; exact h
  · rw [show (i + 1) / 61 = i / 61 + 1 by omega, show (i + 1) % 61 = 0 by omega]
    rw [show i % 61 + 1 = 61 by omega] at h
    exact swP_row h
