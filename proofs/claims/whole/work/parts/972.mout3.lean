/-! ===== the reference's out ===== -/
def ouN (f : Nat → Int32) (n : Nat) : Nat := if ouO f n = 0 then 0 else 100000
theorem ouN_le (f : Nat → Int32) (n : Nat) : ouN f n ≤ 100000 := by unfold ouN; split <;> omega
theorem ou_ans {f : Nat → Int32} {v : Nat → Nat} (hv : fixU (ouN f) 1 v) {n : Nat} (hn : n ≤ 60) : v n ≤ 100000 ∧ (if v n < 100000 then nI (v n) else -1) = (if (ouQ f).1 n = spFAR then -1 else nI ((ouQ f).1 n)) := by
  have h : fixC (ouO f) 1 (ouQ f).1 (ouQ f).2 := by unfold ouQ; exact kn_fix
  have h1 := out_eq h (fun n _ => ouO_or f n) hv n hn
  have h2 := ouQ_le f hn
  have hF : spFAR = 1000000000 := rfl
  by_cases c : (ouQ f).1 n < spFAR
  · have h3 := out_q h (fun n _ => ouO_or f n) hn c
    rw [if_pos c] at h1
    rw [h1, if_pos (by omega), if_neg (by omega)]
    exact ⟨by omega, rfl⟩
  · rw [if_neg c] at h1
    rw [h1, if_neg (by omega), if_pos (by omega)]
    exact ⟨by omega, rfl⟩
