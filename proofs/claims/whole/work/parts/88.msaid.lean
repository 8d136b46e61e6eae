/-! ===== the reference says: long numbers, and what a sweep keeps ===== -/
def lI (n : Nat) : Int64 := Int64.ofNat n
theorem lI_toInt {n : Nat} (h : n < 2 ^ 62) : (lI n).toInt = n := by unfold lI; exact Int64.toInt_ofNat_of_lt (by omega)
theorem lI_add (a b : Nat) : lI a + lI b = lI (a + b) := by unfold lI; rw [Int64.ofNat_add]
theorem lI_mul (a b : Nat) : lI a * lI b = lI (a * b) := by unfold lI; rw [Int64.ofNat_mul]
theorem nI_long {n : Nat} (h : n < 2 ^ 31) : (nI n).toInt64 = lI n := by
  rw [← Int64.toInt_inj, Int32.toInt_toInt64, lI_toInt (by omega)]
  exact Int32.toInt_ofNat_of_lt (by omega)
theorem lI_lt {a b : Nat} (ha : a < 2 ^ 62) (hb : b < 2 ^ 62) : lI a < lI b ↔ a < b := by
  rw [Int64.lt_iff_toInt_lt, lI_toInt ha, lI_toInt hb]; omega
theorem lI_eq {a b : Nat} (ha : a < 2 ^ 62) (hb : b < 2 ^ 62) : lI a = lI b ↔ a = b := by
  rw [← Int64.toInt_inj, lI_toInt ha, lI_toInt hb]; omega
theorem lcmp_N {a b : Nat} (ha : a < 2 ^ 62) (hb : b < 2 ^ 62) : lg_cmp (lI a) (lI b) = if b < a then 1 else if a = b then 0 else -1 := by
  unfold lg_cmp
  simp only [gt_iff_lt, lI_lt hb ha, lI_eq ha hb]
def mdO (w a b : Nat) : Option Nat := if w = 1 then some (a + b) else if w = 2 then (if b ≤ a then some (a - b) else none) else some (a * b)
theorem mdO_mk {w a b n : Nat} (h : mdO w a b = some n) : mk3 n a b := by
  unfold mdO at h
  unfold mk3
  split at h
  · cases h; exact Or.inl rfl
  · split at h
    · split at h
      · cases h; exact Or.inr (Or.inl (by omega))
      · cases h
    · cases h; exact Or.inr (Or.inr (Or.inr rfl))
def swI (own : Nat → Nat) (W : Nat) (v : Nat → Nat) : Prop := (∀ n, n ≤ 60 → v n ≤ own n) ∧ (∀ n, n ≤ 60 → v n = own n ∨ ∃ a b, a ≤ 60 ∧ b ≤ 60 ∧ mk3 n a b ∧ v a + v b + W ≤ v n) ∧ ∀ n, n ≤ 60 → 1 ≤ v n
theorem ubN_le {v : Nat → Nat} {n x : Nat} (h : x ≤ v n) (i : Nat) : ubN v n x i ≤ v i := by
  by_cases e : i = n
  · rw [e, ubN_s]; exact h
  · rw [ubN_n _ _ e]; exact Nat.le_refl _
theorem swI_up {own : Nat → Nat} {W : Nat} {v : Nat → Nat} (h : swI own W v) {n a b : Nat} (hn : n ≤ 60) (ha : a ≤ 60) (hb : b ≤ 60) (hm : mk3 n a b) (hl : v a + v b + W < v n) : swI own W (ubN v n (v a + v b + W)) := by
  have hle := fun i => ubN_le (v := v) (n := n) (x := v a + v b + W) (by omega) i
  refine ⟨fun i hi => Nat.le_trans (hle i) (h.1 i hi), fun i hi => ?_, fun i hi => ?_⟩
  · by_cases e : i = n
    · have h1 := hle a
      have h2 := hle b
      refine Or.inr ⟨a, b, ha, hb, by rw [e]; exact hm, ?_⟩
      rw [e, ubN_s]; omega
    · rw [ubN_n _ _ e]
      rcases h.2.1 i hi with q | ⟨a2, b2, ha2, hb2, hm2, q⟩
      · exact Or.inl q
      · have h1 := hle a2
        have h2 := hle b2
        exact Or.inr ⟨a2, b2, ha2, hb2, hm2, by omega⟩
  · by_cases e : i = n
    · have := h.2.2 a ha
      rw [e, ubN_s]; omega
    · rw [ubN_n _ _ e]; exact h.2.2 i hi
theorem smN_ub {v : Nat → Nat} {n x : Nat} (h : x < v n) : ∀ k, (n < k → smN (ubN v n x) k < smN v k) ∧ smN (ubN v n x) k ≤ smN v k
  | 0 => ⟨fun h => absurd h (Nat.not_lt_zero _), Nat.le_refl _⟩
  | k + 1 => by
    have ih := smN_ub h k
    have h1 := ubN_le (v := v) (n := n) (x := x) (by omega) k
    simp only [smN]
    refine ⟨fun hk => ?_, by omega⟩
    by_cases e : n = k
    · have : ubN v n x k = x := by rw [← e, ubN_s]
      rw [this]
      have h2 := ih.2
      rw [e] at h
      omega
    · have := ih.1 (by omega)
      omega
def swB (w a b w9 a9 b9 : Nat) : Prop := w9 < w ∨ (w9 = w ∧ (a9 < a ∨ (a9 = a ∧ b9 < b)))
def swC (W : Nat) (v : Nat → Nat) (w a b : Nat) : Prop := ∀ n, mdO w a b = some n → n ≤ 60 → v n ≤ v a + v b + W
/-- within a sweep, ahead of (w, a, b) -/
def swP (W : Nat) (v0 : Nat → Nat) (w a b c : Nat) (v : Nat → Nat) : Prop := (c = 0 ∧ v = v0 ∧ ∀ w9 a9 b9, 1 ≤ w9 → w9 ≤ 3 → a9 ≤ 60 → b9 ≤ 60 → swB w a b w9 a9 b9 → swC W v w9 a9 b9) ∨ (c = 1 ∧ smN v 61 < smN v0 61)
theorem swP_0 {W : Nat} {v : Nat → Nat} : swP W v 1 0 0 0 v := Or.inl ⟨rfl, rfl, fun w9 a9 b9 h1 h2 h3 h4 h5 => by unfold swB at h5; omega⟩
theorem swP_keep {W : Nat} {v0 v : Nat → Nat} {w a b c : Nat} (h : swP W v0 w a b c v) (hc : swC W v w a b) : swP W v0 w a (b + 1) c v := by
  rcases h with ⟨h1, h2, h3⟩ | h
  · refine Or.inl ⟨h1, h2, fun w9 a9 b9 k1 k2 k3 k4 k5 => ?_⟩
    by_cases e : swB w a b w9 a9 b9
    · exact h3 w9 a9 b9 k1 k2 k3 k4 e
    · have e1 : w9 = w := by unfold swB at e k5; omega
      have e2 : a9 = a := by unfold swB at e k5; omega
      have e3 : b9 = b := by unfold swB at e k5; omega
      rw [e1, e2, e3]; exact hc
  · exact Or.inr h
theorem swP_new {W : Nat} {v0 v : Nat → Nat} {w a b c n x : Nat} (h : swP W v0 w a b c v) (hn : n ≤ 60) (hx : x < v n) : swP W v0 w a (b + 1) 1 (ubN v n x) := by
  have h1 := (smN_ub hx 61).1 (by omega)
  rcases h with ⟨h2, h3, -⟩ | ⟨h2, h3⟩
  · rw [h3] at h1 ⊢; exact Or.inr ⟨rfl, h1⟩
  · exact Or.inr ⟨rfl, by omega⟩
theorem swP_row {W : Nat} {v0 v : Nat → Nat} {w a c : Nat} (h : swP W v0 w a 61 c v) : swP W v0 w (a + 1) 0 c v := by
  rcases h with ⟨h1, h2, h3⟩ | h
  · exact Or.inl ⟨h1, h2, fun w9 a9 b9 k1 k2 k3 k4 k5 => h3 w9 a9 b9 k1 k2 k3 k4 (by unfold swB at k5 ⊢; omega)⟩
  · exact Or.inr h
theorem swP_way {W : Nat} {v0 v : Nat → Nat} {w c : Nat} (h : swP W v0 w 61 0 c v) : swP W v0 (w + 1) 0 0 c v := by
  rcases h with ⟨h1, h2, h3⟩ | h
  · exact Or.inl ⟨h1, h2, fun w9 a9 b9 k1 k2 k3 k4 k5 => h3 w9 a9 b9 k1 k2 k3 k4 (by unfold swB at k5 ⊢; omega)⟩
  · exact Or.inr h
theorem sw_fix {own : Nat → Nat} {W : Nat} {v v0 : Nat → Nat} (h : swI own W v) (hp : swP W v0 4 0 0 0 v) : fixU own W v := by
  rcases hp with ⟨-, -, h3⟩ | ⟨h4, -⟩
  · have key : ∀ w9 a9 b9, 1 ≤ w9 → w9 ≤ 3 → a9 ≤ 60 → b9 ≤ 60 → swC W v w9 a9 b9 := fun w9 a9 b9 k1 k2 k3 k4 => h3 w9 a9 b9 k1 k2 k3 k4 (Or.inl (by omega))
    refine ⟨h.1, fun n a b hn ha hb hm => ?_, h.2.1, Or.inr h.2.2⟩
    rcases hm with e | e | e | e
    · exact key 1 a b (by omega) (by omega) ha hb n (by rw [e]; rfl) hn
    · exact key 2 a b (by omega) (by omega) ha hb n (by unfold mdO; rw [if_neg (by decide), if_pos rfl, if_pos (by omega), show a - b = n by omega]) hn
    · have h9 := key 2 b a (by omega) (by omega) hb ha n (by unfold mdO; rw [if_neg (by decide), if_pos rfl, if_pos (by omega), show b - a = n by omega]) hn
      omega
    · exact key 3 a b (by omega) (by omega) ha hb n (by rw [e]; rfl) hn
  · cases h4
set_option maxHeartbeats 4000000 in
set_option maxRecDepth 100000 in
theorem c_M_madeBy1 {l : Launch} {Z : EE} (hst : l.stackTraces = false) (a b : Nat) (ha : a ≤ 60) (hb : b ≤ 60) (h : PH) : CC l Z m_X11_madeBy 0 0 0 [.int (nI 1), .int (nI a), .int (nI b)] h (RT (some (.int (nI (a + b)))) h) := by
  refine ee_entry hst (by decide +kernel) rfl rfl (by simp [Value.category]) (Nat.le_of_ble_eq_true rfl) ?_
  refine ww_lv (lv2 := [.int (nI 1), .int (nI a), .int (nI b)]) rfl ?_
  refine ww_iload_n dX11_madeBy_0 rfl rfl ?_
  refine ww_iconst (v := nI 1) dX11_madeBy_1 (by decide) ?_
  refine ww_icmp_neN (tgt := 11) dX11_madeBy_2 (by decide) (by omega) (by omega) (fun c2 => ?_) (fun c2 => ?_)
  · exfalso; omega
  · refine ww_iload_n dX11_madeBy_5 rfl rfl ?_
    refine ww_iload_n dX11_madeBy_6 rfl rfl ?_
    refine ww_iaddN dX11_madeBy_7 ?_
    refine ww_goto (tgt := 25) dX11_madeBy_8 (by decide) ?_
    exact ww_iret dX11_madeBy_25 rfl ⟨rfl, rfl⟩
set_option maxHeartbeats 4000000 in
set_option maxRecDepth 100000 in
theorem c_M_madeBy2 {l : Launch} {Z : EE} (hst : l.stackTraces = false) (a b : Nat) (ha : a ≤ 60) (hb : b ≤ 60) (hab : b ≤ a) (h : PH) : CC l Z m_X11_madeBy 0 0 0 [.int (nI 2), .int (nI a), .int (nI b)] h (RT (some (.int (nI (a - b)))) h) := by
  refine ee_entry hst (by decide +kernel) rfl rfl (by simp [Value.category]) (Nat.le_of_ble_eq_true rfl) ?_
  refine ww_lv (lv2 := [.int (nI 2), .int (nI a), .int (nI b)]) rfl ?_
  refine ww_iload_n dX11_madeBy_0 rfl rfl ?_
  refine ww_iconst (v := nI 1) dX11_madeBy_1 (by decide) ?_
  refine ww_icmp_neN (tgt := 11) dX11_madeBy_2 (by decide) (by omega) (by omega) (fun c2 => ?_) (fun c2 => ?_)
  · refine ww_iload_n dX11_madeBy_11 rfl rfl ?_
    refine ww_iconst (v := nI 2) dX11_madeBy_12 (by decide) ?_
    refine ww_icmp_neN (tgt := 22) dX11_madeBy_13 (by decide) (by omega) (by omega) (fun c13 => ?_) (fun c13 => ?_)
    · exfalso; omega
    · refine ww_iload_n dX11_madeBy_16 rfl rfl ?_
      refine ww_iload_n dX11_madeBy_17 rfl rfl ?_
      refine ww_isubN dX11_madeBy_18 (by omega) ?_
      refine ww_goto (tgt := 25) dX11_madeBy_19 (by decide) ?_
      exact ww_iret dX11_madeBy_25 rfl ⟨rfl, rfl⟩
  · exfalso; omega
set_option maxHeartbeats 4000000 in
set_option maxRecDepth 100000 in
theorem c_M_madeBy3 {l : Launch} {Z : EE} (hst : l.stackTraces = false) (a b : Nat) (ha : a ≤ 60) (hb : b ≤ 60) (h : PH) : CC l Z m_X11_madeBy 0 0 0 [.int (nI 3), .int (nI a), .int (nI b)] h (RT (some (.int (nI (a * b)))) h) := by
  refine ee_entry hst (by decide +kernel) rfl rfl (by simp [Value.category]) (Nat.le_of_ble_eq_true rfl) ?_
  refine ww_lv (lv2 := [.int (nI 3), .int (nI a), .int (nI b)]) rfl ?_
  refine ww_iload_n dX11_madeBy_0 rfl rfl ?_
  refine ww_iconst (v := nI 1) dX11_madeBy_1 (by decide) ?_
  refine ww_icmp_neN (tgt := 11) dX11_madeBy_2 (by decide) (by omega) (by omega) (fun c2 => ?_) (fun c2 => ?_)
  · refine ww_iload_n dX11_madeBy_11 rfl rfl ?_
    refine ww_iconst (v := nI 2) dX11_madeBy_12 (by decide) ?_
    refine ww_icmp_neN (tgt := 22) dX11_madeBy_13 (by decide) (by omega) (by omega) (fun c13 => ?_) (fun c13 => ?_)
    · refine ww_iload_n dX11_madeBy_22 rfl rfl ?_
      refine ww_iload_n dX11_madeBy_23 rfl rfl ?_
      refine ww_imulN dX11_madeBy_24 ?_
      exact ww_iret dX11_madeBy_25 rfl ⟨rfl, rfl⟩
    · exfalso; omega
  · exfalso; omega
set_option maxHeartbeats 4000000 in
set_option maxRecDepth 100000 in
theorem c_M_madeByN {l : Launch} {Z : EE} (hst : l.stackTraces = false) (a b : Nat) (ha : a ≤ 60) (hb : b ≤ 60) (hab : a < b) (h : PH) : CC l Z m_X11_madeBy 0 0 0 [.int (nI 2), .int (nI a), .int (nI b)] h (RT (some (.int (nI a - nI b))) h) := by
  refine ee_entry hst (by decide +kernel) rfl rfl (by simp [Value.category]) (Nat.le_of_ble_eq_true rfl) ?_
  refine ww_lv (lv2 := [.int (nI 2), .int (nI a), .int (nI b)]) rfl ?_
  refine ww_iload_n dX11_madeBy_0 rfl rfl ?_
  refine ww_iconst (v := nI 1) dX11_madeBy_1 (by decide) ?_
  refine ww_icmp_neN (tgt := 11) dX11_madeBy_2 (by decide) (by omega) (by omega) (fun c2 => ?_) (fun c2 => ?_)
  · refine ww_iload_n dX11_madeBy_11 rfl rfl ?_
    refine ww_iconst (v := nI 2) dX11_madeBy_12 (by decide) ?_
    refine ww_icmp_neN (tgt := 22) dX11_madeBy_13 (by decide) (by omega) (by omega) (fun c13 => ?_) (fun c13 => ?_)
    · exfalso; omega
    · refine ww_iload_n dX11_madeBy_16 rfl rfl ?_
      refine ww_iload_n dX11_madeBy_17 rfl rfl ?_
      refine ww_isub dX11_madeBy_18 ?_
      refine ww_goto (tgt := 25) dX11_madeBy_19 (by decide) ?_
      exact ww_iret dX11_madeBy_25 rfl ⟨rfl, rfl⟩
  · exfalso; omega
