/-! ===== run: the longest row of neighbours, the first of these ===== -/
def crF (b : Nat → Bool) : Nat → Nat × Int32 × Nat
  | 0 => (0, -1, 0)
  | n + 1 => if (crF b n).1 < (if b n = true then (crF b n).2.2 + 1 else 0) then ((if b n = true then (crF b n).2.2 + 1 else 0), nI (n + 1 - (if b n = true then (crF b n).2.2 + 1 else 0)), (if b n = true then (crF b n).2.2 + 1 else 0)) else ((crF b n).1, (crF b n).2.1, (if b n = true then (crF b n).2.2 + 1 else 0))
def rlF (b : Nat → Bool) : Nat → Nat → Nat
  | 0, _ => 0
  | j + 1, s => if b s = true then rlF b j (s + 1) + 1 else 0
def mrF (b : Nat → Bool) : Nat → Nat × Int32
  | 0 => (0, -1)
  | s + 1 => if (mrF b s).1 < rlF b (61 - s) s then (rlF b (61 - s) s, nI s) else mrF b s
theorem nI_back (n t : Nat) (h : t ≤ n + 1) : nI n - nI t + nI 1 = nI (n + 1 - t) := by
  have e1 : nI n + nI 1 = nI (n + 1) := nI_add n 1
  have e2 : nI (n + 1 - t) + nI t = nI (n + 1) := by rw [nI_add, Nat.sub_add_cancel h]
  have e3 : nI n + nI 1 = nI (n + 1 - t) + nI t := e1.trans e2.symm
  generalize nI n = x at *
  generalize nI 1 = y at *
  generalize nI (n + 1 - t) = z at *
  generalize nI t = w at *
  have e4 : x - w + y = (x + y) - w := by rw [Int32.sub_eq_add_neg, Int32.sub_eq_add_neg, Int32.add_assoc, Int32.add_assoc, Int32.add_comm (-w) y]
  rw [e4, e3, Int32.add_sub_cancel]
theorem crF_1 {b : Nat → Bool} {n : Nat} (hb : b n = true) (h : (crF b n).1 < (crF b n).2.2 + 1) : crF b (n + 1) = ((crF b n).2.2 + 1, nI (n + 1 - ((crF b n).2.2 + 1)), (crF b n).2.2 + 1) := by simp only [crF, if_pos hb, if_pos h]
theorem crF_2 {b : Nat → Bool} {n : Nat} (hb : b n = true) (h : ¬ (crF b n).1 < (crF b n).2.2 + 1) : crF b (n + 1) = ((crF b n).1, (crF b n).2.1, (crF b n).2.2 + 1) := by simp only [crF, if_pos hb, if_neg h]
theorem crF_3 {b : Nat → Bool} {n : Nat} (hb : ¬ b n = true) : crF b (n + 1) = ((crF b n).1, (crF b n).2.1, 0) := by simp only [crF, if_neg hb, if_neg (Nat.not_lt_zero _)]
theorem mrF_1 {b : Nat → Bool} {s : Nat} (h : (mrF b s).1 < rlF b (61 - s) s) : mrF b (s + 1) = (rlF b (61 - s) s, nI s) := by simp only [mrF, if_pos h]
theorem mrF_2 {b : Nat → Bool} {s : Nat} (h : ¬ (mrF b s).1 < rlF b (61 - s) s) : mrF b (s + 1) = mrF b s := by simp only [mrF, if_neg h]
/-- the longest of b below N, the first such -/
def ruQ (b : Nat → Bool) (N L : Nat) (F : Int32) : Prop := (L = 0 ∧ F = -1 ∧ ∀ i, i < N → b i = false) ∨ ∃ s, F = nI s ∧ 0 < L ∧ s + L ≤ N ∧ (∀ i, i < L → b (s + i) = true) ∧ ∀ s' len, s' + len ≤ N → (∀ i, i < len → b (s' + i) = true) → len ≤ L ∧ (len = L → s ≤ s')
theorem ruQ_le {b : Nat → Bool} {N L : Nat} {F : Int32} (h : ruQ b N L F) {s' len : Nat} (h1 : s' + len ≤ N) (h2 : ∀ i, i < len → b (s' + i) = true) : len ≤ L := by
  rcases h with ⟨-, -, h3⟩ | ⟨s, -, -, -, -, h3⟩
  · rcases Nat.eq_zero_or_pos len with e | e
    · omega
    · have h4 := h2 0 e
      rw [h3 (s' + 0) (by omega)] at h4
      cases h4
  · exact (h3 s' len h1 h2).1
theorem ruQ_eq {b : Nat → Bool} {N L L' : Nat} {F F' : Int32} (h : ruQ b N L F) (h' : ruQ b N L' F') : L = L' ∧ F = F' := by
  have hL : L = L' := by
    apply Nat.le_antisymm
    · rcases h with ⟨h1, -, -⟩ | ⟨s, -, -, h3, h4, -⟩
      · omega
      · exact ruQ_le h' h3 h4
    · rcases h' with ⟨h1, -, -⟩ | ⟨s, -, -, h3, h4, -⟩
      · omega
      · exact ruQ_le h h3 h4
  subst hL
  refine ⟨rfl, ?_⟩
  rcases h with ⟨h1, h2, -⟩ | ⟨s, h1, h2, h3, h4, h5⟩
  · rcases h' with ⟨-, g2, -⟩ | ⟨s', g1, g2, -⟩
    · rw [h2, g2]
    · omega
  · rcases h' with ⟨g1, -, -⟩ | ⟨s', g1, g2, g3, g4, g5⟩
    · omega
    · have a1 := (h5 s' L g3 g4).2 rfl
      have a2 := (g5 s L h3 h4).2 rfl
      rw [h1, g1, Nat.le_antisymm a1 a2]
theorem crF_Q (b : Nat → Bool) : ∀ n, ruQ b n (crF b n).1 (crF b n).2.1 ∧ (crF b n).2.2 ≤ n ∧ (∀ i, i < (crF b n).2.2 → b (n - (crF b n).2.2 + i) = true) ∧ (∀ s' len, s' + len = n → (∀ i, i < len → b (s' + i) = true) → len ≤ (crF b n).2.2) ∧ (crF b n).2.2 ≤ (crF b n).1
  | 0 => ⟨Or.inl ⟨rfl, rfl, fun i hi => by omega⟩, Nat.le_refl _, fun i hi => absurd hi (Nat.not_lt_zero _), fun s' len h _ => by show len ≤ 0; omega, Nat.le_refl _⟩
  | n + 1 => by
    have ih := crF_Q b n
    simp only [crF]
    generalize crF b n = x at ih ⊢
    rcases x with ⟨L, F, t⟩
    obtain ⟨h1, h2, h3, h4, h5⟩ := ih
    simp only at h1 h2 h3 h4 h5 ⊢
    by_cases hb : b n = true
    · simp only [if_pos hb]
      have h3' : ∀ i, i < t + 1 → b (n + 1 - (t + 1) + i) = true := fun i hi => by
        by_cases e : i = t
        · rw [e, show n + 1 - (t + 1) + t = n by omega]; exact hb
        · rw [show n + 1 - (t + 1) + i = n - t + i by omega]; exact h3 i (by omega)
      have h4' : ∀ s' len, s' + len = n + 1 → (∀ i, i < len → b (s' + i) = true) → len ≤ t + 1 := fun s' len e1 e2 => by
        rcases Nat.eq_zero_or_pos len with e | e
        · omega
        · have := h4 s' (len - 1) (by omega) (fun i hi => e2 i (by omega))
          omega
      by_cases hL : L < t + 1
      · rw [if_pos hL]
        refine ⟨Or.inr ⟨n + 1 - (t + 1), rfl, by show 0 < t + 1; omega, by show n + 1 - (t + 1) + (t + 1) ≤ n + 1; omega, h3', fun s' len e1 e2 => ?_⟩, by show t + 1 ≤ n + 1; omega, h3', h4', Nat.le_refl _⟩
        show len ≤ t + 1 ∧ (len = t + 1 → n + 1 - (t + 1) ≤ s')
        by_cases e : s' + len ≤ n
        · have := ruQ_le h1 e e2
          omega
        · have := h4' s' len (by omega) e2
          omega
      · rw [if_neg hL]
        refine ⟨?_, by show t + 1 ≤ n + 1; omega, h3', h4', by show t + 1 ≤ L; omega⟩
        rcases h1 with ⟨g1, -, -⟩ | ⟨s, g1, g2, g3, g4, g5⟩
        · omega
        · refine Or.inr ⟨s, g1, g2, by omega, g4, fun s' len e1 e2 => ?_⟩
          by_cases e : s' + len ≤ n
          · exact g5 s' len e e2
          · have := h4' s' len (by omega) e2
            omega
    · simp only [if_neg hb, if_neg (Nat.not_lt_zero _)]
      refine ⟨?_, Nat.zero_le _, fun i hi => absurd hi (Nat.not_lt_zero _), fun s' len e1 e2 => ?_, Nat.zero_le _⟩
      · rcases h1 with ⟨g1, g2, g3⟩ | ⟨s, g1, g2, g3, g4, g5⟩
        · refine Or.inl ⟨g1, g2, fun i hi => ?_⟩
          by_cases e : i = n
          · rw [e]; simpa using hb
          · exact g3 i (by omega)
        · refine Or.inr ⟨s, g1, g2, by omega, g4, fun s' len e1 e2 => ?_⟩
          by_cases e : s' + len ≤ n
          · exact g5 s' len e e2
          · rcases Nat.eq_zero_or_pos len with e0 | e0
            · omega
            · have := e2 (len - 1) (by omega)
              rw [show s' + (len - 1) = n by omega] at this
              exact absurd this hb
      · rcases Nat.eq_zero_or_pos len with e0 | e0
        · show len ≤ 0; omega
        · have := e2 (len - 1) (by omega)
          rw [show s' + (len - 1) = n by omega] at this
          exact absurd this hb
theorem rlF_ok (b : Nat → Bool) : ∀ j s, rlF b j s ≤ j ∧ (∀ i, i < rlF b j s → b (s + i) = true) ∧ ∀ len, len ≤ j → (∀ i, i < len → b (s + i) = true) → len ≤ rlF b j s
  | 0, s => ⟨Nat.le_refl _, fun i hi => absurd hi (Nat.not_lt_zero _), fun len h _ => h⟩
  | j + 1, s => by
    obtain ⟨h1, h2, h3⟩ := rlF_ok b j (s + 1)
    simp only [rlF]
    by_cases hb : b s = true
    · rw [if_pos hb]
      refine ⟨by omega, fun i hi => ?_, fun len e1 e2 => ?_⟩
      · cases i with
        | zero => exact hb
        | succ i => rw [show s + (i + 1) = s + 1 + i by omega]; exact h2 i (by omega)
      · cases len with
        | zero => omega
        | succ len => have := h3 len (by omega) (fun i hi => by rw [show s + 1 + i = s + (i + 1) by omega]; exact e2 (i + 1) (by omega)); omega
    · rw [if_neg hb]
      refine ⟨Nat.zero_le _, fun i hi => absurd hi (Nat.not_lt_zero _), fun len e1 e2 => ?_⟩
      cases len with
      | zero => omega
      | succ len => exact absurd (e2 0 (by omega)) hb
theorem mrF_Q (b : Nat → Bool) : ∀ s, s ≤ 61 → ((mrF b s).1 = 0 ∧ (mrF b s).2 = -1 ∧ ∀ i, i < s → b i = false) ∨ ∃ q, (mrF b s).2 = nI q ∧ 0 < (mrF b s).1 ∧ q < s ∧ q + (mrF b s).1 ≤ 61 ∧ (∀ i, i < (mrF b s).1 → b (q + i) = true) ∧ ∀ s' len, s' < s → s' + len ≤ 61 → (∀ i, i < len → b (s' + i) = true) → len ≤ (mrF b s).1 ∧ (len = (mrF b s).1 → q ≤ s')
  | 0, _ => Or.inl ⟨rfl, rfl, fun i hi => by omega⟩
  | s + 1, hs => by
    have ih := mrF_Q b s (by omega)
    obtain ⟨r1, r2, r3⟩ := rlF_ok b (61 - s) s
    simp only [mrF]
    generalize mrF b s = x at ih ⊢
    rcases x with ⟨L, F⟩
    generalize rlF b (61 - s) s = r at *
    simp only at ih ⊢
    by_cases hL : L < r
    · rw [if_pos hL]
      refine Or.inr ⟨s, rfl, by show 0 < r; omega, by omega, by show s + r ≤ 61; omega, r2, fun s' len a1 a2 a3 => ?_⟩
      show len ≤ r ∧ (len = r → s ≤ s')
      by_cases e : s' = s
      · subst e; exact ⟨r3 len (by omega) a3, fun _ => Nat.le_refl _⟩
      · have : len ≤ L := by
          rcases ih with ⟨-, -, g⟩ | ⟨q, -, -, -, -, -, g⟩
          · rcases Nat.eq_zero_or_pos len with e0 | e0
            · omega
            · have h9 := a3 0 e0
              rw [g (s' + 0) (by omega)] at h9
              cases h9
          · exact (g s' len (by omega) a2 a3).1
        omega
    · rw [if_neg hL]
      rcases ih with ⟨g1, g2, g3⟩ | ⟨q, g1, g2, g3, g4, g5, g6⟩
      · refine Or.inl ⟨g1, g2, fun i hi => ?_⟩
        by_cases e : i = s
        · subst e
          cases hb : b i with
          | false => rfl
          | true =>
            have := r3 1 (by omega) (fun k hk => by rw [show i + k = i by omega]; exact hb)
            omega
        · exact g3 i (by omega)
      · refine Or.inr ⟨q, g1, g2, by omega, g4, g5, fun s' len a1 a2 a3 => ?_⟩
        by_cases e : s' = s
        · subst e
          have := r3 len (by omega) a3
          omega
        · exact g6 s' len (by omega) a2 a3
theorem run_eq (b : Nat → Bool) : (crF b 61).1 = (mrF b 61).1 ∧ (crF b 61).2.1 = (mrF b 61).2 := by
  refine ruQ_eq (crF_Q b 61).1 ?_
  rcases mrF_Q b 61 (Nat.le_refl _) with h | ⟨q, g1, g2, g3, g4, g5, g6⟩
  · exact Or.inl h
  · refine Or.inr ⟨q, g1, g2, g4, g5, fun s' len a1 a2 => ?_⟩
    by_cases e : s' < 61
    · exact g6 s' len e a1 a2
    · omega
set_option maxHeartbeats 4000000 in
set_option maxRecDepth 100000 in
theorem l_K_run {l : Launch} {Z : EE} (hst : l.stackTraces = false) {h : PH} {la lw bk : Nat} (hC : CL h la lw bk) {np du : Nat} {f : Nat → Int32} (hL : LandAt h la np du f) (q : Nat) (w : Int32) {Post : Res → PH → Prop} : ∀ (j k : Nat), k + j = 61 → WW l Z m_X10_run 3 0 0 77 [.ref 0, .int (nI q), .int w, .int (nI ((crF (fun n => f n == nI q) 61).1)), .int ((crF (fun n => f n == nI q) 61).2.1), .int (nI ((crF (fun n => f n == nI q) 61).2.2)), .int (nI 61)] [] h Post → WW l Z m_X10_run 3 0 0 23 [.ref 0, .int (nI q), .int w, .int (nI ((crF (fun n => f n == nI q) k).1)), .int ((crF (fun n => f n == nI q) k).2.1), .int (nI ((crF (fun n => f n == nI q) k).2.2)), .int (nI k)] [] h Post := by
  have hla := hC.la
  have hlw := hC.lw
  have hbk := hC.bk
  intro j
  induction j with
  | zero =>
    intro k hk hex
    have hk0 : k = 61 := by omega
    subst hk0
    refine ww_iload dX10_run_23 rfl ?_
    refine ww_bipush (v := nI 60) dX10_run_25 (by decide) ?_
    refine ww_icmp_gtN (tgt := 77) dX10_run_27 (by decide) (by decide) (by decide) (fun c27 => ?_) (fun c27 => ?_)
    · exact hex
    · exfalso; omega
  | succ j ih =>
    intro k hk hex
    have hq9 := crF_Q (fun n => f n == nI q) k
    have hq1 := hq9.2.1
    have hq2 := hq9.2.2.2.2
    have hq3 : (crF (fun n => f n == nI q) k).1 ≤ k := by rcases hq9.1 with ⟨e, -, -⟩ | ⟨s9, -, -, e, -⟩ <;> omega
    refine ww_iload dX10_run_23 rfl ?_
    refine ww_bipush (v := nI 60) dX10_run_25 (by decide) ?_
    refine ww_icmp_gtN (tgt := 77) dX10_run_27 (by decide) (by omega) (by omega) (fun c27 => ?_) (fun c27 => ?_)
    · exfalso; omega
    · refine ww_aload_n dX10_run_30 rfl rfl ?_
      refine ww_get 1 dX10_run_31 (hC.K0) rfl (by decide) inX10 wg_265 hC.D1 ?_
      refine ww_iload dX10_run_34 rfl ?_
      refine ww_cVr (M := m_X10_run) (pc := 36) (v := .int (f k)) (h1 := h) (st := []) (bc := 0) (bs := 0) (c_Land_owner hst hL k (by omega)) vv_X2_owner dX10_run_36 wg_852 hL.1 rfl rfl rfl rfl (Nat.le_of_ble_eq_true rfl) (Nat.le_of_ble_eq_true rfl) (Nat.le_of_ble_eq_true rfl) (Nat.le_of_ble_eq_true rfl) ?_
      refine ww_iload_n dX10_run_39 rfl rfl ?_
      refine ww_icmp_ne (tgt := 50) dX10_run_40 (by decide) (fun c40 => ?_) (fun c40 => ?_)
      · refine ww_iconst (v := nI 0) dX10_run_50 (by decide) ?_
        refine ww_sti (lv2 := [.ref 0, .int (nI q), .int w, .int (nI ((crF (fun n => f n == nI q) k).1)), .int ((crF (fun n => f n == nI q) k).2.1), .int (nI 0), .int (nI k)]) dX10_run_51 rfl (by decide) rfl ?_
        refine ww_iload dX10_run_53 rfl ?_
        refine ww_iload_n dX10_run_55 rfl rfl ?_
        refine ww_icmp_leN (tgt := 71) dX10_run_56 (by decide) (by omega) (by omega) (fun c56 => ?_) (fun c56 => ?_)
        · refine ww_incN (c := 1) (lv2 := [.ref 0, .int (nI q), .int w, .int (nI ((crF (fun n => f n == nI q) k).1)), .int ((crF (fun n => f n == nI q) k).2.1), .int (nI 0), .int (nI (k + 1))]) dX10_run_71 rfl rfl rfl (by decide) rfl ?_
          refine ww_goto (tgt := 23) dX10_run_74 (by decide) ?_
          refine ww_lv (lv2 := [.ref 0, .int (nI q), .int w, .int (nI ((crF (fun n => f n == nI q) ((k + 1))).1)), .int ((crF (fun n => f n == nI q) ((k + 1))).2.1), .int (nI ((crF (fun n => f n == nI q) ((k + 1))).2.2)), .int (nI ((k + 1)))]) (by first | (rw [crF_1 (by simp [c40]) c56, nI_back _ _ (by omega)]; done) | (rw [crF_2 (by simp [c40]) (by omega)]; done) | exact absurd c56 (Nat.not_lt_zero _) | (rw [crF_3 (by simp [c40])]; done)) ?_
          exact ih (k + 1) (by omega) hex
        · refine ww_iload dX10_run_59 rfl ?_
          refine ww_sti_n (lv2 := [.ref 0, .int (nI q), .int w, .int (nI 0), .int ((crF (fun n => f n == nI q) k).2.1), .int (nI 0), .int (nI k)]) dX10_run_61 rfl rfl (by decide) rfl ?_
          refine ww_iload dX10_run_62 rfl ?_
          refine ww_iload dX10_run_64 rfl ?_
          refine ww_isub dX10_run_66 ?_
          refine ww_iconst (v := nI 1) dX10_run_67 (by decide) ?_
          refine ww_iadd dX10_run_68 ?_
          refine ww_sti (lv2 := [.ref 0, .int (nI q), .int w, .int (nI 0), .int (((nI k) - (nI 0)) + (nI 1)), .int (nI 0), .int (nI k)]) dX10_run_69 rfl (by decide) rfl ?_
          refine ww_incN (c := 1) (lv2 := [.ref 0, .int (nI q), .int w, .int (nI 0), .int (((nI k) - (nI 0)) + (nI 1)), .int (nI 0), .int (nI (k + 1))]) dX10_run_71 rfl rfl rfl (by decide) rfl ?_
          refine ww_goto (tgt := 23) dX10_run_74 (by decide) ?_
          refine ww_lv (lv2 := [.ref 0, .int (nI q), .int w, .int (nI ((crF (fun n => f n == nI q) ((k + 1))).1)), .int ((crF (fun n => f n == nI q) ((k + 1))).2.1), .int (nI ((crF (fun n => f n == nI q) ((k + 1))).2.2)), .int (nI ((k + 1)))]) (by first | (rw [crF_1 (by simp [c40]) c56, nI_back _ _ (by omega)]; done) | (rw [crF_2 (by simp [c40]) (by omega)]; done) | exact absurd c56 (Nat.not_lt_zero _) | (rw [crF_3 (by simp [c40])]; done)) ?_
          exact ih (k + 1) (by omega) hex
      · refine ww_iload dX10_run_43 rfl ?_
        refine ww_iconst (v := nI 1) dX10_run_45 (by decide) ?_
        refine ww_iaddN dX10_run_46 ?_
        refine ww_goto (tgt := 51) dX10_run_47 (by decide) ?_
        refine ww_sti (lv2 := [.ref 0, .int (nI q), .int w, .int (nI ((crF (fun n => f n == nI q) k).1)), .int ((crF (fun n => f n == nI q) k).2.1), .int (nI (((crF (fun n => f n == nI q) k).2.2) + 1)), .int (nI k)]) dX10_run_51 rfl (by decide) rfl ?_
        refine ww_iload dX10_run_53 rfl ?_
        refine ww_iload_n dX10_run_55 rfl rfl ?_
        refine ww_icmp_leN (tgt := 71) dX10_run_56 (by decide) (by omega) (by omega) (fun c56 => ?_) (fun c56 => ?_)
        · refine ww_incN (c := 1) (lv2 := [.ref 0, .int (nI q), .int w, .int (nI ((crF (fun n => f n == nI q) k).1)), .int ((crF (fun n => f n == nI q) k).2.1), .int (nI (((crF (fun n => f n == nI q) k).2.2) + 1)), .int (nI (k + 1))]) dX10_run_71 rfl rfl rfl (by decide) rfl ?_
          refine ww_goto (tgt := 23) dX10_run_74 (by decide) ?_
          refine ww_lv (lv2 := [.ref 0, .int (nI q), .int w, .int (nI ((crF (fun n => f n == nI q) ((k + 1))).1)), .int ((crF (fun n => f n == nI q) ((k + 1))).2.1), .int (nI ((crF (fun n => f n == nI q) ((k + 1))).2.2)), .int (nI ((k + 1)))]) (by first | (rw [crF_1 (by simp [c40]) c56, nI_back _ _ (by omega)]; done) | (rw [crF_2 (by simp [c40]) (by omega)]; done) | exact absurd c56 (Nat.not_lt_zero _) | (rw [crF_3 (by simp [c40])]; done)) ?_
          exact ih (k + 1) (by omega) hex
        · refine ww_iload dX10_run_59 rfl ?_
          refine ww_sti_n (lv2 := [.ref 0, .int (nI q), .int w, .int (nI (((crF (fun n => f n == nI q) k).2.2) + 1)), .int ((crF (fun n => f n == nI q) k).2.1), .int (nI (((crF (fun n => f n == nI q) k).2.2) + 1)), .int (nI k)]) dX10_run_61 rfl rfl (by decide) rfl ?_
          refine ww_iload dX10_run_62 rfl ?_
          refine ww_iload dX10_run_64 rfl ?_
          refine ww_isub dX10_run_66 ?_
          refine ww_iconst (v := nI 1) dX10_run_67 (by decide) ?_
          refine ww_iadd dX10_run_68 ?_
          refine ww_sti (lv2 := [.ref 0, .int (nI q), .int w, .int (nI (((crF (fun n => f n == nI q) k).2.2) + 1)), .int (((nI k) - (nI (((crF (fun n => f n == nI q) k).2.2) + 1))) + (nI 1)), .int (nI (((crF (fun n => f n == nI q) k).2.2) + 1)), .int (nI k)]) dX10_run_69 rfl (by decide) rfl ?_
          refine ww_incN (c := 1) (lv2 := [.ref 0, .int (nI q), .int w, .int (nI (((crF (fun n => f n == nI q) k).2.2) + 1)), .int (((nI k) - (nI (((crF (fun n => f n == nI q) k).2.2) + 1))) + (nI 1)), .int (nI (((crF (fun n => f n == nI q) k).2.2) + 1)), .int (nI (k + 1))]) dX10_run_71 rfl rfl rfl (by decide) rfl ?_
          refine ww_goto (tgt := 23) dX10_run_74 (by decide) ?_
          refine ww_lv (lv2 := [.ref 0, .int (nI q), .int w, .int (nI ((crF (fun n => f n == nI q) ((k + 1))).1)), .int ((crF (fun n => f n == nI q) ((k + 1))).2.1), .int (nI ((crF (fun n => f n == nI q) ((k + 1))).2.2)), .int (nI ((k + 1)))]) (by first | (rw [crF_1 (by simp [c40]) c56, nI_back _ _ (by omega)]; done) | (rw [crF_2 (by simp [c40]) (by omega)]; done) | exact absurd c56 (Nat.not_lt_zero _) | (rw [crF_3 (by simp [c40])]; done)) ?_
          exact ih (k + 1) (by omega) hex
set_option maxHeartbeats 4000000 in
set_option maxRecDepth 100000 in
theorem c_K_run0 {l : Launch} {Z : EE} (hst : l.stackTraces = false) {h : PH} {la lw bk : Nat} (hC : CL h la lw bk) {np du : Nat} {f : Nat → Int32} (hL : LandAt h la np du f) (q : Nat) (hq : q < np) : CC l Z m_X10_run 3 0 0 [.ref 0, .int (nI q), .int (nI 0)] h (COk (nI (crF (fun n => f n == nI q) 61).1) h) := by
  refine ee_entry hst (by decide +kernel) rfl rfl (by simp [Value.category]) (Nat.le_of_ble_eq_true rfl) ?_
  refine ww_lv (lv2 := [.ref 0, .int (nI q), .int (nI 0), UU, UU, UU, UU]) rfl ?_
  have hla := hC.la
  have hlw := hC.lw
  have hbk := hC.bk
  have hnp := hL.2.2.2.2.2.2.1
  refine ww_aload_n dX10_run_0 rfl rfl ?_
  refine ww_iload_n dX10_run_1 rfl rfl ?_
  refine ww_cV0 (M := m_X10_run) (pc := 2) (h1 := h) (st := []) (bc := 0) (bs := 0) (c_needPerson_t hst hC.K0 hC.D1 hL.1 hL.2.2.2.1 hL.2.2.2.2.2.2.1 q hq) vv_X10_needPerson dX10_run_2 wg_803 (hC.K0) rfl rfl rfl rfl (Nat.le_of_ble_eq_true rfl) (Nat.le_of_ble_eq_true rfl) (Nat.le_of_ble_eq_true rfl) (Nat.le_of_ble_eq_true rfl) ?_
  refine ww_aload_n dX10_run_5 rfl rfl ?_
  refine ww_iload_n dX10_run_6 rfl rfl ?_
  refine ww_iconst (v := nI 0) dX10_run_7 (by decide) ?_
  refine ww_iconst (v := nI 1) dX10_run_8 (by decide) ?_
  refine ww_cV0 (M := m_X10_run) (pc := 9) (h1 := h) (st := []) (bc := 0) (bs := 0) (c_within_t hst (nI 0) (nI 0) (nI 1) (by decide) (by decide) _) vv_X10_within dX10_run_9 wg_410 (hC.K0) rfl rfl rfl rfl (Nat.le_of_ble_eq_true rfl) (Nat.le_of_ble_eq_true rfl) (Nat.le_of_ble_eq_true rfl) (Nat.le_of_ble_eq_true rfl) ?_
  refine ww_iconst (v := nI 0) dX10_run_12 (by decide) ?_
  refine ww_sti_n (lv2 := [.ref 0, .int (nI q), .int (nI 0), .int (nI 0), UU, UU, UU]) dX10_run_13 rfl rfl (by decide) rfl ?_
  refine ww_iconst (v := -1) dX10_run_14 (by decide) ?_
  refine ww_sti (lv2 := [.ref 0, .int (nI q), .int (nI 0), .int (nI 0), .int (-1), UU, UU]) dX10_run_15 rfl (by decide) rfl ?_
  refine ww_iconst (v := nI 0) dX10_run_17 (by decide) ?_
  refine ww_sti (lv2 := [.ref 0, .int (nI q), .int (nI 0), .int (nI 0), .int (-1), .int (nI 0), UU]) dX10_run_18 rfl (by decide) rfl ?_
  refine ww_iconst (v := nI 0) dX10_run_20 (by decide) ?_
  refine ww_sti (lv2 := [.ref 0, .int (nI q), .int (nI 0), .int (nI 0), .int (-1), .int (nI 0), .int (nI 0)]) dX10_run_21 rfl (by decide) rfl ?_
  refine l_K_run hst hC hL q (nI 0) 61 0 rfl ?_
  refine ww_iload_n dX10_run_77 rfl rfl ?_
  refine ww_if_neN (tgt := 85) dX10_run_78 (by decide) (by omega) (fun c78 => ?_) (fun c78 => ?_)
  · exact absurd c78 (by decide)
  · refine ww_iload_n dX10_run_81 rfl rfl ?_
    refine ww_goto (tgt := 87) dX10_run_82 (by decide) ?_
    exact ww_iret dX10_run_87 rfl ⟨rfl, Same.rf⟩
set_option maxHeartbeats 4000000 in
set_option maxRecDepth 100000 in
theorem c_K_run1 {l : Launch} {Z : EE} (hst : l.stackTraces = false) {h : PH} {la lw bk : Nat} (hC : CL h la lw bk) {np du : Nat} {f : Nat → Int32} (hL : LandAt h la np du f) (q : Nat) (hq : q < np) : CC l Z m_X10_run 3 0 0 [.ref 0, .int (nI q), .int (nI 1)] h (COk ((crF (fun n => f n == nI q) 61).2.1) h) := by
  refine ee_entry hst (by decide +kernel) rfl rfl (by simp [Value.category]) (Nat.le_of_ble_eq_true rfl) ?_
  refine ww_lv (lv2 := [.ref 0, .int (nI q), .int (nI 1), UU, UU, UU, UU]) rfl ?_
  have hla := hC.la
  have hlw := hC.lw
  have hbk := hC.bk
  have hnp := hL.2.2.2.2.2.2.1
  refine ww_aload_n dX10_run_0 rfl rfl ?_
  refine ww_iload_n dX10_run_1 rfl rfl ?_
  refine ww_cV0 (M := m_X10_run) (pc := 2) (h1 := h) (st := []) (bc := 0) (bs := 0) (c_needPerson_t hst hC.K0 hC.D1 hL.1 hL.2.2.2.1 hL.2.2.2.2.2.2.1 q hq) vv_X10_needPerson dX10_run_2 wg_803 (hC.K0) rfl rfl rfl rfl (Nat.le_of_ble_eq_true rfl) (Nat.le_of_ble_eq_true rfl) (Nat.le_of_ble_eq_true rfl) (Nat.le_of_ble_eq_true rfl) ?_
  refine ww_aload_n dX10_run_5 rfl rfl ?_
  refine ww_iload_n dX10_run_6 rfl rfl ?_
  refine ww_iconst (v := nI 0) dX10_run_7 (by decide) ?_
  refine ww_iconst (v := nI 1) dX10_run_8 (by decide) ?_
  refine ww_cV0 (M := m_X10_run) (pc := 9) (h1 := h) (st := []) (bc := 0) (bs := 0) (c_within_t hst (nI 1) (nI 0) (nI 1) (by decide) (by decide) _) vv_X10_within dX10_run_9 wg_410 (hC.K0) rfl rfl rfl rfl (Nat.le_of_ble_eq_true rfl) (Nat.le_of_ble_eq_true rfl) (Nat.le_of_ble_eq_true rfl) (Nat.le_of_ble_eq_true rfl) ?_
  refine ww_iconst (v := nI 0) dX10_run_12 (by decide) ?_
  refine ww_sti_n (lv2 := [.ref 0, .int (nI q), .int (nI 1), .int (nI 0), UU, UU, UU]) dX10_run_13 rfl rfl (by decide) rfl ?_
  refine ww_iconst (v := -1) dX10_run_14 (by decide) ?_
  refine ww_sti (lv2 := [.ref 0, .int (nI q), .int (nI 1), .int (nI 0), .int (-1), UU, UU]) dX10_run_15 rfl (by decide) rfl ?_
  refine ww_iconst (v := nI 0) dX10_run_17 (by decide) ?_
  refine ww_sti (lv2 := [.ref 0, .int (nI q), .int (nI 1), .int (nI 0), .int (-1), .int (nI 0), UU]) dX10_run_18 rfl (by decide) rfl ?_
  refine ww_iconst (v := nI 0) dX10_run_20 (by decide) ?_
  refine ww_sti (lv2 := [.ref 0, .int (nI q), .int (nI 1), .int (nI 0), .int (-1), .int (nI 0), .int (nI 0)]) dX10_run_21 rfl (by decide) rfl ?_
  refine l_K_run hst hC hL q (nI 1) 61 0 rfl ?_
  refine ww_iload_n dX10_run_77 rfl rfl ?_
  refine ww_if_neN (tgt := 85) dX10_run_78 (by decide) (by omega) (fun c78 => ?_) (fun c78 => ?_)
  · refine ww_iload dX10_run_85 rfl ?_
    exact ww_iret dX10_run_87 rfl ⟨rfl, Same.rf⟩
  · exact absurd c78 (by decide)
set_option maxHeartbeats 4000000 in
set_option maxRecDepth 100000 in
theorem c_K_run_no0 {l : Launch} {Z : EE} (hst : l.stackTraces = false) {h : PH} {la lw bk : Nat} (hC : CL h la lw bk) {np du : Nat} {f : Nat → Int32} (hL : LandAt h la np du f) {mi : Int32} (hmi : hp_F h 0 12 = .int mi) (q : Int32) (w : Int32) (hout : outP np q) : CC l Z m_X10_run 7 1 6 [.ref 0, .int q, .int w] h (TH nsX (hp_sF h 0 12 (.int (mi + nI 1)))) := by
  refine ee_entry hst (by decide +kernel) rfl rfl (by simp [Value.category]) (Nat.le_of_ble_eq_true rfl) ?_
  refine ww_lv (lv2 := [.ref 0, .int q, .int w, UU, UU, UU, UU]) rfl ?_
  have hla := hC.la
  have hlw := hC.lw
  have hbk := hC.bk
  refine ww_aload_n dX10_run_0 rfl rfl ?_
  refine ww_iload_n dX10_run_1 rfl rfl ?_
  exact ww_cVt (M := m_X10_run) (pc := 2) (st := []) (bc := 0) (bs := 0) (c_needPerson_f hst hC.K0 hC.D1 hL.1 hL.2.2.2.1 hL.2.2.2.2.2.2.1 hmi q hout) vv_X10_needPerson dX10_run_2 wg_803 (hC.K0) rfl rfl rfl rfl (Nat.le_of_ble_eq_true rfl) (Nat.le_of_ble_eq_true rfl) (Nat.le_of_ble_eq_true rfl) (Nat.le_of_ble_eq_true rfl) ⟨rfl, rfl⟩
set_option maxHeartbeats 4000000 in
set_option maxRecDepth 100000 in
theorem c_K_run_no1 {l : Launch} {Z : EE} (hst : l.stackTraces = false) {h : PH} {la lw bk : Nat} (hC : CL h la lw bk) {np du : Nat} {f : Nat → Int32} (hL : LandAt h la np du f) {wr : Int32} (hwr : hp_F h 0 13 = .int wr) (q : Nat) (hq : q < np) (w : Int32) (hout : ¬ (nI 0 ≤ w ∧ w ≤ nI 1)) : CC l Z m_X10_run 7 1 6 [.ref 0, .int (nI q), .int w] h (TH iaX (hp_sF h 0 13 (.int (wr + nI 1)))) := by
  refine ee_entry hst (by decide +kernel) rfl rfl (by simp [Value.category]) (Nat.le_of_ble_eq_true rfl) ?_
  refine ww_lv (lv2 := [.ref 0, .int (nI q), .int w, UU, UU, UU, UU]) rfl ?_
  have hla := hC.la
  have hlw := hC.lw
  have hbk := hC.bk
  refine ww_aload_n dX10_run_0 rfl rfl ?_
  refine ww_iload_n dX10_run_1 rfl rfl ?_
  refine ww_cV0 (M := m_X10_run) (pc := 2) (h1 := h) (st := []) (bc := 1) (bs := 6) (c_needPerson_t hst hC.K0 hC.D1 hL.1 hL.2.2.2.1 hL.2.2.2.2.2.2.1 q hq) vv_X10_needPerson dX10_run_2 wg_803 (hC.K0) rfl rfl rfl rfl (Nat.le_of_ble_eq_true rfl) (Nat.le_of_ble_eq_true rfl) (Nat.le_of_ble_eq_true rfl) (Nat.le_of_ble_eq_true rfl) ?_
  refine ww_aload_n dX10_run_5 rfl rfl ?_
  refine ww_iload_n dX10_run_6 rfl rfl ?_
  refine ww_iconst (v := nI 0) dX10_run_7 (by decide) ?_
  refine ww_iconst (v := nI 1) dX10_run_8 (by decide) ?_
  exact ww_cVt (M := m_X10_run) (pc := 9) (st := []) (bc := 0) (bs := 0) (c_within_f hst hC.K0 hwr w (nI 0) (nI 1) hout) vv_X10_within dX10_run_9 wg_410 (hC.K0) rfl rfl rfl rfl (Nat.le_of_ble_eq_true rfl) (Nat.le_of_ble_eq_true rfl) (Nat.le_of_ble_eq_true rfl) (Nat.le_of_ble_eq_true rfl) ⟨rfl, rfl⟩
set_option maxHeartbeats 4000000 in
set_option maxRecDepth 100000 in
theorem l_M_run1 {d : Nat} {l : Launch} {Z : EE} (hst : l.stackTraces = false) {h : PH} {m : Nat} (hM : ModS h m) {f : Nat → Int32} (hf : hp_I h (m + 14) = f) (q s L : Nat) (w F : Int32) {Post : Res → PH → Prop} : ∀ (j e : Nat), e + j = 61 → WW l Z m_X11_run d 0 0 76 [.ref m, .int (nI q), .int w, .int (nI L), .int F, .int (nI s), .int (nI (e + rlF (fun n => f n == nI q) j e))] [] h Post → WW l Z m_X11_run d 0 0 50 [.ref m, .int (nI q), .int w, .int (nI L), .int F, .int (nI s), .int (nI e)] [] h Post := by
  intro j
  induction j with
  | zero =>
    intro e he hex
    have he0 : e = 61 := by omega
    subst he0
    refine ww_iload dX11_run_50 rfl ?_
    refine ww_bipush (v := nI 61) dX11_run_52 (by decide) ?_
    refine ww_icmp_geN (tgt := 76) dX11_run_54 (by decide) (by omega) (by omega) (fun c54 => ?_) (fun c54 => ?_)
    · exact hex
    · exfalso; omega
  | succ j ih =>
    intro e he hex
    refine ww_iload dX11_run_50 rfl ?_
    refine ww_bipush (v := nI 61) dX11_run_52 (by decide) ?_
    refine ww_icmp_geN (tgt := 76) dX11_run_54 (by decide) (by omega) (by omega) (fun c54 => ?_) (fun c54 => ?_)
    · exfalso; omega
    · refine ww_aload_n dX11_run_57 rfl rfl ?_
      refine ww_get 33 dX11_run_58 hM.K0 rfl (by decide) inX11 wg_1273 hM.F14 ?_
      refine ww_iconst (v := nI 0) dX11_run_61 (by decide) ?_
      refine ww_iload dX11_run_62 rfl ?_
      refine ww_iadd0 dX11_run_64 ?_
      refine ww_ialdF dX11_run_65 hM.K14 hf (by omega) (by omega) ?_
      refine ww_iload_n dX11_run_66 rfl rfl ?_
      refine ww_icmp_ne (tgt := 76) dX11_run_67 (by decide) (fun c67 => ?_) (fun c67 => ?_)
      · have hb9 : ¬ (f e == nI q) = true := by simp [c67]
        simp only [rlF, if_neg hb9, Nat.add_zero] at hex
        exact hex
      · refine ww_incN (c := 1) (lv2 := [.ref m, .int (nI q), .int w, .int (nI L), .int F, .int (nI s), .int (nI (e + 1))]) dX11_run_70 rfl rfl rfl (by decide) rfl ?_
        refine ww_goto (tgt := 50) dX11_run_73 (by decide) ?_
        have hb9 : (f e == nI q) = true := by simp [c67]
        refine ih (e + 1) (by omega) ?_
        simp only [rlF, if_pos hb9] at hex
        rw [show e + 1 + rlF (fun n => f n == nI q) j (e + 1) = e + (rlF (fun n => f n == nI q) j (e + 1) + 1) by omega]
        exact hex
set_option maxHeartbeats 4000000 in
set_option maxRecDepth 100000 in
theorem l_M_run {d : Nat} {l : Launch} {Z : EE} (hst : l.stackTraces = false) {h : PH} {m : Nat} (hM : ModS h m) {f : Nat → Int32} (hf : hp_I h (m + 14) = f) (q : Nat) (w : Int32) {Post : Res → PH → Prop} : ∀ (j k : Nat), k + j = 61 → WW l Z m_X11_run d 0 0 104 [.ref m, .int (nI q), .int w, .int (nI ((mrF (fun n => f n == nI q) 61).1)), .int ((mrF (fun n => f n == nI q) 61).2), .int (nI 61), UU] [] h Post → WW l Z m_X11_run d 0 0 39 [.ref m, .int (nI q), .int w, .int (nI ((mrF (fun n => f n == nI q) k).1)), .int ((mrF (fun n => f n == nI q) k).2), .int (nI k), UU] [] h Post := by
  intro j
  induction j with
  | zero =>
    intro k hk hex
    have hk0 : k = 61 := by omega
    subst hk0
    refine ww_iload dX11_run_39 rfl ?_
    refine ww_bipush (v := nI 61) dX11_run_41 (by decide) ?_
    refine ww_icmp_geN (tgt := 104) dX11_run_43 (by decide) (by omega) (by omega) (fun c43 => ?_) (fun c43 => ?_)
    · exact hex
    · exfalso; omega
  | succ j ih =>
    intro k hk hex
    have hr9 := (rlF_ok (fun n => f n == nI q) (61 - k) k).1
    have hL9 : (mrF (fun n => f n == nI q) k).1 ≤ 61 := by rcases mrF_Q (fun n => f n == nI q) k (by omega) with ⟨e, -, -⟩ | ⟨s9, -, -, -, e, -⟩ <;> omega
    refine ww_iload dX11_run_39 rfl ?_
    refine ww_bipush (v := nI 61) dX11_run_41 (by decide) ?_
    refine ww_icmp_geN (tgt := 104) dX11_run_43 (by decide) (by omega) (by omega) (fun c43 => ?_) (fun c43 => ?_)
    · exfalso; omega
    · refine ww_iload dX11_run_46 rfl ?_
      refine ww_sti (lv2 := [.ref m, .int (nI q), .int w, .int (nI ((mrF (fun n => f n == nI q) k).1)), .int ((mrF (fun n => f n == nI q) k).2), .int (nI k), .int (nI k)]) dX11_run_48 rfl (by decide) rfl ?_
      refine l_M_run1 hst hM hf q k (mrF (fun n => f n == nI q) k).1 w (mrF (fun n => f n == nI q) k).2 (61 - k) k (by omega) ?_
      refine ww_iload dX11_run_76 rfl ?_
      refine ww_iload dX11_run_78 rfl ?_
      refine ww_isubN dX11_run_80 (by omega) ?_
      refine ww_iload_n dX11_run_81 rfl rfl ?_
      refine ww_icmp_gtN (tgt := 88) dX11_run_82 (by decide) (by omega) (by omega) (fun c82 => ?_) (fun c82 => ?_)
      · refine ww_iload dX11_run_88 rfl ?_
        refine ww_iload dX11_run_90 rfl ?_
        refine ww_isubN dX11_run_92 (by omega) ?_
        refine ww_sti_n (lv2 := [.ref m, .int (nI q), .int w, .int (nI ((k + rlF (fun n => f n == nI q) (61 - k) k) - k)), .int ((mrF (fun n => f n == nI q) k).2), .int (nI k), .int (nI (k + rlF (fun n => f n == nI q) (61 - k) k))]) dX11_run_93 rfl rfl (by decide) rfl ?_
        refine ww_iload dX11_run_94 rfl ?_
        refine ww_sti (lv2 := [.ref m, .int (nI q), .int w, .int (nI ((k + rlF (fun n => f n == nI q) (61 - k) k) - k)), .int (nI k), .int (nI k), .int (nI (k + rlF (fun n => f n == nI q) (61 - k) k))]) dX11_run_96 rfl (by decide) rfl ?_
        refine ww_incN (c := 1) (lv2 := [.ref m, .int (nI q), .int w, .int (nI ((k + rlF (fun n => f n == nI q) (61 - k) k) - k)), .int (nI k), .int (nI (k + 1)), .int (nI (k + rlF (fun n => f n == nI q) (61 - k) k))]) dX11_run_98 rfl rfl rfl (by decide) rfl ?_
        refine ww_goto (tgt := 39) dX11_run_101 (by decide) ?_
        refine ww_fg (lv2 := [.ref m, .int (nI q), .int w, .int (nI ((k + rlF (fun n => f n == nI q) (61 - k) k) - k)), .int (nI k), .int (nI (k + 1)), UU]) ⟨Or.inr rfl, Or.inr rfl, Or.inr rfl, Or.inr rfl, Or.inr rfl, Or.inr rfl, Or.inl rfl, trivial⟩ ?_
        refine ww_lv (lv2 := [.ref m, .int (nI q), .int w, .int (nI ((mrF (fun n => f n == nI q) ((k + 1))).1)), .int ((mrF (fun n => f n == nI q) ((k + 1))).2), .int (nI ((k + 1))), UU]) (by first | (rw [mrF_1 (by omega), show k + rlF (fun n => f n == nI q) (61 - k) k - k = rlF (fun n => f n == nI q) (61 - k) k by omega]; done) | (rw [mrF_2 (by omega)]; done)) ?_
        exact ih (k + 1) (by omega) hex
      · refine ww_goto (tgt := 98) dX11_run_85 (by decide) ?_
        refine ww_incN (c := 1) (lv2 := [.ref m, .int (nI q), .int w, .int (nI ((mrF (fun n => f n == nI q) k).1)), .int ((mrF (fun n => f n == nI q) k).2), .int (nI (k + 1)), .int (nI (k + rlF (fun n => f n == nI q) (61 - k) k))]) dX11_run_98 rfl rfl rfl (by decide) rfl ?_
        refine ww_goto (tgt := 39) dX11_run_101 (by decide) ?_
        refine ww_fg (lv2 := [.ref m, .int (nI q), .int w, .int (nI ((mrF (fun n => f n == nI q) k).1)), .int ((mrF (fun n => f n == nI q) k).2), .int (nI (k + 1)), UU]) ⟨Or.inr rfl, Or.inr rfl, Or.inr rfl, Or.inr rfl, Or.inr rfl, Or.inr rfl, Or.inl rfl, trivial⟩ ?_
        refine ww_lv (lv2 := [.ref m, .int (nI q), .int w, .int (nI ((mrF (fun n => f n == nI q) ((k + 1))).1)), .int ((mrF (fun n => f n == nI q) ((k + 1))).2), .int (nI ((k + 1))), UU]) (by first | (rw [mrF_1 (by omega), show k + rlF (fun n => f n == nI q) (61 - k) k - k = rlF (fun n => f n == nI q) (61 - k) k by omega]; done) | (rw [mrF_2 (by omega)]; done)) ?_
        exact ih (k + 1) (by omega) hex
set_option maxHeartbeats 4000000 in
set_option maxRecDepth 100000 in
theorem c_M_run0 {l : Launch} {Z : EE} (hst : l.stackTraces = false) {h : PH} {m : Nat} (hM : ModS h m) {np : Nat} (hnp : hp_F h m 15 = .int (nI np)) (h6 : np ≤ 6) {f : Nat → Int32} (hf : hp_I h (m + 14) = f) (q : Nat) (hq : q < np) : CC l Z m_X11_run 2 0 0 [.ref m, .int (nI q), .int (nI 0)] h (MOk (nI (mrF (fun n => f n == nI q) 61).1) m h) := by
  refine ee_entry hst (by decide +kernel) rfl rfl (by simp [Value.category]) (Nat.le_of_ble_eq_true rfl) ?_
  refine ww_lv (lv2 := [.ref m, .int (nI q), .int (nI 0), UU, UU, UU, UU]) rfl ?_
  refine ww_aload_n dX11_run_0 rfl rfl ?_
  refine ww_iconst (v := nI 0) dX11_run_1 (by decide) ?_
  refine ww_pfI tyX11 0 dX11_run_2 hM.K0 rfl (by decide) inX11 tyX11_ok nmX11 wg_1240 rfl rfl ?_
  refine ww_aload_n dX11_run_5 rfl rfl ?_
  refine ww_iload_n dX11_run_6 rfl rfl ?_
  refine ww_iconst (v := nI 1) dX11_run_7 (by decide) ?_
  refine ww_cVr (M := m_X11_run) (pc := 8) (v := .int (nI 1)) (h1 := hp_sF h m 0 (.int (nI 0))) (st := []) (bc := 0) (bs := 0) (c_M_isPerson_t hst (h := hp_sF h m 0 (.int (nI 0))) (ModS.sF hM (by decide)) (hp_F_eq _ _ _ _) (hp_F_nj (by decide) hnp) h6 q hq) vv_X11_isPerson dX11_run_8 wg_1612 hM.K0 rfl rfl rfl rfl (Nat.le_of_ble_eq_true rfl) (Nat.le_of_ble_eq_true rfl) (Nat.le_of_ble_eq_true rfl) (Nat.le_of_ble_eq_true rfl) ?_
  refine ww_if_eqN (tgt := 29) dX11_run_11 (by decide) (by omega) (fun c11 => ?_) (fun c11 => ?_)
  · exact absurd c11 (by decide)
  · refine ww_aload_n dX11_run_14 rfl rfl ?_
    refine ww_iload_n dX11_run_15 rfl rfl ?_
    refine ww_iconst (v := nI 0) dX11_run_16 (by decide) ?_
    refine ww_iconst (v := nI 1) dX11_run_17 (by decide) ?_
    refine ww_cSr (M := m_X11_run) (pc := 18) (v := .int (nI 1)) (h1 := hp_sF h m 0 (.int (nI 0))) (st := [.ref m]) (bc := 0) (bs := 0) (c_M_within_t hst (nI 0) (nI 0) (nI 1) (by decide) (by decide) _) vv_X11_within dX11_run_18 wg_1601 rfl rfl rfl (Nat.le_of_ble_eq_true rfl) (Nat.le_of_ble_eq_true rfl) (Nat.le_of_ble_eq_true rfl) (Nat.le_of_ble_eq_true rfl) ?_
    refine ww_iconst (v := nI 2) dX11_run_21 (by decide) ?_
    refine ww_iconst (v := nI 1) dX11_run_22 (by decide) ?_
    refine ww_cVr (M := m_X11_run) (pc := 23) (v := .int (nI 1)) (h1 := hp_sF h m 0 (.int (nI 0))) (st := []) (bc := 0) (bs := 0) (c_M_may_t hst (h := hp_sF h m 0 (.int (nI 0))) (ModS.sF hM (by decide)) (hp_F_eq _ _ _ _) (nI 2) (nI 1)) vv_X11_may dX11_run_23 wg_1413 hM.K0 rfl rfl rfl rfl (Nat.le_of_ble_eq_true rfl) (Nat.le_of_ble_eq_true rfl) (Nat.le_of_ble_eq_true rfl) (Nat.le_of_ble_eq_true rfl) ?_
    refine ww_if_neN (tgt := 31) dX11_run_26 (by decide) (by omega) (fun c26 => ?_) (fun c26 => ?_)
    · refine ww_iconst (v := nI 0) dX11_run_31 (by decide) ?_
      refine ww_sti_n (lv2 := [.ref m, .int (nI q), .int (nI 0), .int (nI 0), UU, UU, UU]) dX11_run_32 rfl rfl (by decide) rfl ?_
      refine ww_iconst (v := -1) dX11_run_33 (by decide) ?_
      refine ww_sti (lv2 := [.ref m, .int (nI q), .int (nI 0), .int (nI 0), .int (-1), UU, UU]) dX11_run_34 rfl (by decide) rfl ?_
      refine ww_iconst (v := nI 0) dX11_run_36 (by decide) ?_
      refine ww_sti (lv2 := [.ref m, .int (nI q), .int (nI 0), .int (nI 0), .int (-1), .int (nI 0), UU]) dX11_run_37 rfl (by decide) rfl ?_
      skip
      refine l_M_run (d := 2) hst (h := hp_sF h m 0 (.int (nI 0))) (ModS.sF hM (by decide)) hf q (nI 0) 61 0 rfl ?_
      refine ww_iload_n dX11_run_104 rfl rfl ?_
      refine ww_if_neN (tgt := 112) dX11_run_105 (by decide) (by omega) (fun c105 => ?_) (fun c105 => ?_)
      · exact absurd c105 (by decide)
      · refine ww_iload_n dX11_run_108 rfl rfl ?_
        refine ww_goto (tgt := 114) dX11_run_109 (by decide) ?_
        exact ww_iret dX11_run_114 rfl ⟨rfl, (Same.rf.sF (SY0 m)), (hp_F_eq _ _ _ _)⟩
    · exact absurd c26 (by decide)
set_option maxHeartbeats 4000000 in
set_option maxRecDepth 100000 in
theorem c_M_run1 {l : Launch} {Z : EE} (hst : l.stackTraces = false) {h : PH} {m : Nat} (hM : ModS h m) {np : Nat} (hnp : hp_F h m 15 = .int (nI np)) (h6 : np ≤ 6) {f : Nat → Int32} (hf : hp_I h (m + 14) = f) (q : Nat) (hq : q < np) : CC l Z m_X11_run 2 0 0 [.ref m, .int (nI q), .int (nI 1)] h (MOk ((mrF (fun n => f n == nI q) 61).2) m h) := by
  refine ee_entry hst (by decide +kernel) rfl rfl (by simp [Value.category]) (Nat.le_of_ble_eq_true rfl) ?_
  refine ww_lv (lv2 := [.ref m, .int (nI q), .int (nI 1), UU, UU, UU, UU]) rfl ?_
  refine ww_aload_n dX11_run_0 rfl rfl ?_
  refine ww_iconst (v := nI 0) dX11_run_1 (by decide) ?_
  refine ww_pfI tyX11 0 dX11_run_2 hM.K0 rfl (by decide) inX11 tyX11_ok nmX11 wg_1240 rfl rfl ?_
  refine ww_aload_n dX11_run_5 rfl rfl ?_
  refine ww_iload_n dX11_run_6 rfl rfl ?_
  refine ww_iconst (v := nI 1) dX11_run_7 (by decide) ?_
  refine ww_cVr (M := m_X11_run) (pc := 8) (v := .int (nI 1)) (h1 := hp_sF h m 0 (.int (nI 0))) (st := []) (bc := 0) (bs := 0) (c_M_isPerson_t hst (h := hp_sF h m 0 (.int (nI 0))) (ModS.sF hM (by decide)) (hp_F_eq _ _ _ _) (hp_F_nj (by decide) hnp) h6 q hq) vv_X11_isPerson dX11_run_8 wg_1612 hM.K0 rfl rfl rfl rfl (Nat.le_of_ble_eq_true rfl) (Nat.le_of_ble_eq_true rfl) (Nat.le_of_ble_eq_true rfl) (Nat.le_of_ble_eq_true rfl) ?_
  refine ww_if_eqN (tgt := 29) dX11_run_11 (by decide) (by omega) (fun c11 => ?_) (fun c11 => ?_)
  · exact absurd c11 (by decide)
  · refine ww_aload_n dX11_run_14 rfl rfl ?_
    refine ww_iload_n dX11_run_15 rfl rfl ?_
    refine ww_iconst (v := nI 0) dX11_run_16 (by decide) ?_
    refine ww_iconst (v := nI 1) dX11_run_17 (by decide) ?_
    refine ww_cSr (M := m_X11_run) (pc := 18) (v := .int (nI 1)) (h1 := hp_sF h m 0 (.int (nI 0))) (st := [.ref m]) (bc := 0) (bs := 0) (c_M_within_t hst (nI 1) (nI 0) (nI 1) (by decide) (by decide) _) vv_X11_within dX11_run_18 wg_1601 rfl rfl rfl (Nat.le_of_ble_eq_true rfl) (Nat.le_of_ble_eq_true rfl) (Nat.le_of_ble_eq_true rfl) (Nat.le_of_ble_eq_true rfl) ?_
    refine ww_iconst (v := nI 2) dX11_run_21 (by decide) ?_
    refine ww_iconst (v := nI 1) dX11_run_22 (by decide) ?_
    refine ww_cVr (M := m_X11_run) (pc := 23) (v := .int (nI 1)) (h1 := hp_sF h m 0 (.int (nI 0))) (st := []) (bc := 0) (bs := 0) (c_M_may_t hst (h := hp_sF h m 0 (.int (nI 0))) (ModS.sF hM (by decide)) (hp_F_eq _ _ _ _) (nI 2) (nI 1)) vv_X11_may dX11_run_23 wg_1413 hM.K0 rfl rfl rfl rfl (Nat.le_of_ble_eq_true rfl) (Nat.le_of_ble_eq_true rfl) (Nat.le_of_ble_eq_true rfl) (Nat.le_of_ble_eq_true rfl) ?_
    refine ww_if_neN (tgt := 31) dX11_run_26 (by decide) (by omega) (fun c26 => ?_) (fun c26 => ?_)
    · refine ww_iconst (v := nI 0) dX11_run_31 (by decide) ?_
      refine ww_sti_n (lv2 := [.ref m, .int (nI q), .int (nI 1), .int (nI 0), UU, UU, UU]) dX11_run_32 rfl rfl (by decide) rfl ?_
      refine ww_iconst (v := -1) dX11_run_33 (by decide) ?_
      refine ww_sti (lv2 := [.ref m, .int (nI q), .int (nI 1), .int (nI 0), .int (-1), UU, UU]) dX11_run_34 rfl (by decide) rfl ?_
      refine ww_iconst (v := nI 0) dX11_run_36 (by decide) ?_
      refine ww_sti (lv2 := [.ref m, .int (nI q), .int (nI 1), .int (nI 0), .int (-1), .int (nI 0), UU]) dX11_run_37 rfl (by decide) rfl ?_
      skip
      refine l_M_run (d := 2) hst (h := hp_sF h m 0 (.int (nI 0))) (ModS.sF hM (by decide)) hf q (nI 1) 61 0 rfl ?_
      refine ww_iload_n dX11_run_104 rfl rfl ?_
      refine ww_if_neN (tgt := 112) dX11_run_105 (by decide) (by omega) (fun c105 => ?_) (fun c105 => ?_)
      · refine ww_iload dX11_run_112 rfl ?_
        exact ww_iret dX11_run_114 rfl ⟨rfl, (Same.rf.sF (SY0 m)), (hp_F_eq _ _ _ _)⟩
      · exact absurd c105 (by decide)
    · exact absurd c26 (by decide)
set_option maxHeartbeats 4000000 in
set_option maxRecDepth 100000 in
theorem c_M_run_no0 {l : Launch} {Z : EE} (hst : l.stackTraces = false) {h : PH} {m : Nat} (hM : ModS h m) {np : Nat} (hnp : hp_F h m 15 = .int (nI np)) (h6 : np ≤ 6) {f : Nat → Int32} (hf : hp_I h (m + 14) = f) (q : Int32) (w : Int32) (hout : outP np q) : CC l Z m_X11_run 2 0 0 [.ref m, .int q, .int w] h (MNo 1 0 m h) := by
  refine ee_entry hst (by decide +kernel) rfl rfl (by simp [Value.category]) (Nat.le_of_ble_eq_true rfl) ?_
  refine ww_lv (lv2 := [.ref m, .int q, .int w, UU, UU, UU, UU]) rfl ?_
  refine ww_aload_n dX11_run_0 rfl rfl ?_
  refine ww_iconst (v := nI 0) dX11_run_1 (by decide) ?_
  refine ww_pfI tyX11 0 dX11_run_2 hM.K0 rfl (by decide) inX11 tyX11_ok nmX11 wg_1240 rfl rfl ?_
  refine ww_aload_n dX11_run_5 rfl rfl ?_
  refine ww_iload_n dX11_run_6 rfl rfl ?_
  refine ww_iconst (v := nI 1) dX11_run_7 (by decide) ?_
  refine ww_cVr (M := m_X11_run) (pc := 8) (v := .int (nI 0)) (h1 := hp_sI (hp_sF (hp_sF h m 0 (.int (nI 0))) m 0 (.int (nI 1))) (m + 1) (upd (hp_I (hp_sF h m 0 (.int (nI 0))) (m + 1)) 0 (hp_I (hp_sF h m 0 (.int (nI 0))) (m + 1) 0 + nI 1))) (st := []) (bc := 0) (bs := 0) (c_M_isPerson_f hst (h := hp_sF h m 0 (.int (nI 0))) (ModS.sF hM (by decide)) (hp_F_eq _ _ _ _) (hp_F_nj (by decide) hnp) h6 q hout) vv_X11_isPerson dX11_run_8 wg_1612 hM.K0 rfl rfl rfl rfl (Nat.le_of_ble_eq_true rfl) (Nat.le_of_ble_eq_true rfl) (Nat.le_of_ble_eq_true rfl) (Nat.le_of_ble_eq_true rfl) ?_
  refine ww_if_eqN (tgt := 29) dX11_run_11 (by decide) (by omega) (fun c11 => ?_) (fun c11 => ?_)
  · refine ww_iconst (v := nI 0) dX11_run_29 (by decide) ?_
    exact ww_iret dX11_run_30 rfl ⟨rfl, (((Same.rf.sF (SY0 m)).sF (SY0 m)).sI (Or.inr rfl)), (hp_F_eq _ _ _ _), by rw [hp_I_eq]; rfl⟩
  · exact absurd c11 (by decide)
set_option maxHeartbeats 4000000 in
set_option maxRecDepth 100000 in
theorem c_M_run_no1 {l : Launch} {Z : EE} (hst : l.stackTraces = false) {h : PH} {m : Nat} (hM : ModS h m) {np : Nat} (hnp : hp_F h m 15 = .int (nI np)) (h6 : np ≤ 6) {f : Nat → Int32} (hf : hp_I h (m + 14) = f) (q : Nat) (hq : q < np) (w : Int32) (hout : outR 0 1 w) : CC l Z m_X11_run 2 0 0 [.ref m, .int (nI q), .int w] h (MNo 2 1 m h) := by
  refine ee_entry hst (by decide +kernel) rfl rfl (by simp [Value.category]) (Nat.le_of_ble_eq_true rfl) ?_
  refine ww_lv (lv2 := [.ref m, .int (nI q), .int w, UU, UU, UU, UU]) rfl ?_
  refine ww_aload_n dX11_run_0 rfl rfl ?_
  refine ww_iconst (v := nI 0) dX11_run_1 (by decide) ?_
  refine ww_pfI tyX11 0 dX11_run_2 hM.K0 rfl (by decide) inX11 tyX11_ok nmX11 wg_1240 rfl rfl ?_
  refine ww_aload_n dX11_run_5 rfl rfl ?_
  refine ww_iload_n dX11_run_6 rfl rfl ?_
  refine ww_iconst (v := nI 1) dX11_run_7 (by decide) ?_
  refine ww_cVr (M := m_X11_run) (pc := 8) (v := .int (nI 1)) (h1 := hp_sF h m 0 (.int (nI 0))) (st := []) (bc := 0) (bs := 0) (c_M_isPerson_t hst (h := hp_sF h m 0 (.int (nI 0))) (ModS.sF hM (by decide)) (hp_F_eq _ _ _ _) (hp_F_nj (by decide) hnp) h6 q hq) vv_X11_isPerson dX11_run_8 wg_1612 hM.K0 rfl rfl rfl rfl (Nat.le_of_ble_eq_true rfl) (Nat.le_of_ble_eq_true rfl) (Nat.le_of_ble_eq_true rfl) (Nat.le_of_ble_eq_true rfl) ?_
  refine ww_if_eqN (tgt := 29) dX11_run_11 (by decide) (by omega) (fun c11 => ?_) (fun c11 => ?_)
  · exact absurd c11 (by decide)
  · refine ww_aload_n dX11_run_14 rfl rfl ?_
    refine ww_iload_n dX11_run_15 rfl rfl ?_
    refine ww_iconst (v := nI 0) dX11_run_16 (by decide) ?_
    refine ww_iconst (v := nI 1) dX11_run_17 (by decide) ?_
    refine ww_cSr (M := m_X11_run) (pc := 18) (v := .int (nI 0)) (h1 := hp_sF h m 0 (.int (nI 0))) (st := [.ref m]) (bc := 0) (bs := 0) (c_M_within_f hst w (nI 0) (nI 1) hout _) vv_X11_within dX11_run_18 wg_1601 rfl rfl rfl (Nat.le_of_ble_eq_true rfl) (Nat.le_of_ble_eq_true rfl) (Nat.le_of_ble_eq_true rfl) (Nat.le_of_ble_eq_true rfl) ?_
    refine ww_iconst (v := nI 2) dX11_run_21 (by decide) ?_
    refine ww_iconst (v := nI 1) dX11_run_22 (by decide) ?_
    refine ww_cVr (M := m_X11_run) (pc := 23) (v := .int (nI 0)) (h1 := hp_sI (hp_sF (hp_sF h m 0 (.int (nI 0))) m 0 (.int (nI 2))) (m + 1) (upd (hp_I (hp_sF h m 0 (.int (nI 0))) (m + 1)) 1 (hp_I (hp_sF h m 0 (.int (nI 0))) (m + 1) 1 + nI 1))) (st := []) (bc := 0) (bs := 0) (c_M_may_f hst (h := hp_sF h m 0 (.int (nI 0))) (ModS.sF hM (by decide)) (hp_F_eq _ _ _ _) 2 1 (by decide) (by decide) (by decide)) vv_X11_may dX11_run_23 wg_1413 hM.K0 rfl rfl rfl rfl (Nat.le_of_ble_eq_true rfl) (Nat.le_of_ble_eq_true rfl) (Nat.le_of_ble_eq_true rfl) (Nat.le_of_ble_eq_true rfl) ?_
    refine ww_if_neN (tgt := 31) dX11_run_26 (by decide) (by omega) (fun c26 => ?_) (fun c26 => ?_)
    · exact absurd c26 (by decide)
    · refine ww_iconst (v := nI 0) dX11_run_29 (by decide) ?_
      exact ww_iret dX11_run_30 rfl ⟨rfl, (((Same.rf.sF (SY0 m)).sF (SY0 m)).sI (Or.inr rfl)), (hp_F_eq _ _ _ _), by rw [hp_I_eq]; rfl⟩
