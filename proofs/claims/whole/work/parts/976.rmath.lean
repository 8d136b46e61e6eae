/-! ===== ways round: what a fixed row of measures is ===== -/
def adj (n to : Nat) : Prop := to ≤ 60 ∧ to ≠ n ∧ n ≤ to + 3 ∧ to ≤ n + 3
def fixR (W : Nat) (t : Nat → Nat) (e : Nat) (v : Nat → Nat) : Prop := v e = 0 ∧ (∀ n to, n ≤ 60 → n ≠ e → adj n to → v n ≤ v to + W * t to + 1) ∧ ∀ n, n ≤ 60 → n ≠ e → ∃ to, adj n to ∧ v n = v to + W * t to + 1
theorem fixR_le {W e : Nat} {t u v : Nat → Nat} (hu : fixR W t e u) (hv : fixR W t e v) : ∀ k n, n ≤ 60 → v n < k → u n ≤ v n := by
  intro k
  induction k with
  | zero => intro n _ h; omega
  | succ k ih =>
    intro n hn hk
    by_cases en : n = e
    · rw [en, hu.1]; omega
    · obtain ⟨to, ha, hv1⟩ := hv.2.2 n hn en
      have h1 := ih to ha.1 (by omega)
      have h2 := hu.2.1 n to hn en ha
      omega
theorem fixR_u {W e : Nat} {t u v : Nat → Nat} (hu : fixR W t e u) (hv : fixR W t e v) {n : Nat} (hn : n ≤ 60) : u n = v n :=
  Nat.le_antisymm (fixR_le hu hv _ n hn (Nat.lt_succ_self _)) (fixR_le hv hu _ n hn (Nat.lt_succ_self _))
theorem md_step {W a b : Nat} (h : a % W + 1 < W) : (a + W * b + 1) % W = a % W + 1 ∧ (a + W * b + 1) / W = a / W + b := by
  have h1 := Nat.div_add_mod a W
  have e : a + W * b + 1 = (a % W + 1) + W * (a / W + b) := by rw [Nat.mul_add]; omega
  rw [e, Nat.add_mul_mod_self_left, Nat.mod_eq_of_lt h, Nat.add_mul_div_left _ _ (by omega), Nat.div_eq_of_lt h]
  exact ⟨rfl, by omega⟩
def rnk (v : Nat → Nat) (n : Nat) : Nat := cnt (fun j => decide (v j < v n)) 61
theorem rnk_le (v : Nat → Nat) {n : Nat} (hn : n ≤ 60) : rnk v n ≤ 60 := by
  have h := cnt_lt (p := fun j => decide (v j < v n)) (q := fun _ => true) (j := n) (by simp) rfl 61 (by omega) (fun _ _ _ => rfl)
  have h2 := cnt_le (fun _ => true) 61
  unfold rnk; omega
theorem rnk_lt {v : Nat → Nat} {n to : Nat} (ht : to ≤ 60) (h : v to < v n) : rnk v to < rnk v n := by
  unfold rnk
  refine cnt_lt (j := to) (by simp) (by simpa using h) 61 (by omega) (fun i _ q => ?_)
  simp only [decide_eq_true_eq] at q ⊢
  omega
theorem fixR_s {W e : Nat} {t v : Nat → Nat} (hW : 62 ≤ W) (hv : fixR W t e v) : ∀ k n, n ≤ 60 → v n < k → v n % W ≤ rnk v n := by
  intro k
  induction k with
  | zero => intro n _ h; omega
  | succ k ih =>
    intro n hn hk
    by_cases en : n = e
    · rw [en, hv.1, Nat.zero_mod]; exact Nat.zero_le _
    · obtain ⟨to, ha, hv1⟩ := hv.2.2 n hn en
      have h1 := ih to ha.1 (by omega)
      have h2 := rnk_lt (v := v) (n := n) ha.1 (by omega)
      have h3 := rnk_le v hn
      rw [hv1, (md_step (by omega)).1]
      omega
theorem fixR_lo {W e : Nat} {t v : Nat → Nat} (hW : 62 ≤ W) (hv : fixR W t e v) {n : Nat} (hn : n ≤ 60) : v n % W ≤ 60 :=
  Nat.le_trans (fixR_s hW hv _ n hn (Nat.lt_succ_self _)) (rnk_le v hn)
theorem fixR_step {W e : Nat} {t v : Nat → Nat} (hW : 62 ≤ W) (hv : fixR W t e v) {n : Nat} (hn : n ≤ 60) (en : n ≠ e) : ∃ to, adj n to ∧ v n = v to + W * t to + 1 ∧ v n % W = v to % W + 1 ∧ v n / W = v to / W + t to := by
  obtain ⟨to, ha, hv1⟩ := hv.2.2 n hn en
  have h1 := fixR_lo hW hv ha.1
  have h2 := md_step (W := W) (a := v to) (b := t to) (by omega)
  exact ⟨to, ha, hv1, by rw [hv1]; exact h2.1, by rw [hv1]; exact h2.2⟩
def cvR (v : Nat → Nat) (n : Nat) : Nat := 64 * (v n / 1000) + v n % 1000
theorem fixR_conv {e : Nat} {t v : Nat → Nat} (he : e ≤ 60) (hv : fixR 1000 t e v) : fixR 64 t e (cvR v) := by
  refine ⟨by unfold cvR; rw [hv.1], fun n to hn en ha => ?_, fun n hn en => ?_⟩
  · have h1 := fixR_lo (by omega) hv hn
    have h2 := fixR_lo (by omega) hv ha.1
    have h3 := hv.2.1 n to hn en ha
    unfold cvR; omega
  · obtain ⟨to, ha, h1, h2, h3⟩ := fixR_step (by omega) hv hn en
    exact ⟨to, ha, by unfold cvR; omega⟩
/-- what a row of measures in the making keeps -/
def rI (W : Nat) (t : Nat → Nat) (e : Nat) (v : Nat → Nat) : Prop := v e = 0 ∧ (∀ n, n ≤ 60 → n ≠ e → v n = 100000000 ∨ ∃ to, adj n to ∧ v to + W * t to + 1 ≤ v n) ∧ ∀ n, n ≤ 60 → v n ≤ 100000000
theorem rI_up {W e : Nat} {t v : Nat → Nat} (h : rI W t e v) {n to x : Nat} (hn : n ≤ 60) (en : n ≠ e) (ha : adj n to) (hx : x = v to + W * t to + 1) (hl : x < v n) : rI W t e (ubN v n x) := by
  have hle := fun i => ubN_le (v := v) (n := n) (x := x) (by omega) i
  refine ⟨by rw [ubN_n _ _ (Ne.symm en)]; exact h.1, fun i hi ei => ?_, fun i hi => Nat.le_trans (hle i) (h.2.2 i hi)⟩
  by_cases e1 : i = n
  · have h1 := hle to
    refine Or.inr ⟨to, by rw [e1]; exact ha, ?_⟩
    rw [e1, ubN_s]; omega
  · rw [ubN_n _ _ e1]
    rcases h.2.1 i hi ei with q | ⟨t2, ha2, q⟩
    · exact Or.inl q
    · have h1 := hle t2
      exact Or.inr ⟨t2, ha2, by omega⟩
theorem rI_b {W e : Nat} {t v : Nat → Nat} (hW : W ≤ 1000) (ht : ∀ n, n ≤ 60 → t n ≤ 99) (he : e ≤ 60) (h0 : v e = 0) (h : ∀ n to, n ≤ 60 → n ≠ e → adj n to → v n ≤ v to + W * t to + 1) : ∀ d n, n ≤ 60 → n ≤ e + d → e ≤ n + d → v n ≤ d * 99001 := by
  intro d
  induction d with
  | zero => intro n hn h1 h2; rw [show n = e by omega, h0]; omega
  | succ d ih =>
    intro n hn h1 h2
    by_cases en : n = e
    · rw [en, h0]; omega
    · have key : ∀ to, adj n to → v to ≤ d * 99001 → v n ≤ (d + 1) * 99001 := by
        intro to ha hv
        have h3 := h n to hn en ha
        have h4 : W * t to ≤ 1000 * 99 := Nat.mul_le_mul hW (ht to ha.1)
        omega
      by_cases c : n < e
      · exact key (n + 1) (by unfold adj; omega) (ih (n + 1) (by omega) (by omega) (by omega))
      · exact key (n - 1) (by unfold adj; omega) (ih (n - 1) (by omega) (by omega) (by omega))
theorem rI_fix {W e : Nat} {t v : Nat → Nat} (hW : W ≤ 1000) (ht : ∀ n, n ≤ 60 → t n ≤ 99) (he : e ≤ 60) (hI : rI W t e v) (h : ∀ n to, n ≤ 60 → n ≠ e → adj n to → v n ≤ v to + W * t to + 1) : fixR W t e v := by
  refine ⟨hI.1, h, fun n hn en => ?_⟩
  have hb := rI_b hW ht he hI.1 h 60 n hn (by omega) (by omega)
  rcases hI.2.1 n hn en with q | ⟨to, ha, q⟩
  · omega
  · have h1 := h n to hn en ha
    exact ⟨to, ha, by omega⟩
theorem rI_ex {W e : Nat} {t : Nat → Nat} (hW : W ≤ 1000) (ht : ∀ n, n ≤ 60 → t n ≤ 99) (he : e ≤ 60) : ∀ k v, smN v 61 < k → rI W t e v → ∃ u, fixR W t e u := by
  intro k
  induction k with
  | zero => intro v h; omega
  | succ k ih =>
    intro v hk hI
    by_cases h : ∀ n to, n ≤ 60 → n ≠ e → adj n to → v n ≤ v to + W * t to + 1
    · exact ⟨v, rI_fix hW ht he hI h⟩
    · have h2 : ∃ n to, n ≤ 60 ∧ n ≠ e ∧ adj n to ∧ v to + W * t to + 1 < v n := by
        refine Classical.byContradiction fun c => h (fun n to a b d => ?_)
        refine Classical.byContradiction fun c2 => c ⟨n, to, a, b, d, by omega⟩
      obtain ⟨n, to, a, b, d, q⟩ := h2
      have h3 := (smN_ub (v := v) q 61).1 (by omega)
      exact ih _ (by omega) (rI_up hI a b d rfl q)
theorem rI_0 (W : Nat) (t : Nat → Nat) (e : Nat) : rI W t e (fun n => if n = e then 0 else 100000000) :=
  ⟨if_pos rfl, fun n _ en => Or.inl (if_neg en), fun n _ => by show (if n = e then 0 else 100000000) ≤ _; split <;> omega⟩
theorem rd_ex (t : Nat → Nat) (e : Nat) (ht : ∀ n, n ≤ 60 → t n ≤ 99) (he : e ≤ 60) : ∃ u, fixR 64 t e u := rI_ex (by omega) ht he _ _ (Nat.lt_succ_self _) (rI_0 64 t e)
theorem rd_ex2 (t : Nat → Nat) (e : Nat) : ∃ u, (∀ n, n ≤ 60 → t n ≤ 99) → e ≤ 60 → fixR 64 t e u := by
  by_cases h : (∀ n, n ≤ 60 → t n ≤ 99) ∧ e ≤ 60
  · obtain ⟨u, hu⟩ := rd_ex t e h.1 h.2
    exact ⟨u, fun _ _ => hu⟩
  · exact ⟨fun _ => 0, fun a b => absurd ⟨a, b⟩ h⟩
noncomputable def rdD (t : Nat → Nat) (e : Nat) : Nat → Nat := Classical.choose (rd_ex2 t e)
theorem rdD_fix {t : Nat → Nat} {e : Nat} (ht : ∀ n, n ≤ 60 → t n ≤ 99) (he : e ≤ 60) : fixR 64 t e (rdD t e) := Classical.choose_spec (rd_ex2 t e) ht he
theorem rdD_b {t : Nat → Nat} {e : Nat} (ht : ∀ n, n ≤ 60 → t n ≤ 99) (he : e ≤ 60) {n : Nat} (hn : n ≤ 60) : rdD t e n ≤ 5940060 := by
  have h := rdD_fix ht he
  have := rI_b (by omega) ht he h.1 h.2.1 60 n hn (by omega) (by omega)
  omega
/-- the reference's row in the class's words -/
theorem rd_ref {t v : Nat → Nat} {e : Nat} (ht : ∀ n, n ≤ 60 → t n ≤ 99) (he : e ≤ 60) (hv : fixR 1000 t e v) {n : Nat} (hn : n ≤ 60) : v n / 1000 = rdD t e n / 64 ∧ v n % 1000 = rdD t e n % 64 := by
  have h := fixR_u (fixR_conv he hv) (rdD_fix ht he) hn
  have h2 := fixR_lo (by omega) hv hn
  rw [← h]; unfold cvR; omega
theorem rd_refE {t v : Nat → Nat} {e : Nat} (ht : ∀ n, n ≤ 60 → t n ≤ 99) (he : e ≤ 60) (hv : fixR 1000 t e v) {n to : Nat} (hn : n ≤ 60) (hto : to ≤ 60) : (1000 * t to + 1 + v to = v n) ↔ (rdD t e to + 64 * t to + 1 = rdD t e n) := by
  have h := fixR_u (fixR_conv he hv) (rdD_fix ht he) hn
  have h3 := fixR_u (fixR_conv he hv) (rdD_fix ht he) hto
  have h2 := fixR_lo (by omega) hv hn
  have h4 := fixR_lo (by omega) hv hto
  rw [← h, ← h3]; unfold cvR; omega
/-! the class's sweeps -/
def byN (m t : Nat → Nat) (n : Nat) : Nat := if m n = 1000000000 then 1000000000 else m n + 64 * t n + 1
def rQ (t : Nat → Nat) (e i a b c : Nat) (m : Nat → Nat) : Prop :=
  (∀ n, n ≤ 60 → rdD t e n ≤ m n ∧ m n ≤ 1000000000) ∧ (∀ n, n ≤ 60 → rdD t e n % 64 ≤ i → m n = rdD t e n) ∧ (∀ n, n ≤ 60 → n < a → rdD t e n % 64 ≤ i + 1 → m n = rdD t e n) ∧
  (∀ to, adj a to → to < b → rdD t e to % 64 ≤ i → m a ≤ rdD t e to + 64 * t to + 1) ∧ ((c = 0 ∧ ∀ n to, n ≤ 60 → adj n to → n < a ∨ (n = a ∧ to < b) → m n ≤ byN m t to) ∨ c = 1)
theorem rQ_keep {t : Nat → Nat} {e i a b c : Nat} {m : Nat → Nat} (ht : ∀ n, n ≤ 60 → t n ≤ 99) (he : e ≤ 60) (h : rQ t e i a b c m) (hb : adj a b → m a ≤ byN m t b) : rQ t e i a (b + 1) c m := by
  obtain ⟨h1, h2, h3, h4, h5⟩ := h
  refine ⟨h1, h2, h3, fun to ha hl hs => ?_, h5.imp (fun ⟨q, k⟩ => ⟨q, fun n to hn ha hl => ?_⟩) id⟩
  · by_cases e1 : to = b
    · subst e1
      have q := hb ha
      have hD := rdD_b ht he ha.1
      unfold byN at q
      rw [h2 to ha.1 hs, if_neg (by omega)] at q
      exact q
    · exact h4 to ha (by omega) hs
  · by_cases e1 : n = a ∧ to = b
    · rw [e1.1, e1.2]; exact hb (by rw [← e1.1, ← e1.2]; exact ha)
    · exact k n to hn ha (by omega)
theorem rQ_new {t : Nat → Nat} {e i a b c x : Nat} {m : Nat → Nat} (ht : ∀ n, n ≤ 60 → t n ≤ 99) (he : e ≤ 60) (h : rQ t e i a b c m) (hab : adj a b) (ha6 : a ≤ 60) (hx : x = byN m t b) (hl : x < m a) : rQ t e i a (b + 1) 1 (ubN m a x) := by
  obtain ⟨h1, h2, h3, h4, h5⟩ := h
  have hm := h1 a ha6
  have hmb := h1 b hab.1
  have hx2 : x = m b + 64 * t b + 1 := by
    unfold byN at hx
    by_cases q : m b = 1000000000
    · rw [if_pos q] at hx; omega
    · rw [if_neg q] at hx; exact hx
  have hDx : rdD t e a ≤ x := by
    by_cases ea : a = e
    · rw [ea, (rdD_fix ht he).1]; omega
    · have := (rdD_fix ht he).2.1 a b ha6 ea hab; omega
  have hsa : ¬ rdD t e a % 64 ≤ i := fun q => by have := h2 a ha6 q; omega
  refine ⟨fun n hn => ?_, fun n hn hs => ?_, fun n hn hna hs => ?_, fun to hat hlt hs => ?_, Or.inr rfl⟩
  · by_cases e1 : n = a
    · rw [e1, ubN_s]; omega
    · rw [ubN_n _ _ e1]; exact h1 n hn
  · have e1 : n ≠ a := fun q => hsa (q ▸ hs)
    rw [ubN_n _ _ e1]; exact h2 n hn hs
  · rw [ubN_n _ _ (by omega)]; exact h3 n hn hna hs
  · rw [ubN_s]
    by_cases e1 : to = b
    · subst e1; rw [hx2, h2 to hat.1 hs]; omega
    · have := h4 to hat (by omega) hs; omega
theorem rQ_row {t : Nat → Nat} {e i a b b2 c : Nat} {m : Nat → Nat} (ht : ∀ n, n ≤ 60 → t n ≤ 99) (he : e ≤ 60) (ha6 : a ≤ 60) (h : rQ t e i a b c m) (hb : 60 < b ∨ a + 3 < b) (hb2 : b2 ≤ a - 2) : rQ t e i (a + 1) b2 c m := by
  obtain ⟨h1, h2, h3, h4, h5⟩ := h
  refine ⟨h1, h2, fun n hn hna hs => ?_, fun to hat hlt hs => ?_, h5.imp (fun ⟨q, k⟩ => ⟨q, fun n to hn hat hl => ?_⟩) id⟩
  · by_cases e1 : n = a
    · subst e1
      by_cases en : n = e
      · refine h2 n hn ?_
        rw [en, (rdD_fix ht he).1]; omega
      · obtain ⟨to, hat, q1, q2, q3⟩ := fixR_step (by omega) (rdD_fix ht he) hn en
        have k1 := h4 to hat (by have := hat; unfold adj at this; omega) (by omega)
        have k2 := (h1 n hn).1
        omega
    · exact h3 n hn (by omega) hs
  · exfalso; have := hat; unfold adj at this; omega
  · refine k n to hn hat ?_
    have := hat; unfold adj at this
    omega
theorem rQ_fix {t : Nat → Nat} {e i b : Nat} {m : Nat → Nat} (ht : ∀ n, n ≤ 60 → t n ≤ 99) (he : e ≤ 60) (h : rQ t e i 61 b 0 m) : ∀ s n, n ≤ 60 → rdD t e n % 64 ≤ s → m n = rdD t e n := by
  obtain ⟨h1, h2, h3, h4, h5⟩ := h
  have h6 : ∀ n to, n ≤ 60 → adj n to → m n ≤ byN m t to := by
    rcases h5 with ⟨-, q⟩ | q
    · exact fun n to hn ha => q n to hn ha (by omega)
    · cases q
  intro s
  induction s with
  | zero => intro n hn hs; exact h2 n hn (by omega)
  | succ s ih =>
    intro n hn hs
    by_cases en : n = e
    · refine h2 n hn ?_
      rw [en, (rdD_fix ht he).1]; omega
    · obtain ⟨to, hat, q1, q2, q3⟩ := fixR_step (by omega) (rdD_fix ht he) hn en
      have k1 := ih to hat.1 (by omega)
      have k2 := h6 n to hn hat
      have k3 := (h1 n hn).1
      have k4 := rdD_b ht he hat.1
      unfold byN at k2
      rw [k1, if_neg (by omega)] at k2
      omega
def rP (t : Nat → Nat) (e i c : Nat) (m : Nat → Nat) : Prop := (∀ n, n ≤ 60 → rdD t e n ≤ m n ∧ m n ≤ 1000000000) ∧ (∀ n, n ≤ 60 → rdD t e n % 64 ≤ i → m n = rdD t e n) ∧ c ≤ 1 ∧ (c = 0 → ∀ n, n ≤ 60 → m n = rdD t e n)
theorem rQ_0 {t : Nat → Nat} {e i c : Nat} {m : Nat → Nat} (h : rP t e i c m) : rQ t e i 0 0 0 m :=
  ⟨h.1, h.2.1, fun n _ q => absurd q (Nat.not_lt_zero _), fun to _ q => absurd q (Nat.not_lt_zero _), Or.inl ⟨rfl, fun n to _ _ q => by omega⟩⟩
theorem rQ_end {t : Nat → Nat} {e i b c : Nat} {m : Nat → Nat} (ht : ∀ n, n ≤ 60 → t n ≤ 99) (he : e ≤ 60) (h : rQ t e i 61 b c m) : rP t e (i + 1) c m := by
  refine ⟨h.1, fun n hn hs => h.2.2.1 n hn (by omega) hs, by rcases h.2.2.2.2 with ⟨q, -⟩ | q <;> omega, fun e0 n hn => ?_⟩
  subst e0
  exact rQ_fix ht he h _ n hn (Nat.le_refl _)
theorem rP_end {t : Nat → Nat} {e i c : Nat} {m : Nat → Nat} (ht : ∀ n, n ≤ 60 → t n ≤ 99) (he : e ≤ 60) (h : rP t e i c m) (hc : c = 0 ∨ 60 ≤ i) {n : Nat} (hn : n ≤ 60) : m n = rdD t e n := by
  rcases hc with q | q
  · exact h.2.2.2 q n hn
  · exact h.2.1 n hn (Nat.le_trans (fixR_lo (by omega) (rdD_fix ht he) hn) q)
theorem rP_0 {t : Nat → Nat} {e : Nat} (ht : ∀ n, n ≤ 60 → t n ≤ 99) (he : e ≤ 60) : rP t e 0 1 (fun n => if n = e then 0 else 1000000000) := by
  refine ⟨fun n hn => ?_, fun n hn hs => ?_, Nat.le_refl _, fun q => absurd q (by decide)⟩
  · have := rdD_b ht he hn
    by_cases en : n = e
    · show _ ≤ (if n = e then _ else _) ∧ (if n = e then _ else _) ≤ _
      rw [if_pos en, en, (rdD_fix ht he).1]; omega
    · show _ ≤ (if n = e then _ else _) ∧ (if n = e then _ else _) ≤ _
      rw [if_neg en]; omega
  · by_cases en : n = e
    · show (if n = e then _ else _) = _
      rw [if_pos en, en, (rdD_fix ht he).1]
    · obtain ⟨to, hat, q1, q2, q3⟩ := fixR_step (by omega) (rdD_fix ht he) hn en
      omega
/-! the reference's sweeps -/
def rS (t : Nat → Nat) (e : Nat) (v0 : Nat → Nat) (a b c : Nat) (v : Nat → Nat) : Prop := (c = 0 ∧ smN v 61 ≤ smN v0 61 ∧ ∀ n to, n ≤ 60 → n ≠ e → adj n to → n < a ∨ (n = a ∧ to < b) → v n ≤ v to + 1000 * t to + 1) ∨ (c = 1 ∧ smN v 61 < smN v0 61)
theorem rS_keep {t : Nat → Nat} {e a b c : Nat} {v0 v : Nat → Nat} (h : rS t e v0 a b c v) (hb : a ≠ e → adj a b → v a ≤ v b + 1000 * t b + 1) : rS t e v0 a (b + 1) c v := by
  rcases h with ⟨h1, h2, h3⟩ | h
  · refine Or.inl ⟨h1, h2, fun n to hn en ha hl => ?_⟩
    by_cases e1 : n = a ∧ to = b
    · rw [e1.1, e1.2]; exact hb (e1.1 ▸ en) (by rw [← e1.1, ← e1.2]; exact ha)
    · exact h3 n to hn en ha (by omega)
  · exact Or.inr h
theorem rS_new {t : Nat → Nat} {e a b b2 c x : Nat} {v0 v : Nat → Nat} (h : rS t e v0 a b c v) (ha : a ≤ 60) (hl : x < v a) : rS t e v0 a b2 1 (ubN v a x) := by
  have h3 := (smN_ub (v := v) hl 61).1 (by omega)
  rcases h with ⟨h1, h2, -⟩ | ⟨h1, h2⟩ <;> exact Or.inr ⟨rfl, by omega⟩
theorem rS_row {t : Nat → Nat} {e a b b2 c : Nat} {v0 v : Nat → Nat} (h : rS t e v0 a b c v) (hb : a = e ∨ a + 3 < b) (hb2 : b2 ≤ a - 2) : rS t e v0 (a + 1) b2 c v := by
  rcases h with ⟨h1, h2, h3⟩ | h
  · refine Or.inl ⟨h1, h2, fun n to hn en ha hl => h3 n to hn en ha ?_⟩
    have := ha; unfold adj at this
    omega
  · exact Or.inr h
theorem rS_0 {t : Nat → Nat} {e : Nat} {v : Nat → Nat} : rS t e v 0 0 0 v := Or.inl ⟨rfl, Nat.le_refl _, fun n to _ _ _ q => by omega⟩
theorem rS_fix {t : Nat → Nat} {e b : Nat} {v0 v : Nat → Nat} (ht : ∀ n, n ≤ 60 → t n ≤ 99) (he : e ≤ 60) (hI : rI 1000 t e v) (h : rS t e v0 61 b 0 v) : fixR 1000 t e v := by
  rcases h with ⟨-, -, h3⟩ | ⟨q, -⟩
  · exact rI_fix (by omega) ht he hI (fun n to hn en ha => h3 n to hn en ha (by omega))
  · cases q
/-- the first of the best steps -/
noncomputable def rdW (t : Nat → Nat) (e n : Nat) (to : Nat) : Bool := decide (to ≠ n ∧ n ≤ to + 3 ∧ to ≤ n + 3 ∧ rdD t e to + 64 * t to + 1 = rdD t e n)
