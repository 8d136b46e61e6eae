/-! ===== numbers made of two: what they cost is one and the same ===== -/
def mk3 (n a b : Nat) : Prop := n = a + b ∨ a = n + b ∨ b = n + a ∨ n = a * b
theorem mk3.sym {n a b : Nat} (h : mk3 n a b) : mk3 n b a := by
  rcases h with h | h | h | h
  · exact Or.inl (by omega)
  · exact Or.inr (Or.inr (Or.inl h))
  · exact Or.inr (Or.inl h)
  · exact Or.inr (Or.inr (Or.inr (by rw [Nat.mul_comm]; exact h)))
def fixU (own : Nat → Nat) (W : Nat) (v : Nat → Nat) : Prop :=
  (∀ n, n ≤ 60 → v n ≤ own n) ∧ (∀ n a b, n ≤ 60 → a ≤ 60 → b ≤ 60 → mk3 n a b → v n ≤ v a + v b + W) ∧
  (∀ n, n ≤ 60 → v n = own n ∨ ∃ a b, a ≤ 60 ∧ b ≤ 60 ∧ mk3 n a b ∧ v a + v b + W ≤ v n) ∧ (1 ≤ W ∨ ∀ n, n ≤ 60 → 1 ≤ v n)
theorem fixU_le {own : Nat → Nat} {W : Nat} {v w : Nat → Nat} (hv : fixU own W v) (hw : fixU own W w) : ∀ (k n : Nat), n ≤ 60 → v n ≤ k → w n ≤ v n := by
  intro k
  induction k with
  | zero =>
    intro n hn hk
    rcases hv.2.2.1 n hn with e | ⟨a, b, ha, hb, hm, hs⟩
    · rw [e]; exact hw.1 n hn
    · rcases hv.2.2.2 with h1 | h1
      · omega
      · have := h1 n hn; omega
  | succ k ih =>
    intro n hn hk
    rcases hv.2.2.1 n hn with e | ⟨a, b, ha, hb, hm, hs⟩
    · rw [e]; exact hw.1 n hn
    · have h9 : v a ≤ k ∧ v b ≤ k := by
        rcases hv.2.2.2 with h1 | h1
        · omega
        · have h2 := h1 a ha
          have h3 := h1 b hb
          omega
      have h4 := ih a ha h9.1
      have h5 := ih b hb h9.2
      have h6 := hw.2.1 n a b hn ha hb hm
      omega
theorem fixU_eq {own : Nat → Nat} {W : Nat} {v w : Nat → Nat} (hv : fixU own W v) (hw : fixU own W w) : ∀ n, n ≤ 60 → v n = w n := fun n hn =>
  Nat.le_antisymm (fixU_le hw hv _ n hn (Nat.le_refl _)) (fixU_le hv hw _ n hn (Nat.le_refl _))
def lexle (p q p' q' : Nat) : Prop := p < p' ∨ (p = p' ∧ q ≤ q')
def spFAR : Nat := 1000000000
def fixC (own : Nat → Nat) (D : Nat) (p q : Nat → Nat) : Prop :=
  (∀ n, n ≤ 60 → (p n = own n ∧ q n = 1) ∨ ∃ a b, a ≤ 60 ∧ b ≤ 60 ∧ mk3 n a b ∧ p a < spFAR ∧ p b < spFAR ∧ p n = p a + p b + D ∧ q n = q a + q b) ∧
  (∀ n, n ≤ 60 → lexle (p n) (q n) (own n) 1) ∧
  (∀ n a b, n ≤ 60 → a ≤ 60 → b ≤ 60 → mk3 n a b → p a < spFAR → p b < spFAR → lexle (p n) (q n) (p a + p b + D) (q a + q b)) ∧
  ∀ n, n ≤ 60 → 1 ≤ q n
theorem fixC.ple {own p q : Nat → Nat} {D : Nat} (h : fixC own D p q) {n : Nat} (hn : n ≤ 60) : p n ≤ own n := by
  rcases h.2.1 n hn with e | e <;> omega
theorem say_eq {own p q v : Nat → Nat} {D : Nat} (h : fixC own D p q) (ho : ∀ n, n ≤ 60 → own n ≤ 99) (hq : ∀ n, n ≤ 60 → q n < 1000000)
    (hv : fixU (fun n => 1000000 * own n + 1) (1000000 * D) v) : ∀ n, n ≤ 60 → v n = 1000000 * p n + q n := by
  have hp : ∀ n, n ≤ 60 → p n < spFAR := fun n hn => by have := h.ple hn; have := ho n hn; unfold spFAR; omega
  refine fixU_eq hv ⟨fun n hn => ?_, fun n a b hn ha hb hm => ?_, fun n hn => ?_, Or.inr fun n hn => ?_⟩
  · show 1000000 * p n + q n ≤ 1000000 * own n + 1
    have h1 := hq n hn
    rcases h.2.1 n hn with e | ⟨e, e2⟩ <;> omega
  · show 1000000 * p n + q n ≤ (1000000 * p a + q a) + (1000000 * p b + q b) + 1000000 * D
    have h1 := hq n hn
    rcases h.2.2.1 n a b hn ha hb hm (hp a ha) (hp b hb) with e | ⟨e, e2⟩ <;> omega
  · show 1000000 * p n + q n = 1000000 * own n + 1 ∨ ∃ a b, a ≤ 60 ∧ b ≤ 60 ∧ mk3 n a b ∧ (1000000 * p a + q a) + (1000000 * p b + q b) + 1000000 * D ≤ 1000000 * p n + q n
    rcases h.1 n hn with ⟨e1, e2⟩ | ⟨a, b, ha, hb, hm, -, -, e1, e2⟩
    · exact Or.inl (by omega)
    · exact Or.inr ⟨a, b, ha, hb, hm, by omega⟩
  · show 1 ≤ 1000000 * p n + q n
    have := h.2.2.2 n hn
    omega
/-! ===== how few leaves are enough ===== -/
def cloQ (F Zp : Nat → Prop) (q : Nat → Nat) : Prop :=
  (∀ n, n ≤ 60 → F n → Zp n ∧ q n ≤ 1) ∧ (∀ n a b, n ≤ 60 → a ≤ 60 → b ≤ 60 → mk3 n a b → Zp a → Zp b → q a + q b ≤ 1000 → Zp n ∧ q n ≤ q a + q b) ∧
  (∀ n, n ≤ 60 → Zp n → F n ∨ ∃ a b, a ≤ 60 ∧ b ≤ 60 ∧ mk3 n a b ∧ Zp a ∧ Zp b ∧ q a < q n ∧ q b < q n)
theorem cloQ.sub {F Zp : Nat → Prop} {q : Nat → Nat} (h : cloQ F Zp q) {a : Nat} (ha : a ≤ 60) (hF : F a) {x : Nat} (hx : x ≤ 60) (hz : Zp x) : ∀ k, q x + k ≤ 900 → k * a ≤ x → Zp (x - k * a) ∧ q (x - k * a) ≤ q x + k
  | 0, _, _ => by rw [Nat.zero_mul, Nat.sub_zero]; exact ⟨hz, Nat.le_refl _⟩
  | k + 1, h9, hk => by
    have e : (k + 1) * a = k * a + a := Nat.succ_mul k a
    have ih := h.sub ha hF hx hz k (by omega) (by omega)
    have hA := h.1 a ha hF
    have h1 := h.2.1 (x - (k + 1) * a) (x - k * a) a (by omega) (by omega) ha (Or.inr (Or.inl (by omega))) ih.1 hA.1 (by omega)
    exact ⟨h1.1, by omega⟩
theorem cloQ.add {F Zp : Nat → Prop} {q : Nat → Nat} (h : cloQ F Zp q) {a : Nat} (ha : a ≤ 60) (hF : F a) {x : Nat} (hz : Zp x) : ∀ k, q x + k ≤ 900 → x + k * a ≤ 60 → Zp (x + k * a) ∧ q (x + k * a) ≤ q x + k
  | 0, _, _ => by rw [Nat.zero_mul, Nat.add_zero]; exact ⟨hz, Nat.le_refl _⟩
  | k + 1, h9, hk => by
    have e : (k + 1) * a = k * a + a := Nat.succ_mul k a
    have ih := h.add ha hF hz k (by omega) (by omega)
    have hA := h.1 a ha hF
    have h1 := h.2.1 (x + (k + 1) * a) (x + k * a) a (by omega) (by omega) ha (Or.inl (by omega)) ih.1 hA.1 (by omega)
    exact ⟨h1.1, by omega⟩
/-- left by a, reached by k steps -/
def rsP (F : Nat → Prop) (a : Nat) : Nat → Nat → Prop
  | 0, r => r = 0
  | k + 1, r => rsP F a k r ∨ ∃ b r', F b ∧ b ≤ 60 ∧ rsP F a k r' ∧ r = (r' + b) % a
theorem rsP_lt {F : Nat → Prop} {a : Nat} (ha : 0 < a) : ∀ k r, rsP F a k r → r < a
  | 0, r, h => by rw [show r = 0 from h]; exact ha
  | k + 1, r, h => by
    rcases h with h | ⟨b, r', -, -, -, e⟩
    · exact rsP_lt ha k r h
    · rw [e]; exact Nat.mod_lt _ ha
theorem rsP_up {F : Nat → Prop} {a : Nat} {j : Nat} : ∀ i r, rsP F a j r → rsP F a (j + i) r
  | 0, _, h => h
  | i + 1, r, h => Or.inl (rsP_up i r h)
theorem rsP_z {F : Nat → Prop} {a : Nat} (j : Nat) : rsP F a j 0 := by
  have := rsP_up (F := F) (a := a) (j := 0) j 0 rfl
  rwa [Nat.zero_add] at this
theorem cnt_mono {p q : Nat → Bool} : ∀ n, (∀ i, i < n → p i = true → q i = true) → cnt p n ≤ cnt q n
  | 0, _ => Nat.le_refl _
  | n + 1, h => by
    have ih := cnt_mono n (fun i hi => h i (by omega))
    have h1 := h n (by omega)
    simp only [cnt]
    by_cases e : p n = true
    · rw [if_pos e, if_pos (h1 e)]; omega
    · rw [if_neg e]; split <;> omega
theorem cnt_lt {p q : Nat → Bool} {j : Nat} (hp : p j = false) (hq : q j = true) : ∀ n, j < n → (∀ i, i < n → p i = true → q i = true) → cnt p n < cnt q n
  | 0, hj, _ => absurd hj (Nat.not_lt_zero _)
  | n + 1, hj, h => by
    simp only [cnt]
    by_cases e : j = n
    · subst e
      have ih := cnt_mono j (fun i hi => h i (by omega))
      rw [hp, hq]
      simp only [Bool.false_eq_true, if_false, if_true]
      omega
    · have ih := cnt_lt hp hq n (by omega) (fun i hi => h i (by omega))
      have h1 := h n (by omega)
      by_cases e2 : p n = true
      · rw [if_pos e2, if_pos (h1 e2)]; omega
      · rw [if_neg e2]; split <;> omega
noncomputable def rsB (F : Nat → Prop) (a k r : Nat) : Bool := @decide (rsP F a k r) (Classical.propDecidable _)
theorem rsB_t {F : Nat → Prop} {a k r : Nat} : rsB F a k r = true ↔ rsP F a k r := by unfold rsB; exact @decide_eq_true_iff _ (Classical.propDecidable _)
def rsC (F : Nat → Prop) (a k : Nat) : Prop := ∀ r, r < a → rsP F a (k + 1) r → rsP F a k r
theorem rs_grow {F : Nat → Prop} {a : Nat} : ∀ k, (∃ j, j ≤ k ∧ rsC F a j) ∨ k ≤ cnt (rsB F a k) a
  | 0 => Or.inr (Nat.zero_le _)
  | k + 1 => by
    rcases rs_grow (F := F) (a := a) k with ⟨j, hj, hc⟩ | h
    · exact Or.inl ⟨j, by omega, hc⟩
    · by_cases hc : rsC F a k
      · exact Or.inl ⟨k, by omega, hc⟩
      · refine Or.inr ?_
        unfold rsC at hc
        have ⟨r, hr⟩ := Classical.not_forall.mp hc
        have hra : r < a := Classical.byContradiction fun e => hr (fun h9 => absurd h9 e)
        have hr1 : rsP F a (k + 1) r := Classical.byContradiction fun e => hr (fun _ h9 => absurd h9 e)
        have hr2 : ¬ rsP F a k r := fun e => hr (fun _ _ => e)
        have h1 : rsB F a k r = false := by
          cases e : rsB F a k r with
          | false => rfl
          | true => exact absurd (rsB_t.mp e) hr2
        have h2 := cnt_lt h1 (rsB_t.mpr hr1) a hra (fun i _ h9 => rsB_t.mpr (Or.inl (rsB_t.mp h9)))
        omega
theorem rs_stop (F : Nat → Prop) (a : Nat) : ∃ j, j ≤ a + 1 ∧ rsC F a j := by
  rcases rs_grow (F := F) (a := a) (a + 1) with h | h
  · exact h
  · have := cnt_le (rsB F a (a + 1)) a
    omega
theorem rs_step {F : Nat → Prop} {a j r b : Nat} (ha : 0 < a) (hc : rsC F a j) (hr : rsP F a j r) (hF : F b) (hb : b ≤ 60) : rsP F a j ((r + b) % a) :=
  hc _ (Nat.mod_lt _ ha) (Or.inr ⟨b, r, hF, hb, hr, rfl⟩)
theorem rs_add {F : Nat → Prop} {a j : Nat} (ha : 0 < a) (hc : rsC F a j) : ∀ k y, rsP F a k y → ∀ x, rsP F a j x → rsP F a j ((x + y) % a)
  | 0, y, hy, x, hx => by
    rw [show y = 0 from hy, Nat.add_zero, Nat.mod_eq_of_lt (rsP_lt ha j x hx)]
    exact hx
  | k + 1, y, hy, x, hx => by
    rcases hy with hy | ⟨b, y', hF, hb, hy, e⟩
    · exact rs_add ha hc k y hy x hx
    · have h1 := rs_step ha hc (rs_add ha hc k y' hy x hx) hF hb
      rw [e, Nat.add_mod_mod, ← Nat.add_assoc, ← Nat.mod_add_mod]
      exact h1
theorem rs_mul {F : Nat → Prop} {a j : Nat} (ha : 0 < a) (hc : rsC F a j) {x : Nat} (hx : rsP F a j x) : ∀ m, rsP F a j ((m * x) % a)
  | 0 => by rw [Nat.zero_mul, Nat.zero_mod]; exact rsP_z j
  | m + 1 => by
    have h1 := rs_add ha hc j x hx _ (rs_mul ha hc hx m)
    rw [Nat.mod_add_mod] at h1
    rw [Nat.succ_mul]
    exact h1
theorem rs_q {F Zp : Nat → Prop} {q : Nat → Nat} (h : cloQ F Zp q) {a : Nat} (ha0 : 0 < a) (ha : a ≤ 60) (hF : F a) : ∀ k r, 2 + k * (2 + 60 / a) ≤ 800 → rsP F a k r → Zp r ∧ q r ≤ 2 + k * (2 + 60 / a)
  | 0, r, _, hr => by
    have hA := h.1 a ha hF
    have h1 := h.2.1 0 a a (by omega) ha ha (Or.inr (Or.inl (by omega))) hA.1 hA.1 (by omega)
    rw [show r = 0 from hr]
    exact ⟨h1.1, by omega⟩
  | k + 1, r, h9, hr => by
    have hw9 : 0 ≤ 60 / a := Nat.zero_le _
    have e2 : (k + 1) * (2 + 60 / a) = k * (2 + 60 / a) + (2 + 60 / a) := Nat.succ_mul _ _
    rcases hr with hr | ⟨b, r', hFb, hb, hr, e⟩
    · have ih := rs_q h ha0 ha hF k r (by omega) hr
      exact ⟨ih.1, by omega⟩
    · have ih := rs_q h ha0 ha hF k r' (by omega) hr
      have hr9 := rsP_lt ha0 k r' hr
      have hA := h.1 a ha hF
      have hB := h.1 b hb hFb
      have hdm := Nat.div_add_mod b a
      have hml := Nat.mod_lt b ha0
      have hc1 : b / a * a = a * (b / a) := Nat.mul_comm _ _
      have hb60 : b / a ≤ 60 := Nat.le_trans (Nat.div_le_self b a) hb
      have hs := h.sub ha hF hb hB.1 (b / a) (by omega) (by omega)
      have hbm : b - b / a * a = b % a := by omega
      rw [hbm] at hs
      have hq9 : b / a ≤ 60 / a := Nat.div_le_div_right hb
      have he : (r' + b) % a = (r' + b % a) % a := (Nat.add_mod_mod _ _ _).symm
      rw [e, he]
      by_cases hlt : r' + b % a < a
      · rw [Nat.mod_eq_of_lt hlt]
        have h1 := h.2.1 (r' + b % a) r' (b % a) (by omega) (by omega) (by omega) (Or.inl rfl) ih.1 hs.1 (by omega)
        exact ⟨h1.1, by omega⟩
      · have hm : (r' + b % a) % a = r' + b % a - a := by
          rw [Nat.mod_eq_sub_mod (by omega), Nat.mod_eq_of_lt (by omega)]
        rw [hm]
        have h1 := h.2.1 (a - b % a) a (b % a) (by omega) ha (by omega) (Or.inr (Or.inl (by omega))) hA.1 hs.1 (by omega)
        have h2 := h.2.1 (r' + b % a - a) r' (a - b % a) (by omega) (by omega) (by omega) (Or.inr (Or.inl (by omega))) ih.1 h1.1 (by omega)
        exact ⟨h2.1, by omega⟩
/-- all that is made of free ones -/
def clT2 (Zp : Nat → Prop) (q : Nat → Nat) (T : Nat → Prop) (a : Nat) : Prop :=
  (∀ n, n ≤ 60 → (Zp n ↔ T n)) ∧ (∀ x y, T x → T y → T (x + y)) ∧ (∀ x y, T (x + y) → T y → T x) ∧ (∀ x y, T y → T (x * y)) ∧
  (∀ n, n ≤ 60 → Zp n → q n ≤ 304) ∧ ((0 < a ∧ a ≤ 60 ∧ T a) ∨ ∀ x, T x → x = 0)
theorem clo_all {F Zp : Nat → Prop} {q : Nat → Nat} (h : cloQ F Zp q) : ∃ (T : Nat → Prop) (a : Nat), clT2 Zp q T a := by
  by_cases hex : ∃ a, 0 < a ∧ a ≤ 60 ∧ F a
  · obtain ⟨a, ha0, ha, hF⟩ := hex
    obtain ⟨j, hj, hc⟩ := rs_stop F a
    have hadd : ∀ x y, rsP F a j (x % a) → rsP F a j (y % a) → rsP F a j ((x + y) % a) := fun x y hx hy => by
      have := rs_add ha0 hc j _ hy _ hx
      rw [← Nat.add_mod] at this
      exact this
    have hmul : ∀ x y, rsP F a j (y % a) → rsP F a j ((x * y) % a) := fun x y hy => by
      have := rs_mul ha0 hc hy x
      rw [Nat.mul_mod_mod] at this
      exact this
    have hsub : ∀ x y, rsP F a j ((x + y) % a) → rsP F a j (y % a) → rsP F a j (x % a) := fun x y hx hy => by
      have h1 := hadd (x + y) ((a - 1) * y) hx (hmul (a - 1) y hy)
      have e : x + y + (a - 1) * y = x + y * a := by
        have e1 : (a - 1) * y + y = a * y := by
          rw [← Nat.succ_mul]
          congr 1
          omega
        have e2 := Nat.mul_comm y a
        omega
      rw [e, Nat.add_mul_mod_self_right] at h1
      exact h1
    have hZT : ∀ k n, n ≤ 60 → q n ≤ k → Zp n → rsP F a j (n % a) := by
      intro k
      induction k with
      | zero =>
        intro n hn hk hz
        rcases h.2.2 n hn hz with hf | ⟨x, y, hx, hy, hm, zx, zy, h1, h2⟩
        · have := rs_step ha0 hc (rsP_z j) hf hn
          rwa [Nat.zero_add] at this
        · omega
      | succ k ih =>
        intro n hn hk hz
        rcases h.2.2 n hn hz with hf | ⟨x, y, hx, hy, hm, zx, zy, h1, h2⟩
        · have := rs_step ha0 hc (rsP_z j) hf hn
          rwa [Nat.zero_add] at this
        · have ix := ih x hx (by omega) zx
          have iy := ih y hy (by omega) zy
          rcases hm with e | e | e | e
          · rw [e]; exact hadd x y ix iy
          · rw [e] at ix; exact hsub n y ix iy
          · rw [e] at iy; exact hsub n x iy ix
          · rw [e]; exact hmul x y iy
    have hTZ : ∀ n, n ≤ 60 → rsP F a j (n % a) → Zp n ∧ q n ≤ 304 := fun n hn ht => by
      have hb : j * (2 + 60 / a) ≤ (a + 1) * (2 + 60 / a) := Nat.mul_le_mul_right _ hj
      have hb2 : (a + 1) * (2 + 60 / a) = a * 2 + a * (60 / a) + (2 + 60 / a) := by rw [Nat.succ_mul, Nat.mul_add]
      have hb3 : a * (60 / a) ≤ 60 := Nat.mul_div_le 60 a
      have hb4 : 60 / a ≤ 60 := Nat.div_le_self 60 a
      have h1 := rs_q h ha0 ha hF j _ (by omega) ht
      have hdm := Nat.div_add_mod n a
      have hcm : n / a * a = a * (n / a) := Nat.mul_comm _ _
      have hd : n / a ≤ 60 := by
        have := Nat.div_le_self n a
        omega
      have h2 := h.add ha hF h1.1 (n / a) (by omega) (by omega)
      have e : n % a + n / a * a = n := by omega
      rw [e] at h2
      exact ⟨h2.1, by omega⟩
    refine ⟨fun n => rsP F a j (n % a), a, fun n hn => ⟨fun hz => hZT _ n hn (Nat.le_refl _) hz, fun ht => (hTZ n hn ht).1⟩, hadd, hsub, hmul, fun n hn hz => (hTZ n hn (hZT _ n hn (Nat.le_refl _) hz)).2, Or.inl ⟨ha0, ha, ?_⟩⟩
    show rsP F a j (a % a)
    rw [Nat.mod_self]
    exact rsP_z j
  · have h0 : ∀ n, n ≤ 60 → F n → n = 0 := fun n hn hF => Classical.byContradiction fun e => hex ⟨n, by omega, hn, hF⟩
    have hz0 : ∀ k n, n ≤ 60 → q n ≤ k → Zp n → n = 0 := by
      intro k
      induction k with
      | zero =>
        intro n hn hk hz
        rcases h.2.2 n hn hz with hf | ⟨x, y, hx, hy, hm, zx, zy, h1, h2⟩
        · exact h0 n hn hf
        · omega
      | succ k ih =>
        intro n hn hk hz
        rcases h.2.2 n hn hz with hf | ⟨x, y, hx, hy, hm, zx, zy, h1, h2⟩
        · exact h0 n hn hf
        · have ix := ih x hx (by omega) zx
          have iy := ih y hy (by omega) zy
          subst ix
          subst iy
          rcases hm with e | e | e | e <;> omega
    by_cases hz : Zp 0
    · refine ⟨fun n => n = 0, 0, fun n hn => ⟨fun h9 => hz0 _ n hn (Nat.le_refl _) h9, fun h9 => by rw [show n = 0 from h9]; exact hz⟩, fun x y hx hy => by show x + y = 0; have hx : x = 0 := hx; have hy : y = 0 := hy; omega, fun x y hx hy => by have hx : x + y = 0 := hx; show x = 0; omega, fun x y hy => by show x * y = 0; rw [show y = 0 from hy, Nat.mul_zero], fun n hn h9 => ?_, Or.inr fun x hx => hx⟩
      have e := hz0 _ n hn (Nat.le_refl _) h9
      subst e
      rcases h.2.2 0 hn h9 with hf | ⟨x, y, hx, hy, hm, zx, zy, h1, h2⟩
      · have := (h.1 0 hn hf).2
        omega
      · have ix := hz0 _ x hx (Nat.le_refl _) zx
        subst ix
        omega
    · have hno : ∀ n, n ≤ 60 → ¬ Zp n := fun n hn h9 => by
        have e := hz0 _ n hn (Nat.le_refl _) h9
        subst e
        exact hz h9
      exact ⟨fun _ => False, 0, fun n hn => ⟨fun h9 => (hno n hn h9).elim, fun h9 => h9.elim⟩, fun _ _ hx _ => hx.elim, fun _ _ hx _ => hx.elim, fun _ _ hy => hy.elim, fun n hn h9 => (hno n hn h9).elim, Or.inr fun _ hx => hx.elim⟩
theorem fixC_q1 {own p q : Nat → Nat} {D : Nat} (h : fixC own D p q) (hD : 1 ≤ D) : ∀ (k n : Nat), n ≤ 60 → q n ≤ k → q n ≤ p n + 1 := by
  intro k
  induction k with
  | zero =>
    intro n hn hk
    omega
  | succ k ih =>
    intro n hn hk
    rcases h.1 n hn with ⟨e1, e2⟩ | ⟨a, b, ha, hb, hm, -, -, e1, e2⟩
    · omega
    · have qa := h.2.2.2 a ha
      have qb := h.2.2.2 b hb
      have h1 := ih a ha (by omega)
      have h2 := ih b hb (by omega)
      omega
theorem fixC_clo {own p q : Nat → Nat} (h : fixC own 0 p q) : cloQ (fun n => own n = 0) (fun n => p n = 0) q := by
  have hF : (0 : Nat) < spFAR := by decide
  refine ⟨fun n hn h0 => ?_, fun n a b hn ha hb hm h1 h2 _ => ?_, fun n hn h0 => ?_⟩
  · have h0 : own n = 0 := h0
    have h9 := h.2.1 n hn
    show p n = 0 ∧ q n ≤ 1
    rcases h9 with e | ⟨e1, e2⟩ <;> omega
  · have h1 : p a = 0 := h1
    have h2 : p b = 0 := h2
    have h9 := h.2.2.1 n a b hn ha hb hm (by rw [h1]; exact hF) (by rw [h2]; exact hF)
    show p n = 0 ∧ q n ≤ q a + q b
    rcases h9 with e | ⟨e1, e2⟩ <;> omega
  · have h0 : p n = 0 := h0
    rcases h.1 n hn with ⟨e1, e2⟩ | ⟨a, b, ha, hb, hm, -, -, e1, e2⟩
    · exact Or.inl (by show own n = 0; omega)
    · have qa := h.2.2.2 a ha
      have qb := h.2.2.2 b hb
      exact Or.inr ⟨a, b, ha, hb, hm, by show p a = 0; omega, by show p b = 0; omega, by omega, by omega⟩
theorem st1a {own p q : Nat → Nat} (h : fixC own 0 p q) (hp : ∀ n, n ≤ 60 → p n < spFAR) {T : Nat → Prop} {a : Nat} (hT : clT2 (fun n => p n = 0) q T a) {n m u v : Nat} (hn : n ≤ 60) (hm : m ≤ 60) (hu : T u) (hv : T v) (e : n + u = m + v) : p n ≤ p m ∧ (p n = p m → q n ≤ q m + 304) := by
  by_cases hle : m ≤ n
  · have ht : T (n - m) := hT.2.2.1 (n - m) u (by rw [show n - m + u = v by omega]; exact hv) hu
    have hz : p (n - m) = 0 := (hT.1 (n - m) (by omega)).mpr ht
    have hq := hT.2.2.2.2.1 (n - m) (by omega) hz
    have h9 := h.2.2.1 n m (n - m) hn hm (by omega) (Or.inl (by omega)) (hp m hm) (hp _ (by omega))
    rcases h9 with e9 | ⟨e1, e2⟩
    · exact ⟨by omega, fun _ => by omega⟩
    · exact ⟨by omega, fun _ => by omega⟩
  · have ht : T (m - n) := hT.2.2.1 (m - n) v (by rw [show m - n + v = u by omega]; exact hu) hv
    have hz : p (m - n) = 0 := (hT.1 (m - n) (by omega)).mpr ht
    have hq := hT.2.2.2.2.1 (m - n) (by omega) hz
    have h9 := h.2.2.1 n m (m - n) hn hm (by omega) (Or.inr (Or.inl (by omega))) (hp m hm) (hp _ (by omega))
    rcases h9 with e9 | ⟨e1, e2⟩
    · exact ⟨by omega, fun _ => by omega⟩
    · exact ⟨by omega, fun _ => by omega⟩
theorem st1 {own p q : Nat → Nat} (h : fixC own 0 p q) (hp : ∀ n, n ≤ 60 → p n < spFAR) {T : Nat → Prop} {a : Nat} (hT : clT2 (fun n => p n = 0) q T a) {n m u v : Nat} (hn : n ≤ 60) (hm : m ≤ 60) (hu : T u) (hv : T v) (e : n + u = m + v) : p n = p m ∧ q n ≤ q m + 304 := by
  have h1 := st1a h hp hT hn hm hu hv e
  have h2 := st1a h hp hT hm hn hv hu e.symm
  exact ⟨by omega, h1.2 (by omega)⟩
def spE (T : Nat → Prop) (n m : Nat) : Prop := n = m ∨ (∃ u v, T u ∧ T v ∧ n + u = m + v) ∨ T (n + m)
def spT (p q : Nat → Nat) (m : Nat) : Prop := q m = 1 ∨ ∃ x y, x ≤ 60 ∧ y ≤ 60 ∧ 0 < p x ∧ 0 < p y ∧ p m = p x + p y ∧ q m = q x + q y
theorem spE_step {Zp : Nat → Prop} {q : Nat → Nat} {T : Nat → Prop} {a : Nat} (hT : clT2 Zp q T a) {n x z m : Nat} (hz : T z) (hm : mk3 n x z) (hE : spE T x m) : spE T n m ∨ T n := by
  obtain ⟨-, ad, sb, ml, -, -⟩ := hT
  rcases hm with e | e | e | e
  · refine Or.inl ?_
    rcases hE with e1 | ⟨u, v, hu, hv, e1⟩ | e1
    · exact Or.inr (Or.inl ⟨z, z + z, hz, ad z z hz hz, by omega⟩)
    · exact Or.inr (Or.inl ⟨u, v + z, hu, ad v z hv hz, by omega⟩)
    · refine Or.inr (Or.inr ?_)
      have := ad (x + m) z e1 hz
      rw [show n + m = x + m + z by omega]
      exact this
  · refine Or.inl ?_
    rcases hE with e1 | ⟨u, v, hu, hv, e1⟩ | e1
    · exact Or.inr (Or.inl ⟨z + z, z, ad z z hz hz, hz, by omega⟩)
    · exact Or.inr (Or.inl ⟨z + u, v, ad z u hz hu, hv, by omega⟩)
    · refine Or.inr (Or.inr (sb (n + m) z ?_ hz))
      rw [show n + m + z = x + m by omega]
      exact e1
  · refine Or.inl ?_
    rcases hE with e1 | ⟨u, v, hu, hv, e1⟩ | e1
    · refine Or.inr (Or.inr ?_)
      rw [show n + m = z by omega]
      exact hz
    · refine Or.inr (Or.inr (sb (n + m) v ?_ hv))
      rw [show n + m + v = z + u by omega]
      exact ad z u hz hu
    · exact Or.inr (Or.inl ⟨x + m, z, e1, hz, by omega⟩)
  · exact Or.inr (by rw [e]; exact ml x z hz)
theorem sp_chain {own p q : Nat → Nat} (h : fixC own 0 p q) {T : Nat → Prop} {a : Nat} (hT : clT2 (fun n => p n = 0) q T a) : ∀ (k n : Nat), n ≤ 60 → q n ≤ k → 0 < p n → ∃ m, m ≤ 60 ∧ p m = p n ∧ spT p q m ∧ spE T n m := by
  intro k
  induction k with
  | zero =>
    intro n hn hk h0
    have := h.2.2.2 n hn
    omega
  | succ k ih =>
    intro n hn hk h0
    rcases h.1 n hn with ⟨e1, e2⟩ | ⟨x, y, hx, hy, hm, -, -, e1, e2⟩
    · exact ⟨n, hn, rfl, Or.inl e2, Or.inl rfl⟩
    · have qa := h.2.2.2 x hx
      have qb := h.2.2.2 y hy
      rcases Nat.eq_zero_or_pos (p x) with z1 | z1
      · obtain ⟨m, hm60, pm, tm, em⟩ := ih y hy (by omega) (by omega)
        rcases spE_step hT ((hT.1 x hx).mp z1) hm.sym em with e9 | e9
        · exact ⟨m, hm60, by omega, tm, e9⟩
        · have : p n = 0 := (hT.1 n hn).mpr e9
          omega
      · rcases Nat.eq_zero_or_pos (p y) with z2 | z2
        · obtain ⟨m, hm60, pm, tm, em⟩ := ih x hx (by omega) (by omega)
          rcases spE_step hT ((hT.1 y hy).mp z2) hm em with e9 | e9
          · exact ⟨m, hm60, by omega, tm, e9⟩
          · have : p n = 0 := (hT.1 n hn).mpr e9
            omega
        · exact ⟨n, hn, rfl, Or.inr ⟨x, y, hx, hy, z1, z2, by omega, e2⟩, Or.inl rfl⟩
theorem spE_q {own p q : Nat → Nat} (h : fixC own 0 p q) (hp : ∀ n, n ≤ 60 → p n < spFAR) {T : Nat → Prop} {a : Nat} (hT : clT2 (fun n => p n = 0) q T a) {n m : Nat} (hn : n ≤ 60) (hm : m ≤ 60) (hE : spE T n m) : q n ≤ q m + 912 := by
  rcases hE with e | ⟨u, v, hu, hv, e⟩ | e
  · rw [e]; omega
  · have := (st1 h hp hT hn hm hu hv e).2
    omega
  · rcases hT.2.2.2.2.2 with ⟨ha0, ha, hTa⟩ | h0
    · have hT0 : T 0 := by
        have := hT.2.2.2.1 0 a hTa
        rwa [Nat.zero_mul] at this
      have hTz : T (m / a * a) := hT.2.2.2.1 (m / a) a hTa
      have hdm := Nat.div_add_mod m a
      have hcm : m / a * a = a * (m / a) := Nat.mul_comm _ _
      have hml := Nat.mod_lt m ha0
      have s1 := st1 h hp hT (n := m % a) (m := m) (by omega) hm hTz hT0 (by omega)
      have pa : p a = 0 := (hT.1 a ha).mpr hTa
      have qa := hT.2.2.2.2.1 a ha pa
      have l1 := h.2.2.1 (a - m % a) a (m % a) (by omega) ha (by omega) (Or.inr (Or.inl (by omega))) (hp a ha) (hp _ (by omega))
      have l2 := h.2.2.1 (m % a) a (a - m % a) (by omega) ha (by omega) (Or.inr (Or.inl (by omega))) (hp a ha) (hp _ (by omega))
      have hTn : T (n + m % a) := hT.2.2.1 (n + m % a) (m / a * a) (by rw [show n + m % a + m / a * a = n + m by omega]; exact e) hTz
      have s2 := st1 h hp hT (n := n) (m := a - m % a) hn (by omega) hTa hTn (by omega)
      have l3 : q (a - m % a) ≤ q (m % a) + 304 := by
        rcases l1 with l1 | ⟨l1, l1'⟩
        · rcases l2 with l2 | ⟨l2, l2'⟩ <;> omega
        · omega
      omega
    · have := h0 _ e
      have e1 : n = m := by omega
      rw [e1]; omega
theorem fixC_q0 {own p q : Nat → Nat} (h : fixC own 0 p q) (hp : ∀ n, n ≤ 60 → p n < spFAR) : ∀ (C n : Nat), n ≤ 60 → p n ≤ C → q n ≤ if p n = 0 then 304 else 1826 * p n - 913 := by
  obtain ⟨T, a, hT⟩ := clo_all (fixC_clo h)
  intro C
  induction C with
  | zero =>
    intro n hn hk
    rw [if_pos (by omega)]
    exact hT.2.2.2.2.1 n hn (by show p n = 0; omega)
  | succ C ih =>
    intro n hn hk
    rcases Nat.eq_zero_or_pos (p n) with z | z
    · rw [if_pos z]
      exact hT.2.2.2.2.1 n hn z
    · rw [if_neg (by omega)]
      obtain ⟨m, hm, pm, tm, em⟩ := sp_chain h hT _ n hn (Nat.le_refl _) z
      have h1 := spE_q h hp hT hn hm em
      rcases tm with t | ⟨x, y, hx, hy, px, py, e1, e2⟩
      · omega
      · have ix := ih x hx (by omega)
        have iy := ih y hy (by omega)
        rw [if_neg (by omega)] at ix iy
        omega
theorem say_q {own p q : Nat → Nat} {D : Nat} (h : fixC own D p q) (ho : ∀ n, n ≤ 60 → own n ≤ 99) {n : Nat} (hn : n ≤ 60) : q n < 1000000 := by
  have hp : ∀ n, n ≤ 60 → p n < spFAR := fun n hn => by have := h.ple hn; have := ho n hn; unfold spFAR; omega
  have h1 := h.ple hn
  have h2 := ho n hn
  rcases Nat.eq_zero_or_pos D with e | e
  · subst e
    have h3 := fixC_q0 h hp _ n hn (Nat.le_refl _)
    split at h3 <;> omega
  · have h3 := fixC_q1 h e _ n hn (Nat.le_refl _)
    omega
/-- out of free ones -/
theorem out_q {own p q : Nat → Nat} (h : fixC own 1 p q) (ho : ∀ n, n ≤ 60 → own n = 0 ∨ own n = spFAR) {n : Nat} (hn : n ≤ 60) (hf : p n < spFAR) : p n ≤ 304 := by
  have hpq : ∀ (k n : Nat), n ≤ 60 → q n ≤ k → p n < spFAR → q n = p n + 1 := by
    intro k
    induction k with
    | zero => intro n hn hk hf; have := h.2.2.2 n hn; omega
    | succ k ih =>
      intro n hn hk hf
      rcases h.1 n hn with ⟨e1, e2⟩ | ⟨a, b, ha, hb, hm, fa, fb, e1, e2⟩
      · rcases ho n hn with o | o <;> omega
      · have qa := h.2.2.2 a ha
        have qb := h.2.2.2 b hb
        have := ih a ha (by omega) fa
        have := ih b hb (by omega) fb
        omega
  have hc : cloQ (fun n => own n = 0) (fun n => p n < spFAR) q := by
    refine ⟨fun n hn h0 => ?_, fun n a b hn ha hb hm h1 h2 h9 => ?_, fun n hn h0 => ?_⟩
    · have h0 : own n = 0 := h0
      show p n < spFAR ∧ q n ≤ 1
      have hF : (0 : Nat) < spFAR := by decide
      rcases h.2.1 n hn with e | ⟨e1, e2⟩ <;> omega
    · have h1 : p a < spFAR := h1
      have h2 : p b < spFAR := h2
      show p n < spFAR ∧ q n ≤ q a + q b
      have q1 := hpq _ a ha (Nat.le_refl _) h1
      have q2 := hpq _ b hb (Nat.le_refl _) h2
      have hF : spFAR = 1000000000 := rfl
      have l9 := h.2.2.1 n a b hn ha hb hm h1 h2
      have hf9 : p n < spFAR := by rcases l9 with e | ⟨e1, e2⟩ <;> omega
      have q3 := hpq _ n hn (Nat.le_refl _) hf9
      refine ⟨hf9, ?_⟩
      rcases l9 with e | ⟨e1, e2⟩ <;> omega
    · have h0 : p n < spFAR := h0
      rcases h.1 n hn with ⟨e1, e2⟩ | ⟨a, b, ha, hb, hm, fa, fb, e1, e2⟩
      · rcases ho n hn with o | o
        · exact Or.inl o
        · omega
      · have qa := h.2.2.2 a ha
        have qb := h.2.2.2 b hb
        exact Or.inr ⟨a, b, ha, hb, hm, fa, fb, by omega, by omega⟩
  obtain ⟨T, a, hT⟩ := clo_all hc
  have := hT.2.2.2.2.1 n hn hf
  have := hpq _ n hn (Nat.le_refl _) hf
  omega
theorem out_eq {own p q v : Nat → Nat} (h : fixC own 1 p q) (ho : ∀ n, n ≤ 60 → own n = 0 ∨ own n = spFAR)
    (hv : fixU (fun n => if own n = 0 then 0 else 100000) 1 v) : ∀ n, n ≤ 60 → v n = if p n < spFAR then p n else 100000 := by
  have hb : ∀ n, n ≤ 60 → (if p n < spFAR then p n else 100000) ≤ 100000 := fun n hn => by
    split
    · rename_i hf
      have := out_q h ho hn hf
      omega
    · exact Nat.le_refl _
  have hF : spFAR = 1000000000 := rfl
  refine fixU_eq hv ⟨fun n hn => ?_, fun n a b hn ha hb9 hm => ?_, fun n hn => ?_, Or.inl (Nat.le_refl _)⟩
  · show (if p n < spFAR then p n else 100000) ≤ if own n = 0 then 0 else 100000
    have h1 := h.ple hn
    have h2 := hb n hn
    by_cases e : own n = 0
    · rw [if_pos e, if_pos (by omega)]; omega
    · rw [if_neg e]; exact h2
  · show (if p n < spFAR then p n else 100000) ≤ (if p a < spFAR then p a else 100000) + (if p b < spFAR then p b else 100000) + 1
    have h2 := hb n hn
    by_cases ea : p a < spFAR
    · by_cases eb : p b < spFAR
      · have pa := out_q h ho ha ea
        have pb := out_q h ho hb9 eb
        have l9 := h.2.2.1 n a b hn ha hb9 hm ea eb
        rw [if_pos ea, if_pos eb, if_pos (by rcases l9 with e | ⟨e1, e2⟩ <;> omega)]
        rcases l9 with e | ⟨e1, e2⟩ <;> omega
      · rw [if_neg eb]; omega
    · rw [if_neg ea]; omega
  · show (if p n < spFAR then p n else 100000) = (if own n = 0 then 0 else 100000) ∨ ∃ a b, a ≤ 60 ∧ b ≤ 60 ∧ mk3 n a b ∧ (if p a < spFAR then p a else 100000) + (if p b < spFAR then p b else 100000) + 1 ≤ if p n < spFAR then p n else 100000
    rcases h.1 n hn with ⟨e1, e2⟩ | ⟨a, b, ha, hb9, hm, fa, fb, e1, e2⟩
    · refine Or.inl ?_
      rcases ho n hn with o | o
      · rw [if_pos (by omega), if_pos o]; omega
      · rw [if_neg (by omega), if_neg (by omega)]
    · have pa := out_q h ho ha fa
      have pb := out_q h ho hb9 fb
      refine Or.inr ⟨a, b, ha, hb9, hm, ?_⟩
      rw [if_pos fa, if_pos fb, if_pos (by omega)]
      omega
