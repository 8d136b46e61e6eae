/-! ===== tax: the greatest bound that is not too much; affords ===== -/
def RowOK (f : Nat → Int32) (np : Nat) : Prop := (∀ n, n ≤ 60 → f n = -1 ∨ ∃ q, q < np ∧ f n = nI q) ∧ (∀ n, n ≤ 60 → ∃ r, r ≤ 40 ∧ f (61 + n) = nI r) ∧ (∀ q, q < 6 → ∃ c, c ≤ 9999 ∧ f (183 + q) = nI c) ∧ ∃ d, d ≤ 900 ∧ f 189 = nI d
theorem RowOK.ow {f : Nat → Int32} {np : Nat} (h : RowOK f np) (h6 : np ≤ 6) {n : Nat} (hn : n ≤ 60) : isOw (f n) := (h.1 n hn).imp id fun ⟨q, h1, h2⟩ => ⟨q, by omega, h2⟩
def coN (f : Nat → Int32) (q : Nat) : Nat := (f (183 + q)).toNatClampNeg
theorem RowOK.co {f : Nat → Int32} {np : Nat} (h : RowOK f np) : ∀ q, q < 6 → f (183 + q) = nI (coN f q) ∧ coN f q ≤ 9999 := fun q hq => by
  obtain ⟨c, h1, h2⟩ := h.2.2.1 q hq
  unfold coN
  rw [h2, nI_clamp (by omega)]
  exact ⟨rfl, h1⟩
def gvN (c : Nat → Nat) (b np : Nat) : Nat := smN (fun q => min b (c q)) np
theorem smN_mono {g c : Nat → Nat} : ∀ n, (∀ i, i < n → g i ≤ c i) → smN g n ≤ smN c n
  | 0, _ => Nat.le_refl _
  | n + 1, h => by
    have h1 := smN_mono n (fun i hi => h i (by omega))
    have h2 := h n (by omega)
    simp only [smN]; omega
theorem gvN_mono (c : Nat → Nat) {b b' : Nat} (np : Nat) (h : b ≤ b') : gvN c b np ≤ gvN c b' np := smN_mono np fun i _ => by omega
theorem gvN_le (c : Nat → Nat) (b np : Nat) : gvN c b np ≤ b * np := smN_le np fun i _ => by omega
theorem gvN_0 (c : Nat → Nat) (np : Nat) : gvN c 0 np = 0 := by have := gvN_le c 0 np; omega
def mxP (p : Nat → Bool) : Nat → Nat
  | 0 => 0
  | t + 1 => if p (t + 1) = true then t + 1 else mxP p t
theorem mxP_eq {p : Nat → Bool} {t : Nat} (hp : p t = true) : ∀ B, t ≤ B → (∀ s, t < s → s ≤ B → p s = false) → mxP p B = t
  | 0, h, _ => by simp only [mxP]; omega
  | B + 1, h, hn => by
    simp only [mxP]
    by_cases e : t = B + 1
    · subst e; rw [if_pos hp]
    · rw [hn (B + 1) (by omega) (Nat.le_refl _), if_neg (by decide)]
      exact mxP_eq hp B (by omega) (fun s h1 h2 => hn s h1 (by omega))
def txN (c : Nat → Nat) (np n : Nat) : Nat := mxP (fun t => decide (gvN c t np ≤ n)) 9999
theorem txN_at {c : Nat → Nat} {np n t : Nat} (h1 : gvN c t np ≤ n) (ht : t ≤ 9999) (h2 : t = 9999 ∨ n < gvN c (t + 1) np) : txN c np n = t := by
  refine mxP_eq (by simpa using h1) 9999 ht (fun s a b => ?_)
  rcases h2 with e | e
  · omega
  · have := gvN_mono c np (show t + 1 ≤ s by omega)
    simp only [decide_eq_false_iff_not]; omega
theorem mnI_n (a b : Nat) (ha : a < 2 ^ 31) (hb : b < 2 ^ 31) : mnI (nI a) (nI b) = nI (min a b) := by
  unfold mnI
  by_cases h : b < a
  · rw [if_pos (nI_lt h ha), show min a b = b by omega]
  · rw [if_neg (nI_nlt (by omega) hb), show min a b = a by omega]
theorem c_Land_givenN {l : Launch} {Z : EE} (hst : l.stackTraces = false) {h : PH} {a np du : Nat} {f : Nat → Int32} (hL : LandAt h a np du f) {c : Nat → Nat} (hc : ∀ q, q < 6 → f (183 + q) = nI (c q) ∧ c q ≤ 9999) (b : Nat) (hb : b ≤ 9999) : CC l Z m_X2_givenBy 1 0 0 [.ref a, .int (nI b)] h (RT (some (.int (nI (gvN c b np)))) h) := by
  have h1 := c_Land_givenBy (Z := Z) hst hL (nI b)
  have h6 := hL.2.2.2.2.2.2.1
  rw [smI_nat (gn := fun q => min b (c q)) np (fun i hi => by rw [(hc i (by omega)).1, mnI_n _ _ (by omega) (by have := (hc i (by omega)).2; omega)])] at h1
  exact h1
theorem c_Land_coN {l : Launch} {Z : EE} (hst : l.stackTraces = false) {h : PH} {a np du : Nat} {f : Nat → Int32} (hL : LandAt h a np du f) {c : Nat → Nat} (hc : ∀ q, q < 6 → f (183 + q) = nI (c q) ∧ c q ≤ 9999) (n : Nat) (hn : n < 6) : CC l Z m_X2_coins 0 0 0 [.ref a, .int (nI n)] h (RT (some (.int (nI (c n)))) h) := by
  have h1 := c_Land_coins (Z := Z) hst hL n hn
  rw [(hc n hn).1] at h1
  exact h1
theorem c_M_givenN {l : Launch} {Z : EE} (hst : l.stackTraces = false) {h : PH} {m : Nat} (hM : ModS h m) {np : Nat} (hnp : hp_F h m 15 = .int (nI np)) (h6 : np ≤ 6) {f : Nat → Int32} (hf : hp_I h (m + 14) = f) {c : Nat → Nat} (hc : ∀ q, q < 6 → f (183 + q) = nI (c q) ∧ c q ≤ 9999) (b : Nat) (hb : b ≤ 9999) : CC l Z m_X11_givenBy 0 0 0 [.ref m, .int (nI b)] h (RT (some (.int (nI (gvN c b np)))) h) := by
  have h1 := c_M_givenBy (Z := Z) hst hM hnp h6 hf (nI b)
  rw [smI_nat (gn := fun q => min b (c q)) np (fun i hi => by
    have := (hc i (by omega)).2
    rw [(hc i (by omega)).1]
    by_cases e : c i < b
    · rw [if_pos (nI_lt e (by omega)), show min b (c i) = c i by omega]
    · rw [if_neg (nI_nlt (by omega) (by omega)), show min b (c i) = b by omega])] at h1
  exact h1
theorem c_minN {l : Launch} {Z : EE} (hst : l.stackTraces = false) (a b : Nat) (ha : a < 2 ^ 31) (hb : b < 2 ^ 31) (h : PH) : CC l Z m_J9_min_7cf53 0 0 0 [.int (nI a), .int (nI b)] h (RT (some (.int (nI (min a b)))) h) := by
  rw [← mnI_n a b ha hb]; exact c_min hst _ _ h
set_option maxHeartbeats 4000000 in
set_option maxRecDepth 100000 in
theorem l_K_tax {l : Launch} {Z : EE} (hst : l.stackTraces = false) {h : PH} {la lw bk : Nat} (hC : CL h la lw bk) {np du : Nat} {f : Nat → Int32} (hL : LandAt h la np du f) {c : Nat → Nat} (hc : ∀ q, q < 6 → f (183 + q) = nI (c q) ∧ c q ≤ 9999) (q n : Nat) (hq : q < np) (hn9 : n ≤ 9999) : ∀ (j a b i : Nat), a < b → b ≤ 9999 → b - a - 1 < 2 ^ j → i + j = 14 → gvN c a np ≤ n → n < gvN c b np → WW l Z m_X10_tax 3 0 0 50 [.ref 0, .int (nI q), .int (nI n), .int (nI (c q)), .int (nI a), .int (nI b), .int (nI i), UU] [] h (COk (nI (min (c q) (txN c np n))) h) := by
  have hla := hC.la
  have hlw := hC.lw
  have hbk := hC.bk
  have hnp := hL.2.2.2.2.2.2.1
  have hcq := (hc q (by omega)).2
  intro j
  induction j with
  | zero =>
    intro a b i hab hb hj hi ha hn
    refine ww_iload dX10_tax_50 rfl ?_
    refine ww_bipush (v := nI 32) dX10_tax_52 (by decide) ?_
    refine ww_icmp_geN (tgt := 105) dX10_tax_54 (by decide) (by omega) (by omega) (fun c54 => ?_) (fun c54 => ?_)
    · exfalso; omega
    · refine ww_iload dX10_tax_57 rfl ?_
      refine ww_iload dX10_tax_59 rfl ?_
      refine ww_isubN dX10_tax_61 (by omega) ?_
      refine ww_iconst (v := nI 1) dX10_tax_62 (by decide) ?_
      refine ww_icmp_leN (tgt := 105) dX10_tax_63 (by decide) (by omega) (by omega) (fun c63 => ?_) (fun c63 => ?_)
      · refine ww_iload_n dX10_tax_105 rfl rfl ?_
        refine ww_iload dX10_tax_106 rfl ?_
        refine ww_cSr (M := m_X10_tax) (pc := 108) (v := .int (nI (min (c q) a))) (h1 := h) (st := []) (bc := 0) (bs := 0) (c_minN hst (c q) a (by omega) (by omega) _) vv_J9_min_7cf53 dX10_tax_108 wg_603 rfl rfl rfl (Nat.le_of_ble_eq_true rfl) (Nat.le_of_ble_eq_true rfl) (Nat.le_of_ble_eq_true rfl) (Nat.le_of_ble_eq_true rfl) ?_
        exact ww_iret dX10_tax_111 rfl ⟨by rw [txN_at ha (by omega) (Or.inr (by rw [show a + 1 = b by omega]; exact hn))], Same.rf⟩
      · exfalso; omega
  | succ j ih =>
    intro a b i hab hb hj hi ha hn
    have hp9 : 2 ^ (j + 1) = 2 ^ j * 2 := Nat.pow_succ 2 j
    have gm : gvN c ((a + b) / 2) np ≤ 60000 := by have g9 := gvN_le c ((a + b) / 2) np; have : (a + b) / 2 * np ≤ 9999 * 6 := Nat.mul_le_mul (by omega) hnp; omega
    refine ww_iload dX10_tax_50 rfl ?_
    refine ww_bipush (v := nI 32) dX10_tax_52 (by decide) ?_
    refine ww_icmp_geN (tgt := 105) dX10_tax_54 (by decide) (by omega) (by omega) (fun c54 => ?_) (fun c54 => ?_)
    · exfalso; omega
    · refine ww_iload dX10_tax_57 rfl ?_
      refine ww_iload dX10_tax_59 rfl ?_
      refine ww_isubN dX10_tax_61 (by omega) ?_
      refine ww_iconst (v := nI 1) dX10_tax_62 (by decide) ?_
      refine ww_icmp_leN (tgt := 105) dX10_tax_63 (by decide) (by omega) (by omega) (fun c63 => ?_) (fun c63 => ?_)
      · refine ww_iload_n dX10_tax_105 rfl rfl ?_
        refine ww_iload dX10_tax_106 rfl ?_
        refine ww_cSr (M := m_X10_tax) (pc := 108) (v := .int (nI (min (c q) a))) (h1 := h) (st := []) (bc := 0) (bs := 0) (c_minN hst (c q) a (by omega) (by omega) _) vv_J9_min_7cf53 dX10_tax_108 wg_603 rfl rfl rfl (Nat.le_of_ble_eq_true rfl) (Nat.le_of_ble_eq_true rfl) (Nat.le_of_ble_eq_true rfl) (Nat.le_of_ble_eq_true rfl) ?_
        exact ww_iret dX10_tax_111 rfl ⟨by rw [txN_at ha (by omega) (Or.inr (by rw [show a + 1 = b by omega]; exact hn))], Same.rf⟩
      · refine ww_iload dX10_tax_66 rfl ?_
        refine ww_iload dX10_tax_68 rfl ?_
        refine ww_iaddN dX10_tax_70 ?_
        refine ww_iconst (v := nI 2) dX10_tax_71 (by decide) ?_
        refine ww_idivN dX10_tax_72 (by omega) (by omega) (by omega) ?_
        refine ww_sti (lv2 := [.ref 0, .int (nI q), .int (nI n), .int (nI (c q)), .int (nI a), .int (nI b), .int (nI i), .int (nI ((a + b) / 2))]) dX10_tax_73 rfl (by decide) rfl ?_
        refine ww_aload_n dX10_tax_75 rfl rfl ?_
        refine ww_get 1 dX10_tax_76 (hC.K0) rfl (by decide) inX10 wg_265 hC.D1 ?_
        refine ww_iload dX10_tax_79 rfl ?_
        refine ww_cVr (M := m_X10_tax) (pc := 81) (v := .int (nI (gvN c ((a + b) / 2) np))) (h1 := h) (st := []) (bc := 0) (bs := 0) (c_Land_givenN hst hL hc ((a + b) / 2) (by omega)) vv_X2_givenBy dX10_tax_81 wg_1105 hL.1 rfl rfl rfl rfl (Nat.le_of_ble_eq_true rfl) (Nat.le_of_ble_eq_true rfl) (Nat.le_of_ble_eq_true rfl) (Nat.le_of_ble_eq_true rfl) ?_
        refine ww_iload_n dX10_tax_84 rfl rfl ?_
        refine ww_icmp_gtN (tgt := 95) dX10_tax_85 (by decide) (by omega) (by omega) (fun c85 => ?_) (fun c85 => ?_)
        · refine ww_iload dX10_tax_95 rfl ?_
          refine ww_sti (lv2 := [.ref 0, .int (nI q), .int (nI n), .int (nI (c q)), .int (nI a), .int (nI ((a + b) / 2)), .int (nI i), .int (nI ((a + b) / 2))]) dX10_tax_97 rfl (by decide) rfl ?_
          refine ww_incN (c := 1) (lv2 := [.ref 0, .int (nI q), .int (nI n), .int (nI (c q)), .int (nI a), .int (nI ((a + b) / 2)), .int (nI (i + 1)), .int (nI ((a + b) / 2))]) dX10_tax_99 rfl rfl rfl (by decide) rfl ?_
          refine ww_goto (tgt := 50) dX10_tax_102 (by decide) ?_
          refine ww_fg (lv2 := [.ref 0, .int (nI q), .int (nI n), .int (nI (c q)), .int (nI a), .int (nI ((a + b) / 2)), .int (nI (i + 1)), UU]) ⟨Or.inr rfl, Or.inr rfl, Or.inr rfl, Or.inr rfl, Or.inr rfl, Or.inr rfl, Or.inr rfl, Or.inl rfl, trivial⟩ ?_
          exact ih a ((a + b) / 2) (i + 1) (by omega) (by omega) (by omega) (by omega) ha c85
        · refine ww_iload dX10_tax_88 rfl ?_
          refine ww_sti (lv2 := [.ref 0, .int (nI q), .int (nI n), .int (nI (c q)), .int (nI ((a + b) / 2)), .int (nI b), .int (nI i), .int (nI ((a + b) / 2))]) dX10_tax_90 rfl (by decide) rfl ?_
          refine ww_goto (tgt := 99) dX10_tax_92 (by decide) ?_
          refine ww_incN (c := 1) (lv2 := [.ref 0, .int (nI q), .int (nI n), .int (nI (c q)), .int (nI ((a + b) / 2)), .int (nI b), .int (nI (i + 1)), .int (nI ((a + b) / 2))]) dX10_tax_99 rfl rfl rfl (by decide) rfl ?_
          refine ww_goto (tgt := 50) dX10_tax_102 (by decide) ?_
          refine ww_fg (lv2 := [.ref 0, .int (nI q), .int (nI n), .int (nI (c q)), .int (nI ((a + b) / 2)), .int (nI b), .int (nI (i + 1)), UU]) ⟨Or.inr rfl, Or.inr rfl, Or.inr rfl, Or.inr rfl, Or.inr rfl, Or.inr rfl, Or.inr rfl, Or.inl rfl, trivial⟩ ?_
          exact ih ((a + b) / 2) b (i + 1) (by omega) (by omega) (by omega) (by omega) c85 hn
set_option maxHeartbeats 4000000 in
set_option maxRecDepth 100000 in
theorem c_K_tax {l : Launch} {Z : EE} (hst : l.stackTraces = false) {h : PH} {la lw bk : Nat} (hC : CL h la lw bk) {np du : Nat} {f : Nat → Int32} (hL : LandAt h la np du f) {c : Nat → Nat} (hc : ∀ q, q < 6 → f (183 + q) = nI (c q) ∧ c q ≤ 9999) (q : Nat) (hq : q < np) (n : Nat) (ln : 0 ≤ n) (hn : n ≤ 9999) : CC l Z m_X10_tax 3 0 0 [.ref 0, .int (nI q), .int (nI n)] h (COk (nI (min (c q) (txN c np n))) h) := by
  refine ee_entry hst (by decide +kernel) rfl rfl (by simp [Value.category]) (Nat.le_of_ble_eq_true rfl) ?_
  refine ww_lv (lv2 := [.ref 0, .int (nI q), .int (nI n), UU, UU, UU, UU, UU]) rfl ?_
  have hla := hC.la
  have hlw := hC.lw
  have hbk := hC.bk
  have hnp := hL.2.2.2.2.2.2.1
  have hcq := (hc q (by omega)).2
  have gm : gvN c 9999 np ≤ 60000 := by have g9 := gvN_le c 9999 np; have : 9999 * np ≤ 9999 * 6 := Nat.mul_le_mul (Nat.le_refl _) hnp; omega
  refine ww_aload_n dX10_tax_0 rfl rfl ?_
  refine ww_iload_n dX10_tax_1 rfl rfl ?_
  refine ww_cV0 (M := m_X10_tax) (pc := 2) (h1 := h) (st := []) (bc := 0) (bs := 0) (c_needPerson_t hst hC.K0 hC.D1 hL.1 hL.2.2.2.1 hL.2.2.2.2.2.2.1 q hq) vv_X10_needPerson dX10_tax_2 wg_803 (hC.K0) rfl rfl rfl rfl (Nat.le_of_ble_eq_true rfl) (Nat.le_of_ble_eq_true rfl) (Nat.le_of_ble_eq_true rfl) (Nat.le_of_ble_eq_true rfl) ?_
  refine ww_aload_n dX10_tax_5 rfl rfl ?_
  refine ww_iload_n dX10_tax_6 rfl rfl ?_
  refine ww_iconst (v := nI 0) dX10_tax_7 (by decide) ?_
  refine ww_sipush (v := nI 9999) dX10_tax_8 (by decide) ?_
  refine ww_cV0 (M := m_X10_tax) (pc := 11) (h1 := h) (st := []) (bc := 0) (bs := 0) (c_within_t hst (nI n) (nI 0) (nI 9999) (nI_le (by omega) (by omega)) (nI_le (by omega) (by omega)) _) vv_X10_within dX10_tax_11 wg_410 (hC.K0) rfl rfl rfl rfl (Nat.le_of_ble_eq_true rfl) (Nat.le_of_ble_eq_true rfl) (Nat.le_of_ble_eq_true rfl) (Nat.le_of_ble_eq_true rfl) ?_
  refine ww_aload_n dX10_tax_14 rfl rfl ?_
  refine ww_get 1 dX10_tax_15 (hC.K0) rfl (by decide) inX10 wg_265 hC.D1 ?_
  refine ww_iload_n dX10_tax_18 rfl rfl ?_
  refine ww_cVr (M := m_X10_tax) (pc := 19) (v := .int (nI (c q))) (h1 := h) (st := []) (bc := 0) (bs := 0) (c_Land_coN hst hL hc q (by omega)) vv_X2_coins dX10_tax_19 wg_823 hL.1 rfl rfl rfl rfl (Nat.le_of_ble_eq_true rfl) (Nat.le_of_ble_eq_true rfl) (Nat.le_of_ble_eq_true rfl) (Nat.le_of_ble_eq_true rfl) ?_
  refine ww_sti_n (lv2 := [.ref 0, .int (nI q), .int (nI n), .int (nI (c q)), UU, UU, UU, UU]) dX10_tax_22 rfl rfl (by decide) rfl ?_
  refine ww_aload_n dX10_tax_23 rfl rfl ?_
  refine ww_get 1 dX10_tax_24 (hC.K0) rfl (by decide) inX10 wg_265 hC.D1 ?_
  refine ww_sipush (v := nI 9999) dX10_tax_27 (by decide) ?_
  refine ww_cVr (M := m_X10_tax) (pc := 30) (v := .int (nI (gvN c 9999 np))) (h1 := h) (st := []) (bc := 0) (bs := 0) (c_Land_givenN hst hL hc 9999 (by omega)) vv_X2_givenBy dX10_tax_30 wg_1105 hL.1 rfl rfl rfl rfl (Nat.le_of_ble_eq_true rfl) (Nat.le_of_ble_eq_true rfl) (Nat.le_of_ble_eq_true rfl) (Nat.le_of_ble_eq_true rfl) ?_
  refine ww_iload_n dX10_tax_33 rfl rfl ?_
  refine ww_icmp_gtN (tgt := 39) dX10_tax_34 (by decide) (by omega) (by omega) (fun c34 => ?_) (fun c34 => ?_)
  · refine ww_iconst (v := nI 0) dX10_tax_39 (by decide) ?_
    refine ww_sti (lv2 := [.ref 0, .int (nI q), .int (nI n), .int (nI (c q)), .int (nI 0), UU, UU, UU]) dX10_tax_40 rfl (by decide) rfl ?_
    refine ww_sipush (v := nI 9999) dX10_tax_42 (by decide) ?_
    refine ww_sti (lv2 := [.ref 0, .int (nI q), .int (nI n), .int (nI (c q)), .int (nI 0), .int (nI 9999), UU, UU]) dX10_tax_45 rfl (by decide) rfl ?_
    refine ww_iconst (v := nI 0) dX10_tax_47 (by decide) ?_
    refine ww_sti (lv2 := [.ref 0, .int (nI q), .int (nI n), .int (nI (c q)), .int (nI 0), .int (nI 9999), .int (nI 0), UU]) dX10_tax_48 rfl (by decide) rfl ?_
    exact l_K_tax hst hC hL hc q n hq hn 14 0 9999 0 (by omega) (by omega) (by decide) (by omega) (by rw [gvN_0]; omega) c34
  · refine ww_iload_n dX10_tax_37 rfl rfl ?_
    exact ww_iret dX10_tax_38 rfl ⟨by rw [txN_at c34 (Nat.le_refl _) (Or.inl rfl), show min (c q) 9999 = c q by omega], Same.rf⟩
set_option maxHeartbeats 4000000 in
set_option maxRecDepth 100000 in
theorem c_K_tax_no0 {l : Launch} {Z : EE} (hst : l.stackTraces = false) {h : PH} {la lw bk : Nat} (hC : CL h la lw bk) {np du : Nat} {f : Nat → Int32} (hL : LandAt h la np du f) {mi : Int32} (hmi : hp_F h 0 12 = .int mi) (q : Int32) (n : Int32) (hout : outP np q) : CC l Z m_X10_tax 7 1 6 [.ref 0, .int q, .int n] h (TH nsX (hp_sF h 0 12 (.int (mi + nI 1)))) := by
  refine ee_entry hst (by decide +kernel) rfl rfl (by simp [Value.category]) (Nat.le_of_ble_eq_true rfl) ?_
  refine ww_lv (lv2 := [.ref 0, .int q, .int n, UU, UU, UU, UU, UU]) rfl ?_
  have hla := hC.la
  have hlw := hC.lw
  have hbk := hC.bk
  refine ww_aload_n dX10_tax_0 rfl rfl ?_
  refine ww_iload_n dX10_tax_1 rfl rfl ?_
  exact ww_cVt (M := m_X10_tax) (pc := 2) (st := []) (bc := 0) (bs := 0) (c_needPerson_f hst hC.K0 hC.D1 hL.1 hL.2.2.2.1 hL.2.2.2.2.2.2.1 hmi q hout) vv_X10_needPerson dX10_tax_2 wg_803 (hC.K0) rfl rfl rfl rfl (Nat.le_of_ble_eq_true rfl) (Nat.le_of_ble_eq_true rfl) (Nat.le_of_ble_eq_true rfl) (Nat.le_of_ble_eq_true rfl) ⟨rfl, rfl⟩
set_option maxHeartbeats 4000000 in
set_option maxRecDepth 100000 in
theorem c_K_tax_no1 {l : Launch} {Z : EE} (hst : l.stackTraces = false) {h : PH} {la lw bk : Nat} (hC : CL h la lw bk) {np du : Nat} {f : Nat → Int32} (hL : LandAt h la np du f) {wr : Int32} (hwr : hp_F h 0 13 = .int wr) (q : Nat) (hq : q < np) (n : Int32) (hout : ¬ (nI 0 ≤ n ∧ n ≤ nI 9999)) : CC l Z m_X10_tax 7 1 6 [.ref 0, .int (nI q), .int n] h (TH iaX (hp_sF h 0 13 (.int (wr + nI 1)))) := by
  refine ee_entry hst (by decide +kernel) rfl rfl (by simp [Value.category]) (Nat.le_of_ble_eq_true rfl) ?_
  refine ww_lv (lv2 := [.ref 0, .int (nI q), .int n, UU, UU, UU, UU, UU]) rfl ?_
  have hla := hC.la
  have hlw := hC.lw
  have hbk := hC.bk
  refine ww_aload_n dX10_tax_0 rfl rfl ?_
  refine ww_iload_n dX10_tax_1 rfl rfl ?_
  refine ww_cV0 (M := m_X10_tax) (pc := 2) (h1 := h) (st := []) (bc := 1) (bs := 6) (c_needPerson_t hst hC.K0 hC.D1 hL.1 hL.2.2.2.1 hL.2.2.2.2.2.2.1 q hq) vv_X10_needPerson dX10_tax_2 wg_803 (hC.K0) rfl rfl rfl rfl (Nat.le_of_ble_eq_true rfl) (Nat.le_of_ble_eq_true rfl) (Nat.le_of_ble_eq_true rfl) (Nat.le_of_ble_eq_true rfl) ?_
  refine ww_aload_n dX10_tax_5 rfl rfl ?_
  refine ww_iload_n dX10_tax_6 rfl rfl ?_
  refine ww_iconst (v := nI 0) dX10_tax_7 (by decide) ?_
  refine ww_sipush (v := nI 9999) dX10_tax_8 (by decide) ?_
  exact ww_cVt (M := m_X10_tax) (pc := 11) (st := []) (bc := 0) (bs := 0) (c_within_f hst hC.K0 hwr n (nI 0) (nI 9999) hout) vv_X10_within dX10_tax_11 wg_410 (hC.K0) rfl rfl rfl rfl (Nat.le_of_ble_eq_true rfl) (Nat.le_of_ble_eq_true rfl) (Nat.le_of_ble_eq_true rfl) (Nat.le_of_ble_eq_true rfl) ⟨rfl, rfl⟩
set_option maxHeartbeats 4000000 in
set_option maxRecDepth 100000 in
theorem l_M_tax {l : Launch} {Z : EE} (hst : l.stackTraces = false) {h : PH} {m : Nat} (hM : ModS h m) {np : Nat} (hnp : hp_F h m 15 = .int (nI np)) (h6 : np ≤ 6) {f : Nat → Int32} (hf : hp_I h (m + 14) = f) {c : Nat → Nat} (hc : ∀ q, q < 6 → f (183 + q) = nI (c q) ∧ c q ≤ 9999) (q n : Nat) (hq : q < np) (hn9 : n ≤ 9999) {Post : Res → PH → Prop} : ∀ (j a b : Nat), a ≤ b → b ≤ 9999 → b - a ≤ j → gvN c a np ≤ n → (∀ s, b < s → s ≤ 9999 → n < gvN c s np) → (∀ t, t ≤ 9999 → gvN c t np ≤ n → (t = 9999 ∨ n < gvN c (t + 1) np) → WW l Z m_X11_tax 2 0 0 81 [.ref m, .int (nI q), .int (nI n), .int (nI t), .int (nI t), UU] [] h Post) → WW l Z m_X11_tax 2 0 0 40 [.ref m, .int (nI q), .int (nI n), .int (nI a), .int (nI b), UU] [] h Post := by
  have hcq := (hc q (by omega)).2
  intro j
  induction j with
  | zero =>
    intro a b hab hb hj ha hn hex
    have hb0 : b = a := by omega
    subst hb0
    refine ww_iload_n dX11_tax_40 rfl rfl ?_
    refine ww_iload dX11_tax_41 rfl ?_
    refine ww_icmp_geN (tgt := 81) dX11_tax_43 (by decide) (by omega) (by omega) (fun c43 => ?_) (fun c43 => ?_)
    · refine hex b hb ha ?_
      rcases Nat.lt_or_ge b 9999 with e | e
      · exact Or.inr (hn (b + 1) (by omega) (by omega))
      · exact Or.inl (by omega)
    · exfalso; omega
  | succ j ih =>
    intro a b hab hb hj ha hn hex
    have gm : gvN c ((a + b + 1) / 2) np ≤ 60000 := by have g9 := gvN_le c ((a + b + 1) / 2) np; have : (a + b + 1) / 2 * np ≤ 9999 * 6 := Nat.mul_le_mul (by omega) h6; omega
    refine ww_iload_n dX11_tax_40 rfl rfl ?_
    refine ww_iload dX11_tax_41 rfl ?_
    refine ww_icmp_geN (tgt := 81) dX11_tax_43 (by decide) (by omega) (by omega) (fun c43 => ?_) (fun c43 => ?_)
    · have hb0 : b = a := by omega
      subst hb0
      refine hex b hb ha ?_
      rcases Nat.lt_or_ge b 9999 with e | e
      · exact Or.inr (hn (b + 1) (by omega) (by omega))
      · exact Or.inl (by omega)
    · refine ww_iload_n dX11_tax_46 rfl rfl ?_
      refine ww_iload dX11_tax_47 rfl ?_
      refine ww_iaddN dX11_tax_49 ?_
      refine ww_iconst (v := nI 1) dX11_tax_50 (by decide) ?_
      refine ww_iaddN dX11_tax_51 ?_
      refine ww_iconst (v := nI 2) dX11_tax_52 (by decide) ?_
      refine ww_idivN dX11_tax_53 (by omega) (by omega) (by omega) ?_
      refine ww_sti (lv2 := [.ref m, .int (nI q), .int (nI n), .int (nI a), .int (nI b), .int (nI (((a + b) + 1) / 2))]) dX11_tax_54 rfl (by decide) rfl ?_
      refine ww_aload_n dX11_tax_56 rfl rfl ?_
      refine ww_iload dX11_tax_57 rfl ?_
      refine ww_cVr (M := m_X11_tax) (pc := 59) (v := .int (nI (gvN c (((a + b) + 1) / 2) np))) (h1 := h) (st := []) (bc := 0) (bs := 0) (c_M_givenN hst (h := h) hM hnp h6 hf hc (((a + b) + 1) / 2) (by omega)) vv_X11_givenBy dX11_tax_59 wg_1715 hM.K0 rfl rfl rfl rfl (Nat.le_of_ble_eq_true rfl) (Nat.le_of_ble_eq_true rfl) (Nat.le_of_ble_eq_true rfl) (Nat.le_of_ble_eq_true rfl) ?_
      refine ww_iload_n dX11_tax_62 rfl rfl ?_
      refine ww_icmp_gtN (tgt := 72) dX11_tax_63 (by decide) (by omega) (by omega) (fun c63 => ?_) (fun c63 => ?_)
      · refine ww_iload dX11_tax_72 rfl ?_
        refine ww_iconst (v := nI 1) dX11_tax_74 (by decide) ?_
        refine ww_isubN dX11_tax_75 (by omega) ?_
        refine ww_sti (lv2 := [.ref m, .int (nI q), .int (nI n), .int (nI a), .int (nI ((((a + b) + 1) / 2) - 1)), .int (nI (((a + b) + 1) / 2))]) dX11_tax_76 rfl (by decide) rfl ?_
        refine ww_goto (tgt := 40) dX11_tax_78 (by decide) ?_
        refine ww_fg (lv2 := [.ref m, .int (nI q), .int (nI n), .int (nI a), .int (nI ((((a + b) + 1) / 2) - 1)), UU]) ⟨Or.inr rfl, Or.inr rfl, Or.inr rfl, Or.inr rfl, Or.inr rfl, Or.inl rfl, trivial⟩ ?_
        exact ih a ((((a + b) + 1) / 2) - 1) (by omega) (by omega) (by omega) ha (fun s e1 e2 => by rcases Nat.lt_or_ge b s with e3 | e3; exact hn s e3 e2; have := gvN_mono c np (show (a + b + 1) / 2 ≤ s by omega); omega) hex
      · refine ww_iload dX11_tax_66 rfl ?_
        refine ww_sti_n (lv2 := [.ref m, .int (nI q), .int (nI n), .int (nI (((a + b) + 1) / 2)), .int (nI b), .int (nI (((a + b) + 1) / 2))]) dX11_tax_68 rfl rfl (by decide) rfl ?_
        refine ww_goto (tgt := 78) dX11_tax_69 (by decide) ?_
        refine ww_goto (tgt := 40) dX11_tax_78 (by decide) ?_
        refine ww_fg (lv2 := [.ref m, .int (nI q), .int (nI n), .int (nI (((a + b) + 1) / 2)), .int (nI b), UU]) ⟨Or.inr rfl, Or.inr rfl, Or.inr rfl, Or.inr rfl, Or.inr rfl, Or.inl rfl, trivial⟩ ?_
        exact ih (((a + b) + 1) / 2) b (by omega) (by omega) (by omega) (by omega) hn hex
set_option maxHeartbeats 4000000 in
set_option maxRecDepth 100000 in
theorem c_M_tax {l : Launch} {Z : EE} (hst : l.stackTraces = false) {h : PH} {m : Nat} (hM : ModS h m) {np : Nat} (hnp : hp_F h m 15 = .int (nI np)) (h6 : np ≤ 6) {f : Nat → Int32} (hf : hp_I h (m + 14) = f) {c : Nat → Nat} (hc : ∀ q, q < 6 → f (183 + q) = nI (c q) ∧ c q ≤ 9999) (q : Nat) (hq : q < np) (n : Nat) (ln : 0 ≤ n) (hn : n ≤ 9999) : CC l Z m_X11_tax 2 0 0 [.ref m, .int (nI q), .int (nI n)] h (MOk (nI (min (c q) (txN c np n))) m h) := by
  refine ee_entry hst (by decide +kernel) rfl rfl (by simp [Value.category]) (Nat.le_of_ble_eq_true rfl) ?_
  refine ww_lv (lv2 := [.ref m, .int (nI q), .int (nI n), UU, UU, UU]) rfl ?_
  refine ww_aload_n dX11_tax_0 rfl rfl ?_
  refine ww_iconst (v := nI 0) dX11_tax_1 (by decide) ?_
  refine ww_pfI tyX11 0 dX11_tax_2 hM.K0 rfl (by decide) inX11 tyX11_ok nmX11 wg_1240 rfl rfl ?_
  refine ww_aload_n dX11_tax_5 rfl rfl ?_
  refine ww_iload_n dX11_tax_6 rfl rfl ?_
  refine ww_iconst (v := nI 1) dX11_tax_7 (by decide) ?_
  refine ww_cVr (M := m_X11_tax) (pc := 8) (v := .int (nI 1)) (h1 := hp_sF h m 0 (.int (nI 0))) (st := []) (bc := 0) (bs := 0) (c_M_isPerson_t hst (h := hp_sF h m 0 (.int (nI 0))) (ModS.sF hM (by decide)) (hp_F_eq _ _ _ _) (hp_F_nj (by decide) hnp) h6 q hq) vv_X11_isPerson dX11_tax_8 wg_1612 hM.K0 rfl rfl rfl rfl (Nat.le_of_ble_eq_true rfl) (Nat.le_of_ble_eq_true rfl) (Nat.le_of_ble_eq_true rfl) (Nat.le_of_ble_eq_true rfl) ?_
  refine ww_if_eqN (tgt := 31) dX11_tax_11 (by decide) (by omega) (fun c11 => ?_) (fun c11 => ?_)
  · exact absurd c11 (by decide)
  · refine ww_aload_n dX11_tax_14 rfl rfl ?_
    refine ww_iload_n dX11_tax_15 rfl rfl ?_
    refine ww_iconst (v := nI 0) dX11_tax_16 (by decide) ?_
    refine ww_sipush (v := nI 9999) dX11_tax_17 (by decide) ?_
    refine ww_cSr (M := m_X11_tax) (pc := 20) (v := .int (nI 1)) (h1 := hp_sF h m 0 (.int (nI 0))) (st := [.ref m]) (bc := 0) (bs := 0) (c_M_within_t hst (nI n) (nI 0) (nI 9999) (nI_le (by omega) (by omega)) (nI_le (by omega) (by omega)) _) vv_X11_within dX11_tax_20 wg_1601 rfl rfl rfl (Nat.le_of_ble_eq_true rfl) (Nat.le_of_ble_eq_true rfl) (Nat.le_of_ble_eq_true rfl) (Nat.le_of_ble_eq_true rfl) ?_
    refine ww_iconst (v := nI 2) dX11_tax_23 (by decide) ?_
    refine ww_iconst (v := nI 1) dX11_tax_24 (by decide) ?_
    refine ww_cVr (M := m_X11_tax) (pc := 25) (v := .int (nI 1)) (h1 := hp_sF h m 0 (.int (nI 0))) (st := []) (bc := 0) (bs := 0) (c_M_may_t hst (h := hp_sF h m 0 (.int (nI 0))) (ModS.sF hM (by decide)) (hp_F_eq _ _ _ _) (nI 2) (nI 1)) vv_X11_may dX11_tax_25 wg_1413 hM.K0 rfl rfl rfl rfl (Nat.le_of_ble_eq_true rfl) (Nat.le_of_ble_eq_true rfl) (Nat.le_of_ble_eq_true rfl) (Nat.le_of_ble_eq_true rfl) ?_
    refine ww_if_neN (tgt := 33) dX11_tax_28 (by decide) (by omega) (fun c28 => ?_) (fun c28 => ?_)
    · refine ww_iconst (v := nI 0) dX11_tax_33 (by decide) ?_
      refine ww_sti_n (lv2 := [.ref m, .int (nI q), .int (nI n), .int (nI 0), UU, UU]) dX11_tax_34 rfl rfl (by decide) rfl ?_
      refine ww_sipush (v := nI 9999) dX11_tax_35 (by decide) ?_
      refine ww_sti (lv2 := [.ref m, .int (nI q), .int (nI n), .int (nI 0), .int (nI 9999), UU]) dX11_tax_38 rfl (by decide) rfl ?_
      refine l_M_tax hst (h := hp_sF h m 0 (.int (nI 0))) (ModS.sF hM (by decide)) (hp_F_nj (by decide) hnp) h6 hf hc q n hq hn 9999 0 9999 (by omega) (by omega) (by omega) (by rw [gvN_0]; omega) (fun s e1 e2 => by omega) (fun t ht h1 h2 => ?_)
      have hcq := (hc q (by omega)).2
      have hf0 := (hc q (by omega)).1
      rw [txN_at h1 ht h2]
      refine ww_aload_n dX11_tax_81 rfl rfl ?_
      refine ww_get 33 dX11_tax_82 hM.K0 rfl (by decide) inX11 wg_1273 (hp_F_nj (by decide) hM.F14) ?_
      refine ww_sipush (v := nI 183) dX11_tax_85 (by decide) ?_
      refine ww_iload_n dX11_tax_88 rfl rfl ?_
      refine ww_iaddN dX11_tax_89 ?_
      refine ww_ialdF dX11_tax_90 hM.K14 hf (by omega) (by omega) ?_
      refine ww_iload_n dX11_tax_91 rfl rfl ?_
      refine ww_icmp_ge (tgt := 108) dX11_tax_92 (by decide) (fun c92 => ?_) (fun c92 => ?_)
      · refine ww_iload_n dX11_tax_108 rfl rfl ?_
        exact ww_iret dX11_tax_109 rfl ⟨by first | (rw [hf0] at c92; rw [show min (c q) t = t by have := (nI_leI (by omega) (by omega)).mp c92; omega]; done) | (rw [hf0] at c92 ⊢; rw [show min (c q) t = c q by have := mt (nI_leI (a := t) (b := c q) (by omega) (by omega)).mpr c92; omega]; done), (Same.rf.sF (SY0 m)), (hp_F_eq _ _ _ _)⟩
      · refine ww_aload_n dX11_tax_95 rfl rfl ?_
        refine ww_get 33 dX11_tax_96 hM.K0 rfl (by decide) inX11 wg_1273 (hp_F_nj (by decide) hM.F14) ?_
        refine ww_sipush (v := nI 183) dX11_tax_99 (by decide) ?_
        refine ww_iload_n dX11_tax_102 rfl rfl ?_
        refine ww_iaddN dX11_tax_103 ?_
        refine ww_ialdF dX11_tax_104 hM.K14 hf (by omega) (by omega) ?_
        refine ww_goto (tgt := 109) dX11_tax_105 (by decide) ?_
        exact ww_iret dX11_tax_109 rfl ⟨by first | (rw [hf0] at c92; rw [show min (c q) t = t by have := (nI_leI (by omega) (by omega)).mp c92; omega]; done) | (rw [hf0] at c92 ⊢; rw [show min (c q) t = c q by have := mt (nI_leI (a := t) (b := c q) (by omega) (by omega)).mpr c92; omega]; done), (Same.rf.sF (SY0 m)), (hp_F_eq _ _ _ _)⟩
    · exact absurd c28 (by decide)
set_option maxHeartbeats 4000000 in
set_option maxRecDepth 100000 in
theorem c_M_tax_no0 {l : Launch} {Z : EE} (hst : l.stackTraces = false) {h : PH} {m : Nat} (hM : ModS h m) {np : Nat} (hnp : hp_F h m 15 = .int (nI np)) (h6 : np ≤ 6) {f : Nat → Int32} (hf : hp_I h (m + 14) = f) (q : Int32) (n : Int32) (hout : outP np q) : CC l Z m_X11_tax 2 0 0 [.ref m, .int q, .int n] h (MNo 1 0 m h) := by
  refine ee_entry hst (by decide +kernel) rfl rfl (by simp [Value.category]) (Nat.le_of_ble_eq_true rfl) ?_
  refine ww_lv (lv2 := [.ref m, .int q, .int n, UU, UU, UU]) rfl ?_
  refine ww_aload_n dX11_tax_0 rfl rfl ?_
  refine ww_iconst (v := nI 0) dX11_tax_1 (by decide) ?_
  refine ww_pfI tyX11 0 dX11_tax_2 hM.K0 rfl (by decide) inX11 tyX11_ok nmX11 wg_1240 rfl rfl ?_
  refine ww_aload_n dX11_tax_5 rfl rfl ?_
  refine ww_iload_n dX11_tax_6 rfl rfl ?_
  refine ww_iconst (v := nI 1) dX11_tax_7 (by decide) ?_
  refine ww_cVr (M := m_X11_tax) (pc := 8) (v := .int (nI 0)) (h1 := hp_sI (hp_sF (hp_sF h m 0 (.int (nI 0))) m 0 (.int (nI 1))) (m + 1) (upd (hp_I (hp_sF h m 0 (.int (nI 0))) (m + 1)) 0 (hp_I (hp_sF h m 0 (.int (nI 0))) (m + 1) 0 + nI 1))) (st := []) (bc := 0) (bs := 0) (c_M_isPerson_f hst (h := hp_sF h m 0 (.int (nI 0))) (ModS.sF hM (by decide)) (hp_F_eq _ _ _ _) (hp_F_nj (by decide) hnp) h6 q hout) vv_X11_isPerson dX11_tax_8 wg_1612 hM.K0 rfl rfl rfl rfl (Nat.le_of_ble_eq_true rfl) (Nat.le_of_ble_eq_true rfl) (Nat.le_of_ble_eq_true rfl) (Nat.le_of_ble_eq_true rfl) ?_
  refine ww_if_eqN (tgt := 31) dX11_tax_11 (by decide) (by omega) (fun c11 => ?_) (fun c11 => ?_)
  · refine ww_iconst (v := nI 0) dX11_tax_31 (by decide) ?_
    exact ww_iret dX11_tax_32 rfl ⟨rfl, (((Same.rf.sF (SY0 m)).sF (SY0 m)).sI (Or.inr rfl)), (hp_F_eq _ _ _ _), by rw [hp_I_eq]; rfl⟩
  · exact absurd c11 (by decide)
set_option maxHeartbeats 4000000 in
set_option maxRecDepth 100000 in
theorem c_M_tax_no1 {l : Launch} {Z : EE} (hst : l.stackTraces = false) {h : PH} {m : Nat} (hM : ModS h m) {np : Nat} (hnp : hp_F h m 15 = .int (nI np)) (h6 : np ≤ 6) {f : Nat → Int32} (hf : hp_I h (m + 14) = f) (q : Nat) (hq : q < np) (n : Int32) (hout : outR 0 9999 n) : CC l Z m_X11_tax 2 0 0 [.ref m, .int (nI q), .int n] h (MNo 2 1 m h) := by
  refine ee_entry hst (by decide +kernel) rfl rfl (by simp [Value.category]) (Nat.le_of_ble_eq_true rfl) ?_
  refine ww_lv (lv2 := [.ref m, .int (nI q), .int n, UU, UU, UU]) rfl ?_
  refine ww_aload_n dX11_tax_0 rfl rfl ?_
  refine ww_iconst (v := nI 0) dX11_tax_1 (by decide) ?_
  refine ww_pfI tyX11 0 dX11_tax_2 hM.K0 rfl (by decide) inX11 tyX11_ok nmX11 wg_1240 rfl rfl ?_
  refine ww_aload_n dX11_tax_5 rfl rfl ?_
  refine ww_iload_n dX11_tax_6 rfl rfl ?_
  refine ww_iconst (v := nI 1) dX11_tax_7 (by decide) ?_
  refine ww_cVr (M := m_X11_tax) (pc := 8) (v := .int (nI 1)) (h1 := hp_sF h m 0 (.int (nI 0))) (st := []) (bc := 0) (bs := 0) (c_M_isPerson_t hst (h := hp_sF h m 0 (.int (nI 0))) (ModS.sF hM (by decide)) (hp_F_eq _ _ _ _) (hp_F_nj (by decide) hnp) h6 q hq) vv_X11_isPerson dX11_tax_8 wg_1612 hM.K0 rfl rfl rfl rfl (Nat.le_of_ble_eq_true rfl) (Nat.le_of_ble_eq_true rfl) (Nat.le_of_ble_eq_true rfl) (Nat.le_of_ble_eq_true rfl) ?_
  refine ww_if_eqN (tgt := 31) dX11_tax_11 (by decide) (by omega) (fun c11 => ?_) (fun c11 => ?_)
  · exact absurd c11 (by decide)
  · refine ww_aload_n dX11_tax_14 rfl rfl ?_
    refine ww_iload_n dX11_tax_15 rfl rfl ?_
    refine ww_iconst (v := nI 0) dX11_tax_16 (by decide) ?_
    refine ww_sipush (v := nI 9999) dX11_tax_17 (by decide) ?_
    refine ww_cSr (M := m_X11_tax) (pc := 20) (v := .int (nI 0)) (h1 := hp_sF h m 0 (.int (nI 0))) (st := [.ref m]) (bc := 0) (bs := 0) (c_M_within_f hst n (nI 0) (nI 9999) hout _) vv_X11_within dX11_tax_20 wg_1601 rfl rfl rfl (Nat.le_of_ble_eq_true rfl) (Nat.le_of_ble_eq_true rfl) (Nat.le_of_ble_eq_true rfl) (Nat.le_of_ble_eq_true rfl) ?_
    refine ww_iconst (v := nI 2) dX11_tax_23 (by decide) ?_
    refine ww_iconst (v := nI 1) dX11_tax_24 (by decide) ?_
    refine ww_cVr (M := m_X11_tax) (pc := 25) (v := .int (nI 0)) (h1 := hp_sI (hp_sF (hp_sF h m 0 (.int (nI 0))) m 0 (.int (nI 2))) (m + 1) (upd (hp_I (hp_sF h m 0 (.int (nI 0))) (m + 1)) 1 (hp_I (hp_sF h m 0 (.int (nI 0))) (m + 1) 1 + nI 1))) (st := []) (bc := 0) (bs := 0) (c_M_may_f hst (h := hp_sF h m 0 (.int (nI 0))) (ModS.sF hM (by decide)) (hp_F_eq _ _ _ _) 2 1 (by decide) (by decide) (by decide)) vv_X11_may dX11_tax_25 wg_1413 hM.K0 rfl rfl rfl rfl (Nat.le_of_ble_eq_true rfl) (Nat.le_of_ble_eq_true rfl) (Nat.le_of_ble_eq_true rfl) (Nat.le_of_ble_eq_true rfl) ?_
    refine ww_if_neN (tgt := 33) dX11_tax_28 (by decide) (by omega) (fun c28 => ?_) (fun c28 => ?_)
    · exact absurd c28 (by decide)
    · refine ww_iconst (v := nI 0) dX11_tax_31 (by decide) ?_
      exact ww_iret dX11_tax_32 rfl ⟨rfl, (((Same.rf.sF (SY0 m)).sF (SY0 m)).sI (Or.inr rfl)), (hp_F_eq _ _ _ _), by rw [hp_I_eq]; rfl⟩
theorem upd_ne {f : Nat → Int32} {k : Nat} (x : Int32) (j : Nat) (h : j ≠ k) : upd f k x j = f j := pk_un h
theorem upd_eq {f : Nat → Int32} {k : Nat} {x : Int32} : upd f k x k = x := pk_us
def afN (c : Nat → Nat) : Nat → Nat → Nat → Nat
  | 0, k, _ => k
  | j + 1, k, x => if x < c k then k else afN c j (k + 1) (x - c k)
/-- the fare for the k-th use from now on -/
def fuT (f : Nat → Int32) (sz : Nat) (kf vf : Nat → Int32) (n w k : Nat) : Int32 := askV joinC (joinC (nI 5)) sz kf vf (nI n) (f (61 + n)) (nI w) (f n) (f (122 + n) + nI k) (f 189) (js_parts.getD n 0)
def fuN (f : Nat → Int32) (sz : Nat) (kf vf : Nat → Int32) (n w k : Nat) : Nat := (fuT f sz kf vf n w k).toNatClampNeg
theorem fuN_ok (f : Nat → Int32) (sz : Nat) (kf vf : Nat → Int32) (n w k : Nat) : fuT f sz kf vf n w k = nI (fuN f sz kf vf n w k) ∧ fuN f sz kf vf n w k ≤ 99 := by
  obtain ⟨v, hv, e⟩ := clF_nat (askR joinC (joinC (nI 5)) sz kf vf (nI n) (f (61 + n)) (nI w) (f n) (f (122 + n) + nI k) (f 189) (js_parts.getD n 0))
  have e2 : fuT f sz kf vf n w k = nI v := e
  unfold fuN
  rw [e2, nI_clamp (by omega)]
  exact ⟨rfl, hv⟩
def afM (sz : Nat) (kf vf : Nat → Int32) (q n w : Nat) : Nat → Nat → (Nat → Int32) → Nat
  | 0, k, _ => k
  | j + 1, k, g => if (useF g q n (fareC g sz kf vf n w)).1 = true then afM sz kf vf q n w j (k + 1) (useF g q n (fareC g sz kf vf n w)).2 else k
theorem afN_le (c : Nat → Nat) : ∀ j k x, afN c j k x ≤ k + j
  | 0, k, x => Nat.le_refl _
  | j + 1, k, x => by
    simp only [afN]
    split
    · omega
    · have := afN_le c j (k + 1) (x - c k); omega
theorem useF_1 {g : Nat → Int32} {q n : Nat} {c : Int32} (h : g n = nI q) : useF g q n c = (true, upd g (122 + n) (g (122 + n) + nI 1)) := if_pos h
theorem useF_2 {g : Nat → Int32} {q n : Nat} {c : Int32} (h : ¬ g n = nI q) (h2 : c ≤ g (183 + q)) : useF g q n c = (true, upd (payF g q (g n) c) (122 + n) (payF g q (g n) c (122 + n) + nI 1)) := by unfold useF; rw [if_neg h, if_pos h2]
theorem useF_3 {g : Nat → Int32} {q n : Nat} {c : Int32} (h : ¬ g n = nI q) (h2 : ¬ c ≤ g (183 + q)) : useF g q n c = (false, g) := by unfold useF; rw [if_neg h, if_neg h2]
theorem payF_ne {g : Nat → Int32} {p : Nat} {o c : Int32} {i : Nat} (h1 : i ≠ 183 + p) (h2 : i < 183 ∨ 189 ≤ i) (ho : isOw o) : payF g p o c i = g i := by
  unfold payF
  rcases ho with rfl | ⟨t, ht, rfl⟩
  · rw [if_pos rfl, upd_ne _ _ h1]
  · rw [if_neg (nI_nm1 t ht), nI_clamp (by omega), upd_ne _ _ (by omega), upd_ne _ _ h1]
theorem payF_q {g : Nat → Int32} {p : Nat} {o c : Int32} (ho : isOw o) (hop : ¬ o = nI p) : payF g p o c (183 + p) = g (183 + p) - c := by
  unfold payF
  rcases ho with rfl | ⟨t, ht, rfl⟩
  · rw [if_pos rfl, upd_eq]
  · have htp : t ≠ p := fun e => hop (by rw [e])
    rw [if_neg (nI_nm1 t ht), nI_clamp (by omega), upd_ne _ _ (by omega), upd_eq]
theorem useF_n {g : Nat → Int32} {q n : Nat} {c : Int32} (hq : q < 6) (hn : n ≤ 60) (ho : isOw (g n)) : (useF g q n c).2 n = g n := by
  unfold useF
  split
  · exact upd_ne _ _ (by omega)
  · split
    · show upd (payF g q (g n) c) (122 + n) _ n = g n
      rw [upd_ne _ _ (by omega), payF_ne (by omega) (by omega) ho]
    · rfl
theorem useF_q {g : Nat → Int32} {q n : Nat} {c : Nat} (hq : q < 6) (hn : n ≤ 60) (ho : isOw (g n)) (hc : c ≤ 99) {x : Nat} (hx : x ≤ 9999) (hgx : g (183 + q) = nI x) : ∃ y, y ≤ 9999 ∧ (useF g q n (nI c)).2 (183 + q) = nI y := by
  by_cases h1 : g n = nI q
  · rw [useF_1 h1]; exact ⟨x, hx, (upd_ne _ _ (by omega)).trans hgx⟩
  · by_cases h2 : nI c ≤ g (183 + q)
    · rw [useF_2 h1 h2]
      have h3 : c ≤ x := (nI_leI (by omega) (by omega)).mp (hgx ▸ h2)
      refine ⟨x - c, by omega, ?_⟩
      show upd (payF g q (g n) (nI c)) (122 + n) _ (183 + q) = _
      rw [upd_ne _ _ (by omega), payF_q ho h1, hgx, pk_sub h3]
    · rw [useF_3 h1 h2]; exact ⟨x, hx, hgx⟩
theorem afM_own {sz : Nat} {kf vf : Nat → Int32} {q n w : Nat} (hq : q < 6) (hn : n ≤ 60) : ∀ j k (g : Nat → Int32), g n = nI q → afM sz kf vf q n w j k g = k + j
  | 0, k, g, _ => rfl
  | j + 1, k, g, h => by
    simp only [afM, useF_1 h, if_true]
    rw [afM_own hq hn j (k + 1) _ ((upd_ne _ _ (by omega)).trans h)]; omega
theorem afM_none {sz : Nat} {kf vf : Nat → Int32} {q n w : Nat} (hq : q < 6) (hn : n ≤ 60) : ∀ j k (g : Nat → Int32), g n = -1 → (∃ x, x ≤ 9999 ∧ g (183 + q) = nI x) → afM sz kf vf q n w j k g = k + j
  | 0, k, g, _, _ => rfl
  | j + 1, k, g, h, ⟨x, hx, hgx⟩ => by
    have hne : ¬ g n = nI q := by rw [h]; exact fun e => nI_nm1 q hq e.symm
    have hf : fareC g sz kf vf n w = nI 0 := by unfold fareC; rw [if_pos h]; rfl
    have hle : nI 0 ≤ g (183 + q) := by rw [hgx]; exact nI_le (by omega) (by omega)
    have h9 := useF_n (c := nI 0) hq hn (Or.inl h : isOw (g n))
    have h8 := useF_q (c := 0) hq hn (Or.inl h : isOw (g n)) (by omega) hx hgx
    simp only [afM, hf]
    rw [if_pos (by rw [useF_2 hne hle]), afM_none hq hn j (k + 1) _ (h9.trans h) h8]; omega
theorem afM_eq {f : Nat → Int32} {sz : Nat} {kf vf : Nat → Int32} {q n w : Nat} (hq : q < 6) (hn : n ≤ 60) (ho : isOw (f n)) (h1 : ¬ f n = nI q) (h2 : ¬ f n = -1) : ∀ j k (g : Nat → Int32) (x : Nat), x ≤ 9999 → g n = f n → g (61 + n) = f (61 + n) → g 189 = f 189 → g (122 + n) = f (122 + n) + nI k → g (183 + q) = nI x → afM sz kf vf q n w j k g = afN (fuN f sz kf vf n w) j k x
  | 0, k, g, x, _, _, _, _, _, _ => rfl
  | j + 1, k, g, x, hx, e1, e2, e3, e4, e5 => by
    obtain ⟨c1, c2⟩ := fuN_ok f sz kf vf n w k
    have hf : fareC g sz kf vf n w = nI (fuN f sz kf vf n w k) := by
      rw [← c1]; unfold fareC fuT; rw [if_neg (by rw [e1]; exact h2), e1, e2, e3, e4]
    have ho' : isOw (g n) := by rw [e1]; exact ho
    have h1' : ¬ g n = nI q := by rw [e1]; exact h1
    simp only [afM, afN, hf]
    by_cases hlt : x < fuN f sz kf vf n w k
    · rw [if_pos hlt, useF_3 h1' (by rw [e5]; exact nI_ge hlt (by omega)), if_neg (fun e => by cases e)]
    · have hle : nI (fuN f sz kf vf n w k) ≤ g (183 + q) := by rw [e5]; exact nI_le (by omega) (by omega)
      rw [if_neg hlt, useF_2 h1' hle, if_pos rfl]
      refine afM_eq hq hn ho h1 h2 j (k + 1) _ (x - fuN f sz kf vf n w k) (by omega) ?_ ?_ ?_ ?_ ?_
      · show upd _ (122 + n) _ n = _; rw [upd_ne _ _ (by omega), payF_ne (by omega) (by omega) ho', e1]
      · show upd _ (122 + n) _ (61 + n) = _; rw [upd_ne _ _ (by omega), payF_ne (by omega) (by omega) ho', e2]
      · show upd _ (122 + n) _ 189 = _; rw [upd_ne _ _ (by omega), payF_ne (by omega) (by omega) ho', e3]
      · show upd _ (122 + n) _ (122 + n) = _; rw [upd_eq, payF_ne (by omega) (by omega) ho', e4, Int32.add_assoc, nI_add]
      · show upd _ (122 + n) _ (183 + q) = _; rw [upd_ne _ _ (by omega), payF_q ho' h1', e5, pk_sub (by omega)]
def afC (f : Nat → Int32) (sz : Nat) (kf vf : Nat → Int32) (q n w : Nat) : Nat := if f n = -1 then 999 else if f n = nI q then 999 else afN (fuN f sz kf vf n w) 999 0 (coN f q)
theorem afM_all {f g : Nat → Int32} {sz : Nat} {kf vf : Nat → Int32} {q n w np : Nat} (hfg : ∀ i, i < 190 → g i = f i) (hr : RowOK f np) (h6 : np ≤ 6) (hq : q < 6) (hn : n ≤ 60) : afM sz kf vf q n w 999 0 g = afC f sz kf vf q n w := by
  obtain ⟨x1, x2⟩ := hr.co q hq
  unfold afC
  by_cases h1 : f n = -1
  · rw [if_pos h1, afM_none hq hn 999 0 g ((hfg n (by omega)).trans h1) ⟨_, x2, (hfg _ (by omega)).trans x1⟩]
  · rw [if_neg h1]
    by_cases h2 : f n = nI q
    · rw [if_pos h2, afM_own hq hn 999 0 g ((hfg n (by omega)).trans h2)]
    · rw [if_neg h2, afM_eq hq hn (hr.ow h6 hn) h2 h1 999 0 g _ x2 (hfg _ (by omega)) (hfg _ (by omega)) (hfg _ (by omega)) (by rw [hfg _ (by omega), nI_0, Int32.add_zero]) ((hfg _ (by omega)).trans x1)]
theorem c_Law_asksU {l : Launch} {Z : EE} (hst : l.stackTraces = false) {h : PH} {b sz : Nat} {kf vf f : Nat → Int32} (hW : LawAt h b sz kf vf) (hok : LawOK kf vf sz) (n : Nat) (hn : n ≤ 60) (w : Nat) (hw : w ≤ 2) (k : Nat) : CC l Z m_X3_asks 2 0 0 [.ref b, .int (nI n), .int (f (61 + n)), .int (nI w), .int (f n), .int (f (122 + n) + nI k), .int (f 189)] h (RQ (some (.int (nI (fuN f sz kf vf n w k)))) (Same (fun c => c = b + 3 ∨ c = b + 4) (fun _ _ => False) h)) := by
  rw [← (fuN_ok f sz kf vf n w k).1]
  exact c_Law_asks hst hW hok n hn _ w hw _ _ _
set_option maxHeartbeats 4000000 in
set_option maxRecDepth 100000 in
theorem l_K_affords {l : Launch} {Z : EE} (hst : l.stackTraces = false) {h : PH} {la lw bk : Nat} (hC : CL h la lw bk) {np du : Nat} {f : Nat → Int32} (hL : LandAt h la np du f) {sz : Nat} {kf vf : Nat → Int32} (hW : LawAt h lw sz kf vf) (hok : LawOK kf vf sz) (q n w : Nat) (hn9 : n ≤ 60) (hw9 : w ≤ 2) : ∀ (j k x : Nat) (hq1 : PH), Same CX CY h hq1 → k + j = 999 → x ≤ 9999 → WW l Z m_X10_affords 4 0 0 56 [.ref 0, .int (nI q), .int (nI n), .int (nI w), .int (f n), .int (nI x), .int (nI k)] [] hq1 (COk (nI (afN (fuN f sz kf vf n w) j k x)) h) := by
  have hla := hC.la
  have hlw := hC.lw
  have hbk := hC.bk
  intro j
  induction j with
  | zero =>
    intro k x hq1 s1 hk hx
    have hC1 := hC.scr s1
    have hL1 := hL.scr hC s1
    have hW1 := hW.scr hC s1
    have hk0 : k = 999 := by omega
    subst hk0
    refine ww_iload dX10_affords_56 rfl ?_
    refine ww_sipush (v := nI 999) dX10_affords_58 (by decide) ?_
    refine ww_icmp_geN (tgt := 120) dX10_affords_61 (by decide) (by omega) (by omega) (fun c61 => ?_) (fun c61 => ?_)
    · refine ww_sipush (v := nI 999) dX10_affords_120 (by decide) ?_
      exact ww_iret dX10_affords_123 rfl ⟨rfl, s1⟩
    · exfalso; omega
  | succ j ih =>
    intro k x hq1 s1 hk hx
    have hC1 := hC.scr s1
    have hL1 := hL.scr hC s1
    have hW1 := hW.scr hC s1
    have hfu := (fuN_ok f sz kf vf n w k).2
    refine ww_iload dX10_affords_56 rfl ?_
    refine ww_sipush (v := nI 999) dX10_affords_58 (by decide) ?_
    refine ww_icmp_geN (tgt := 120) dX10_affords_61 (by decide) (by omega) (by omega) (fun c61 => ?_) (fun c61 => ?_)
    · exfalso; omega
    · refine ww_iload dX10_affords_64 rfl ?_
      refine ww_aload_n dX10_affords_66 rfl rfl ?_
      refine ww_get 3 dX10_affords_67 (hC1.K0) rfl (by decide) inX10 wg_267 hC1.D3 ?_
      refine ww_iload_n dX10_affords_70 rfl rfl ?_
      refine ww_aload_n dX10_affords_71 rfl rfl ?_
      refine ww_get 1 dX10_affords_72 (hC1.K0) rfl (by decide) inX10 wg_265 hC1.D1 ?_
      refine ww_iload_n dX10_affords_75 rfl rfl ?_
      refine ww_cVr (M := m_X10_affords) (pc := 76) (v := .int (f (61 + n))) (h1 := hq1) (st := [.int (nI n), .ref lw, .int (nI x)]) (bc := 0) (bs := 0) (c_Land_rent hst hL1 n (by omega)) vv_X2_rent dX10_affords_76 wg_853 hL1.1 rfl rfl rfl rfl (Nat.le_of_ble_eq_true rfl) (Nat.le_of_ble_eq_true rfl) (Nat.le_of_ble_eq_true rfl) (Nat.le_of_ble_eq_true rfl) ?_
      refine ww_iload_n dX10_affords_79 rfl rfl ?_
      refine ww_iload dX10_affords_80 rfl ?_
      refine ww_aload_n dX10_affords_82 rfl rfl ?_
      refine ww_get 1 dX10_affords_83 (hC1.K0) rfl (by decide) inX10 wg_265 hC1.D1 ?_
      refine ww_iload_n dX10_affords_86 rfl rfl ?_
      refine ww_cVr (M := m_X10_affords) (pc := 87) (v := .int (f (122 + n))) (h1 := hq1) (st := [.int (f n), .int (nI w), .int (f (61 + n)), .int (nI n), .ref lw, .int (nI x)]) (bc := 0) (bs := 0) (c_Land_used hst hL1 n (by omega)) vv_X2_used dX10_affords_87 wg_854 hL1.1 rfl rfl rfl rfl (Nat.le_of_ble_eq_true rfl) (Nat.le_of_ble_eq_true rfl) (Nat.le_of_ble_eq_true rfl) (Nat.le_of_ble_eq_true rfl) ?_
      refine ww_iload dX10_affords_90 rfl ?_
      refine ww_iadd dX10_affords_92 ?_
      refine ww_aload_n dX10_affords_93 rfl rfl ?_
      refine ww_get 1 dX10_affords_94 (hC1.K0) rfl (by decide) inX10 wg_265 hC1.D1 ?_
      refine ww_cVr (M := m_X10_affords) (pc := 97) (v := .int (f 189)) (h1 := hq1) (st := [.int ((f (122 + n)) + (nI k)), .int (f n), .int (nI w), .int (f (61 + n)), .int (nI n), .ref lw, .int (nI x)]) (bc := 0) (bs := 0) (c_Land_day hst hL1) vv_X2_day dX10_affords_97 wg_778 hL1.1 rfl rfl rfl rfl (Nat.le_of_ble_eq_true rfl) (Nat.le_of_ble_eq_true rfl) (Nat.le_of_ble_eq_true rfl) (Nat.le_of_ble_eq_true rfl) ?_
      refine ww_cVq (M := m_X10_affords) (pc := 100) (v := .int (nI (fuN f sz kf vf n w k))) (st := [.int (nI x)]) (bc := 0) (bs := 0) (c_Law_asksU hst hW1 hok n hn9 w hw9 k) vv_X3_asks dX10_affords_100 wg_874 hW1.1 rfl rfl rfl rfl (Nat.le_of_ble_eq_true rfl) (Nat.le_of_ble_eq_true rfl) (Nat.le_of_ble_eq_true rfl) (Nat.le_of_ble_eq_true rfl) (fun hq2 qq2 => ?_)
      have s2 : Same CX CY h hq2 := s1.tr (qq2.law hC.lw)
      have hC2 := hC.scr s2
      have hL2 := hL.scr hC s2
      have hW2 := hW.scr hC s2
      refine ww_isub dX10_affords_103 ?_
      refine ww_sti (lv2 := [.ref 0, .int (nI q), .int (nI n), .int (nI w), .int (f n), .int ((nI x) - (nI (fuN f sz kf vf n w k))), .int (nI k)]) dX10_affords_104 rfl (by decide) rfl ?_
      refine ww_iload dX10_affords_106 rfl ?_
      refine ww_if_ge (tgt := 114) dX10_affords_108 (by decide) (fun c108 => ?_) (fun c108 => ?_)
      · refine ww_incN (c := 1) (lv2 := [.ref 0, .int (nI q), .int (nI n), .int (nI w), .int (f n), .int ((nI x) - (nI (fuN f sz kf vf n w k))), .int (nI (k + 1))]) dX10_affords_114 rfl rfl rfl (by decide) rfl ?_
        refine ww_goto (tgt := 56) dX10_affords_117 (by decide) ?_
        have hle : fuN f sz kf vf n w k ≤ x := by rcases Nat.lt_or_ge x (fuN f sz kf vf n w k) with e | e; exact absurd (pk_sneg (by omega) e) (Int32.not_lt.mpr c108); exact e
        refine ww_post (fun r h9 hp => ?_) (ih (k + 1) (x - fuN f sz kf vf n w k) hq2 s2 (by omega) (by omega) |> ww_lv (by rw [pk_sub hle]))
        rw [show afN (fuN f sz kf vf n w) (j + 1) k x = afN (fuN f sz kf vf n w) j (k + 1) (x - fuN f sz kf vf n w k) by simp only [afN]; rw [if_neg (by omega)]]
        exact hp
      · refine ww_iload dX10_affords_111 rfl ?_
        exact ww_iret dX10_affords_113 rfl ⟨by rw [show afN (fuN f sz kf vf n w) (j + 1) k x = k by simp only [afN]; rw [if_pos (by rcases Nat.lt_or_ge x (fuN f sz kf vf n w k) with e | e; exact e; exact absurd (by rw [pk_sub e]; exact nI_pos' (by omega)) c108)]], s2⟩
set_option maxHeartbeats 4000000 in
set_option maxRecDepth 100000 in
theorem c_K_affords {l : Launch} {Z : EE} (hst : l.stackTraces = false) {h : PH} {la lw bk : Nat} (hC : CL h la lw bk) {np du : Nat} {f : Nat → Int32} (hL : LandAt h la np du f) {sz : Nat} {kf vf : Nat → Int32} (hW : LawAt h lw sz kf vf) (hok : LawOK kf vf sz) (hr : RowOK f np) (q : Nat) (hq : q < np) (n : Nat) (hn : n ≤ 60) (w : Nat) (lw : 0 ≤ w) (hw : w ≤ 2) : CC l Z m_X10_affords 4 0 0 [.ref 0, .int (nI q), .int (nI n), .int (nI w)] h (COk (nI (afC f sz kf vf q n w)) h) := by
  refine ee_entry hst (by decide +kernel) rfl rfl (by simp [Value.category]) (Nat.le_of_ble_eq_true rfl) ?_
  refine ww_lv (lv2 := [.ref 0, .int (nI q), .int (nI n), .int (nI w), UU, UU, UU]) rfl ?_
  have hla := hC.la
  have hlw := hC.lw
  have hbk := hC.bk
  have hnp := hL.2.2.2.2.2.2.1
  refine ww_aload_n dX10_affords_0 rfl rfl ?_
  refine ww_iload_n dX10_affords_1 rfl rfl ?_
  refine ww_cV0 (M := m_X10_affords) (pc := 2) (h1 := h) (st := []) (bc := 0) (bs := 0) (c_needPerson_t hst hC.K0 hC.D1 hL.1 hL.2.2.2.1 hL.2.2.2.2.2.2.1 q hq) vv_X10_needPerson dX10_affords_2 wg_803 (hC.K0) rfl rfl rfl rfl (Nat.le_of_ble_eq_true rfl) (Nat.le_of_ble_eq_true rfl) (Nat.le_of_ble_eq_true rfl) (Nat.le_of_ble_eq_true rfl) ?_
  refine ww_aload_n dX10_affords_5 rfl rfl ?_
  refine ww_iload_n dX10_affords_6 rfl rfl ?_
  refine ww_cV0 (M := m_X10_affords) (pc := 7) (h1 := h) (st := []) (bc := 0) (bs := 0) (c_needNumber_t hst hC.K0 n hn) vv_X10_needNumber dX10_affords_7 wg_847 (hC.K0) rfl rfl rfl rfl (Nat.le_of_ble_eq_true rfl) (Nat.le_of_ble_eq_true rfl) (Nat.le_of_ble_eq_true rfl) (Nat.le_of_ble_eq_true rfl) ?_
  refine ww_aload_n dX10_affords_10 rfl rfl ?_
  refine ww_iload_n dX10_affords_11 rfl rfl ?_
  refine ww_iconst (v := nI 0) dX10_affords_12 (by decide) ?_
  refine ww_iconst (v := nI 2) dX10_affords_13 (by decide) ?_
  refine ww_cV0 (M := m_X10_affords) (pc := 14) (h1 := h) (st := []) (bc := 0) (bs := 0) (c_within_t hst (nI w) (nI 0) (nI 2) (nI_le (by omega) (by omega)) (nI_le (by omega) (by omega)) _) vv_X10_within dX10_affords_14 wg_410 (hC.K0) rfl rfl rfl rfl (Nat.le_of_ble_eq_true rfl) (Nat.le_of_ble_eq_true rfl) (Nat.le_of_ble_eq_true rfl) (Nat.le_of_ble_eq_true rfl) ?_
  refine ww_aload_n dX10_affords_17 rfl rfl ?_
  refine ww_get 1 dX10_affords_18 (hC.K0) rfl (by decide) inX10 wg_265 hC.D1 ?_
  refine ww_iload_n dX10_affords_21 rfl rfl ?_
  refine ww_cVr (M := m_X10_affords) (pc := 22) (v := .int (f n)) (h1 := h) (st := []) (bc := 0) (bs := 0) (c_Land_owner hst hL n (by omega)) vv_X2_owner dX10_affords_22 wg_852 hL.1 rfl rfl rfl rfl (Nat.le_of_ble_eq_true rfl) (Nat.le_of_ble_eq_true rfl) (Nat.le_of_ble_eq_true rfl) (Nat.le_of_ble_eq_true rfl) ?_
  refine ww_sti (lv2 := [.ref 0, .int (nI q), .int (nI n), .int (nI w), .int (f n), UU, UU]) dX10_affords_25 rfl (by decide) rfl ?_
  refine ww_iload dX10_affords_27 rfl ?_
  refine ww_iconst (v := -1) dX10_affords_29 (by decide) ?_
  refine ww_icmp_eq (tgt := 39) dX10_affords_30 (by decide) (fun c30 => ?_) (fun c30 => ?_)
  · refine ww_sipush (v := nI 999) dX10_affords_39 (by decide) ?_
    exact ww_iret dX10_affords_42 rfl ⟨by unfold afC; first | (rw [if_pos c30]; done) | (rw [if_neg c30, if_pos c36]; done), Same.rf⟩
  · refine ww_iload dX10_affords_33 rfl ?_
    refine ww_iload_n dX10_affords_35 rfl rfl ?_
    refine ww_icmp_ne (tgt := 43) dX10_affords_36 (by decide) (fun c36 => ?_) (fun c36 => ?_)
    · refine ww_aload_n dX10_affords_43 rfl rfl ?_
      refine ww_get 1 dX10_affords_44 (hC.K0) rfl (by decide) inX10 wg_265 hC.D1 ?_
      refine ww_iload_n dX10_affords_47 rfl rfl ?_
      refine ww_cVr (M := m_X10_affords) (pc := 48) (v := .int (nI (coN f q))) (h1 := h) (st := []) (bc := 0) (bs := 0) (c_Land_coN hst hL hr.co q (by omega)) vv_X2_coins dX10_affords_48 wg_823 hL.1 rfl rfl rfl rfl (Nat.le_of_ble_eq_true rfl) (Nat.le_of_ble_eq_true rfl) (Nat.le_of_ble_eq_true rfl) (Nat.le_of_ble_eq_true rfl) ?_
      refine ww_sti (lv2 := [.ref 0, .int (nI q), .int (nI n), .int (nI w), .int (f n), .int (nI (coN f q)), UU]) dX10_affords_51 rfl (by decide) rfl ?_
      refine ww_iconst (v := nI 0) dX10_affords_53 (by decide) ?_
      refine ww_sti (lv2 := [.ref 0, .int (nI q), .int (nI n), .int (nI w), .int (f n), .int (nI (coN f q)), .int (nI 0)]) dX10_affords_54 rfl (by decide) rfl ?_
      refine ww_post (fun r h9 hp => ?_) (l_K_affords hst hC hL hW hok q n w hn hw 999 0 (coN f q) h Same.rf rfl (hr.co q (by omega)).2)
      rw [show afC f sz kf vf q n w = afN (fuN f sz kf vf n w) 999 0 (coN f q) by unfold afC; rw [if_neg c30, if_neg c36]]
      exact hp
    · refine ww_sipush (v := nI 999) dX10_affords_39 (by decide) ?_
      exact ww_iret dX10_affords_42 rfl ⟨by unfold afC; first | (rw [if_pos c30]; done) | (rw [if_neg c30, if_pos c36]; done), Same.rf⟩
set_option maxHeartbeats 4000000 in
set_option maxRecDepth 100000 in
theorem c_K_affords_no0 {l : Launch} {Z : EE} (hst : l.stackTraces = false) {h : PH} {la lw bk : Nat} (hC : CL h la lw bk) {np du : Nat} {f : Nat → Int32} (hL : LandAt h la np du f) {sz : Nat} {kf vf : Nat → Int32} (hW : LawAt h lw sz kf vf) (hok : LawOK kf vf sz) {mi : Int32} (hmi : hp_F h 0 12 = .int mi) (q : Int32) (n : Int32) (w : Int32) (hout : outP np q) : CC l Z m_X10_affords 7 1 6 [.ref 0, .int q, .int n, .int w] h (TH nsX (hp_sF h 0 12 (.int (mi + nI 1)))) := by
  refine ee_entry hst (by decide +kernel) rfl rfl (by simp [Value.category]) (Nat.le_of_ble_eq_true rfl) ?_
  refine ww_lv (lv2 := [.ref 0, .int q, .int n, .int w, UU, UU, UU]) rfl ?_
  have hla := hC.la
  have hlw := hC.lw
  have hbk := hC.bk
  refine ww_aload_n dX10_affords_0 rfl rfl ?_
  refine ww_iload_n dX10_affords_1 rfl rfl ?_
  exact ww_cVt (M := m_X10_affords) (pc := 2) (st := []) (bc := 0) (bs := 0) (c_needPerson_f hst hC.K0 hC.D1 hL.1 hL.2.2.2.1 hL.2.2.2.2.2.2.1 hmi q hout) vv_X10_needPerson dX10_affords_2 wg_803 (hC.K0) rfl rfl rfl rfl (Nat.le_of_ble_eq_true rfl) (Nat.le_of_ble_eq_true rfl) (Nat.le_of_ble_eq_true rfl) (Nat.le_of_ble_eq_true rfl) ⟨rfl, rfl⟩
set_option maxHeartbeats 4000000 in
set_option maxRecDepth 100000 in
theorem c_K_affords_no1 {l : Launch} {Z : EE} (hst : l.stackTraces = false) {h : PH} {la lw bk : Nat} (hC : CL h la lw bk) {np du : Nat} {f : Nat → Int32} (hL : LandAt h la np du f) {sz : Nat} {kf vf : Nat → Int32} (hW : LawAt h lw sz kf vf) (hok : LawOK kf vf sz) {mi : Int32} (hmi : hp_F h 0 12 = .int mi) (q : Nat) (hq : q < np) (n : Int32) (w : Int32) (hout : outR 0 60 n) : CC l Z m_X10_affords 7 1 6 [.ref 0, .int (nI q), .int n, .int w] h (TH nsX (hp_sF h 0 12 (.int (mi + nI 1)))) := by
  refine ee_entry hst (by decide +kernel) rfl rfl (by simp [Value.category]) (Nat.le_of_ble_eq_true rfl) ?_
  refine ww_lv (lv2 := [.ref 0, .int (nI q), .int n, .int w, UU, UU, UU]) rfl ?_
  have hla := hC.la
  have hlw := hC.lw
  have hbk := hC.bk
  refine ww_aload_n dX10_affords_0 rfl rfl ?_
  refine ww_iload_n dX10_affords_1 rfl rfl ?_
  refine ww_cV0 (M := m_X10_affords) (pc := 2) (h1 := h) (st := []) (bc := 1) (bs := 6) (c_needPerson_t hst hC.K0 hC.D1 hL.1 hL.2.2.2.1 hL.2.2.2.2.2.2.1 q hq) vv_X10_needPerson dX10_affords_2 wg_803 (hC.K0) rfl rfl rfl rfl (Nat.le_of_ble_eq_true rfl) (Nat.le_of_ble_eq_true rfl) (Nat.le_of_ble_eq_true rfl) (Nat.le_of_ble_eq_true rfl) ?_
  refine ww_aload_n dX10_affords_5 rfl rfl ?_
  refine ww_iload_n dX10_affords_6 rfl rfl ?_
  exact ww_cVt (M := m_X10_affords) (pc := 7) (st := []) (bc := 0) (bs := 0) (c_needNumber_f hst hC.K0 hmi n hout) vv_X10_needNumber dX10_affords_7 wg_847 (hC.K0) rfl rfl rfl rfl (Nat.le_of_ble_eq_true rfl) (Nat.le_of_ble_eq_true rfl) (Nat.le_of_ble_eq_true rfl) (Nat.le_of_ble_eq_true rfl) ⟨rfl, rfl⟩
set_option maxHeartbeats 4000000 in
set_option maxRecDepth 100000 in
theorem c_K_affords_no2 {l : Launch} {Z : EE} (hst : l.stackTraces = false) {h : PH} {la lw bk : Nat} (hC : CL h la lw bk) {np du : Nat} {f : Nat → Int32} (hL : LandAt h la np du f) {sz : Nat} {kf vf : Nat → Int32} (hW : LawAt h lw sz kf vf) (hok : LawOK kf vf sz) {wr : Int32} (hwr : hp_F h 0 13 = .int wr) (q : Nat) (hq : q < np) (n : Nat) (hn : n ≤ 60) (w : Int32) (hout : ¬ (nI 0 ≤ w ∧ w ≤ nI 2)) : CC l Z m_X10_affords 7 1 6 [.ref 0, .int (nI q), .int (nI n), .int w] h (TH iaX (hp_sF h 0 13 (.int (wr + nI 1)))) := by
  refine ee_entry hst (by decide +kernel) rfl rfl (by simp [Value.category]) (Nat.le_of_ble_eq_true rfl) ?_
  refine ww_lv (lv2 := [.ref 0, .int (nI q), .int (nI n), .int w, UU, UU, UU]) rfl ?_
  have hla := hC.la
  have hlw := hC.lw
  have hbk := hC.bk
  refine ww_aload_n dX10_affords_0 rfl rfl ?_
  refine ww_iload_n dX10_affords_1 rfl rfl ?_
  refine ww_cV0 (M := m_X10_affords) (pc := 2) (h1 := h) (st := []) (bc := 1) (bs := 6) (c_needPerson_t hst hC.K0 hC.D1 hL.1 hL.2.2.2.1 hL.2.2.2.2.2.2.1 q hq) vv_X10_needPerson dX10_affords_2 wg_803 (hC.K0) rfl rfl rfl rfl (Nat.le_of_ble_eq_true rfl) (Nat.le_of_ble_eq_true rfl) (Nat.le_of_ble_eq_true rfl) (Nat.le_of_ble_eq_true rfl) ?_
  refine ww_aload_n dX10_affords_5 rfl rfl ?_
  refine ww_iload_n dX10_affords_6 rfl rfl ?_
  refine ww_cV0 (M := m_X10_affords) (pc := 7) (h1 := h) (st := []) (bc := 1) (bs := 6) (c_needNumber_t hst hC.K0 n hn) vv_X10_needNumber dX10_affords_7 wg_847 (hC.K0) rfl rfl rfl rfl (Nat.le_of_ble_eq_true rfl) (Nat.le_of_ble_eq_true rfl) (Nat.le_of_ble_eq_true rfl) (Nat.le_of_ble_eq_true rfl) ?_
  refine ww_aload_n dX10_affords_10 rfl rfl ?_
  refine ww_iload_n dX10_affords_11 rfl rfl ?_
  refine ww_iconst (v := nI 0) dX10_affords_12 (by decide) ?_
  refine ww_iconst (v := nI 2) dX10_affords_13 (by decide) ?_
  exact ww_cVt (M := m_X10_affords) (pc := 14) (st := []) (bc := 0) (bs := 0) (c_within_f hst hC.K0 hwr w (nI 0) (nI 2) hout) vv_X10_within dX10_affords_14 wg_410 (hC.K0) rfl rfl rfl rfl (Nat.le_of_ble_eq_true rfl) (Nat.le_of_ble_eq_true rfl) (Nat.le_of_ble_eq_true rfl) (Nat.le_of_ble_eq_true rfl) ⟨rfl, rfl⟩
/-- one use on the row s, in the midst of an asking -/
theorem MI.row {m sz : Nat} {kf vf g g2 : Nat → Int32} {h h2 h3 : PH} (hi : MI m sz kf vf g h h2) (hS : Same (fun c => c = m + 10 ∨ c = m + 11 ∨ c = m + 15) (fun _ _ => False) h2 h3) (e : hp_I h3 (m + 15) = g2) : MI m sz kf vf g2 h h3 :=
  ⟨hi.1.sam hS, hi.2.1.same hS (by omega) (by omega) (fun e => e), e, hi.2.2.2.1.tr (hS.mono (fun c hc => by rcases hc with e | e | e <;> subst e; exact SX10 m; exact SX11 m; exact SX15 m) (fun _ _ e => e.elim)), (hS.2.2.1 _ _ (fun e => e)).trans hi.2.2.2.2⟩
theorem c_M_usesI {l : Launch} {Z : EE} (hst : l.stackTraces = false) {h h2 : PH} {m sz : Nat} {kf vf g : Nat → Int32} (hok : LawOK kf vf sz) (hi : MI m sz kf vf g h h2) (q n : Nat) (hq : q < 6) (hn : n ≤ 60) (w : Nat) (hw : w ≤ 2) (ho : isOw (g n)) (hcn : ∃ c, c ≤ 9999 ∧ g (183 + q) = nI c) : CC l Z m_X11_uses 5 0 0 [.ref m, .int (nI q), .int (nI n), .int (nI w)] h2 (RQ (some (.int (bI (useF g q n (fareC g sz kf vf n w)).1))) (MI m sz kf vf (useF g q n (fareC g sz kf vf n w)).2 h)) :=
  cc_post (fun r h9 hp => ⟨hp.1, hi.row hp.2.1 hp.2.2⟩) (c_M_uses hst hi.1 hi.2.1 hok hi.2.2.1 q n hq hn w hw ho hcn)
set_option maxHeartbeats 4000000 in
set_option maxRecDepth 100000 in
theorem l_M_affords {l : Launch} {Z : EE} (hst : l.stackTraces = false) {h : PH} {m : Nat} {sz : Nat} {kf vf : Nat → Int32} (hok : LawOK kf vf sz) (q n w : Nat) (hq9 : q < 6) (hn9 : n ≤ 60) (hw9 : w ≤ 2) : ∀ (j k : Nat) (g9 : Nat → Int32) (hq0 : PH), MI m sz kf vf g9 h hq0 → k + j = 999 → isOw (g9 n) → (∃ c, c ≤ 9999 ∧ g9 (183 + q) = nI c) → WW l Z m_X11_affords 6 0 0 47 [.ref m, .int (nI q), .int (nI n), .int (nI w), .int (nI k)] [] hq0 (MOk (nI (afM sz kf vf q n w j k g9)) m h) := by
  intro j
  induction j with
  | zero =>
    intro k g9 hq0 hI0 hk ho hcn
    have hk0 : k = 999 := by omega
    subst hk0
    refine ww_iload dX11_affords_47 rfl ?_
    refine ww_sipush (v := nI 999) dX11_affords_49 (by decide) ?_
    refine ww_icmp_geN (tgt := 71) dX11_affords_52 (by decide) (by omega) (by omega) (fun c52 => ?_) (fun c52 => ?_)
    · refine ww_iload dX11_affords_71 rfl ?_
      exact ww_iret dX11_affords_73 rfl ⟨rfl, hI0.2.2.2.1, hI0.2.2.2.2⟩
    · exfalso; omega
  | succ j ih =>
    intro k g9 hq0 hI0 hk ho hcn
    have hf9 := fareN_ok g9 sz kf vf n w
    refine ww_iload dX11_affords_47 rfl ?_
    refine ww_sipush (v := nI 999) dX11_affords_49 (by decide) ?_
    refine ww_icmp_geN (tgt := 71) dX11_affords_52 (by decide) (by omega) (by omega) (fun c52 => ?_) (fun c52 => ?_)
    · exfalso; omega
    · refine ww_aload_n dX11_affords_55 rfl rfl ?_
      refine ww_iload_n dX11_affords_56 rfl rfl ?_
      refine ww_iload_n dX11_affords_57 rfl rfl ?_
      refine ww_iload_n dX11_affords_58 rfl rfl ?_
      refine ww_cVq (M := m_X11_affords) (pc := 59) (v := .int (bI ((useF g9 q n (fareC g9 sz kf vf n w)).1))) (st := []) (bc := 0) (bs := 0) (c_M_usesI hst hok hI0 q n hq9 hn9 w hw9 ho hcn) vv_X11_uses dX11_affords_59 wg_1551 hI0.1.K0 rfl rfl rfl rfl (Nat.le_of_ble_eq_true rfl) (Nat.le_of_ble_eq_true rfl) (Nat.le_of_ble_eq_true rfl) (Nat.le_of_ble_eq_true rfl) (fun hq1 qq1 => ?_)
      refine ww_if_eqB (tgt := 71) dX11_affords_62 (by decide) (fun c62 => ?_) (fun c62 => ?_)
      · refine ww_iload dX11_affords_71 rfl ?_
        exact ww_iret dX11_affords_73 rfl ⟨by rw [show afM sz kf vf q n w (j + 1) k g9 = k by simp only [afM]; rw [if_neg (by rw [c62]; decide)]], qq1.2.2.2.1, qq1.2.2.2.2⟩
      · refine ww_incN (c := 1) (lv2 := [.ref m, .int (nI q), .int (nI n), .int (nI w), .int (nI (k + 1))]) dX11_affords_65 rfl rfl rfl (by decide) rfl ?_
        refine ww_goto (tgt := 47) dX11_affords_68 (by decide) ?_
        have hn2 := useF_n (c := fareC g9 sz kf vf n w) hq9 hn9 ho
        have hq2 : ∃ c, c ≤ 9999 ∧ (useF g9 q n (fareC g9 sz kf vf n w)).2 (183 + q) = nI c := by obtain ⟨x, hx, hgx⟩ := hcn; rw [hf9.1]; exact useF_q hq9 hn9 ho hf9.2 hx hgx
        refine ww_post (fun r h9 hp => ?_) (ih (k + 1) _ hq1 qq1 (by omega) (by rw [hn2]; exact ho) hq2)
        rw [show afM sz kf vf q n w (j + 1) k g9 = afM sz kf vf q n w j (k + 1) (useF g9 q n (fareC g9 sz kf vf n w)).2 by simp only [afM]; rw [if_pos c62]]
        exact hp
set_option maxHeartbeats 4000000 in
set_option maxRecDepth 100000 in
theorem c_M_affords {l : Launch} {Z : EE} (hst : l.stackTraces = false) {h : PH} {m : Nat} (hM : ModS h m) {f : Nat → Int32} (hf : hp_I h (m + 14) = f) {g : Nat → Int32} (hs : hp_I h (m + 15) = g) {sz : Nat} {kf vf : Nat → Int32} (hQ : LawM h m sz kf vf) (hok : LawOK kf vf sz) {np : Nat} (hnp : hp_F h m 15 = .int (nI np)) (h6 : np ≤ 6) (hr : RowOK f np) (q : Nat) (hq : q < np) (n : Nat) (hn : n ≤ 60) (w : Nat) (lw : 0 ≤ w) (hw : w ≤ 2) : CC l Z m_X11_affords 6 0 0 [.ref m, .int (nI q), .int (nI n), .int (nI w)] h (MOk (nI (afC f sz kf vf q n w)) m h) := by
  refine ee_entry hst (by decide +kernel) rfl rfl (by simp [Value.category]) (Nat.le_of_ble_eq_true rfl) ?_
  refine ww_lv (lv2 := [.ref m, .int (nI q), .int (nI n), .int (nI w), UU]) rfl ?_
  refine ww_aload_n dX11_affords_0 rfl rfl ?_
  refine ww_iconst (v := nI 0) dX11_affords_1 (by decide) ?_
  refine ww_pfI tyX11 0 dX11_affords_2 hM.K0 rfl (by decide) inX11 tyX11_ok nmX11 wg_1240 rfl rfl ?_
  refine ww_aload_n dX11_affords_5 rfl rfl ?_
  refine ww_iload_n dX11_affords_6 rfl rfl ?_
  refine ww_iconst (v := nI 1) dX11_affords_7 (by decide) ?_
  refine ww_cVr (M := m_X11_affords) (pc := 8) (v := .int (nI 1)) (h1 := hp_sF h m 0 (.int (nI 0))) (st := []) (bc := 0) (bs := 0) (c_M_isPerson_t hst (h := hp_sF h m 0 (.int (nI 0))) (ModS.sF hM (by decide)) (hp_F_eq _ _ _ _) (hp_F_nj (by decide) hnp) h6 q hq) vv_X11_isPerson dX11_affords_8 wg_1612 hM.K0 rfl rfl rfl rfl (Nat.le_of_ble_eq_true rfl) (Nat.le_of_ble_eq_true rfl) (Nat.le_of_ble_eq_true rfl) (Nat.le_of_ble_eq_true rfl) ?_
  refine ww_if_eqN (tgt := 38) dX11_affords_11 (by decide) (by omega) (fun c11 => ?_) (fun c11 => ?_)
  · exact absurd c11 (by decide)
  · refine ww_aload_n dX11_affords_14 rfl rfl ?_
    refine ww_iload_n dX11_affords_15 rfl rfl ?_
    refine ww_iconst (v := nI 1) dX11_affords_16 (by decide) ?_
    refine ww_cVr (M := m_X11_affords) (pc := 17) (v := .int (nI 1)) (h1 := hp_sF h m 0 (.int (nI 0))) (st := []) (bc := 0) (bs := 0) (c_M_isThere_t hst (h := hp_sF h m 0 (.int (nI 0))) (ModS.sF hM (by decide)) (hp_F_eq _ _ _ _) n hn) vv_X11_isThere dX11_affords_17 wg_1620 hM.K0 rfl rfl rfl rfl (Nat.le_of_ble_eq_true rfl) (Nat.le_of_ble_eq_true rfl) (Nat.le_of_ble_eq_true rfl) (Nat.le_of_ble_eq_true rfl) ?_
    refine ww_if_eqN (tgt := 38) dX11_affords_20 (by decide) (by omega) (fun c20 => ?_) (fun c20 => ?_)
    · exact absurd c20 (by decide)
    · refine ww_aload_n dX11_affords_23 rfl rfl ?_
      refine ww_iload_n dX11_affords_24 rfl rfl ?_
      refine ww_iconst (v := nI 0) dX11_affords_25 (by decide) ?_
      refine ww_iconst (v := nI 2) dX11_affords_26 (by decide) ?_
      refine ww_cSr (M := m_X11_affords) (pc := 27) (v := .int (nI 1)) (h1 := hp_sF h m 0 (.int (nI 0))) (st := [.ref m]) (bc := 0) (bs := 0) (c_M_within_t hst (nI w) (nI 0) (nI 2) (nI_le (by omega) (by omega)) (nI_le (by omega) (by omega)) _) vv_X11_within dX11_affords_27 wg_1601 rfl rfl rfl (Nat.le_of_ble_eq_true rfl) (Nat.le_of_ble_eq_true rfl) (Nat.le_of_ble_eq_true rfl) (Nat.le_of_ble_eq_true rfl) ?_
      refine ww_iconst (v := nI 2) dX11_affords_30 (by decide) ?_
      refine ww_iconst (v := nI 1) dX11_affords_31 (by decide) ?_
      refine ww_cVr (M := m_X11_affords) (pc := 32) (v := .int (nI 1)) (h1 := hp_sF h m 0 (.int (nI 0))) (st := []) (bc := 0) (bs := 0) (c_M_may_t hst (h := hp_sF h m 0 (.int (nI 0))) (ModS.sF hM (by decide)) (hp_F_eq _ _ _ _) (nI 2) (nI 1)) vv_X11_may dX11_affords_32 wg_1413 hM.K0 rfl rfl rfl rfl (Nat.le_of_ble_eq_true rfl) (Nat.le_of_ble_eq_true rfl) (Nat.le_of_ble_eq_true rfl) (Nat.le_of_ble_eq_true rfl) ?_
      refine ww_if_neN (tgt := 40) dX11_affords_35 (by decide) (by omega) (fun c35 => ?_) (fun c35 => ?_)
      · refine ww_aload_n dX11_affords_40 rfl rfl ?_
        refine ww_cV0 (M := m_X11_affords) (pc := 41) (h1 := hp_sI (hp_sF h m 0 (.int (nI 0))) (m + 15) (cpF f g 190)) (st := []) (bc := 0) (bs := 0) (c_M_take hst (h := hp_sF h m 0 (.int (nI 0))) (ModS.sF hM (by decide)) hf hs) vv_X11_take dX11_affords_41 wg_1539 hM.K0 rfl rfl rfl rfl (Nat.le_of_ble_eq_true rfl) (Nat.le_of_ble_eq_true rfl) (Nat.le_of_ble_eq_true rfl) (Nat.le_of_ble_eq_true rfl) ?_
        refine ww_iconst (v := nI 0) dX11_affords_44 (by decide) ?_
        refine ww_sti (lv2 := [.ref m, .int (nI q), .int (nI n), .int (nI w), .int (nI 0)]) dX11_affords_45 rfl (by decide) rfl ?_
        have hI0 : MI m sz kf vf (cpF f g 190) h (hp_sI (hp_sF h m 0 (.int (nI 0))) (m + 15) (cpF f g 190)) := MI.start hM hQ
        generalize hp_sI (hp_sF h m 0 (.int (nI 0))) (m + 15) (cpF f g 190) = hq0 at hI0 ⊢
        generalize hge : cpF f g 190 = g9 at hI0
        have hg9 : ∀ i, i < 190 → g9 i = f i := fun i hi => by rw [← hge]; exact cpF_in hi
        obtain ⟨x1, x2⟩ := hr.co q (by omega)
        rw [← afM_all (w := w) (kf := kf) (vf := vf) (sz := sz) hg9 hr h6 (show q < 6 by omega) hn]
        exact l_M_affords hst hok q n w (by omega) hn (by omega) 999 0 g9 hq0 hI0 rfl (by rw [hg9 n (by omega)]; exact hr.ow h6 hn) ⟨_, x2, (hg9 _ (by omega)).trans x1⟩
      · exact absurd c35 (by decide)
set_option maxHeartbeats 4000000 in
set_option maxRecDepth 100000 in
theorem c_M_affords_no0 {l : Launch} {Z : EE} (hst : l.stackTraces = false) {h : PH} {m : Nat} (hM : ModS h m) {np : Nat} (hnp : hp_F h m 15 = .int (nI np)) (h6 : np ≤ 6) {f : Nat → Int32} (hf : hp_I h (m + 14) = f) (q : Int32) (n : Int32) (w : Int32) (hout : outP np q) : CC l Z m_X11_affords 6 0 0 [.ref m, .int q, .int n, .int w] h (MNo 1 0 m h) := by
  refine ee_entry hst (by decide +kernel) rfl rfl (by simp [Value.category]) (Nat.le_of_ble_eq_true rfl) ?_
  refine ww_lv (lv2 := [.ref m, .int q, .int n, .int w, UU]) rfl ?_
  refine ww_aload_n dX11_affords_0 rfl rfl ?_
  refine ww_iconst (v := nI 0) dX11_affords_1 (by decide) ?_
  refine ww_pfI tyX11 0 dX11_affords_2 hM.K0 rfl (by decide) inX11 tyX11_ok nmX11 wg_1240 rfl rfl ?_
  refine ww_aload_n dX11_affords_5 rfl rfl ?_
  refine ww_iload_n dX11_affords_6 rfl rfl ?_
  refine ww_iconst (v := nI 1) dX11_affords_7 (by decide) ?_
  refine ww_cVr (M := m_X11_affords) (pc := 8) (v := .int (nI 0)) (h1 := hp_sI (hp_sF (hp_sF h m 0 (.int (nI 0))) m 0 (.int (nI 1))) (m + 1) (upd (hp_I (hp_sF h m 0 (.int (nI 0))) (m + 1)) 0 (hp_I (hp_sF h m 0 (.int (nI 0))) (m + 1) 0 + nI 1))) (st := []) (bc := 0) (bs := 0) (c_M_isPerson_f hst (h := hp_sF h m 0 (.int (nI 0))) (ModS.sF hM (by decide)) (hp_F_eq _ _ _ _) (hp_F_nj (by decide) hnp) h6 q hout) vv_X11_isPerson dX11_affords_8 wg_1612 hM.K0 rfl rfl rfl rfl (Nat.le_of_ble_eq_true rfl) (Nat.le_of_ble_eq_true rfl) (Nat.le_of_ble_eq_true rfl) (Nat.le_of_ble_eq_true rfl) ?_
  refine ww_if_eqN (tgt := 38) dX11_affords_11 (by decide) (by omega) (fun c11 => ?_) (fun c11 => ?_)
  · refine ww_iconst (v := nI 0) dX11_affords_38 (by decide) ?_
    exact ww_iret dX11_affords_39 rfl ⟨rfl, (((Same.rf.sF (SY0 m)).sF (SY0 m)).sI (Or.inr rfl)), (hp_F_eq _ _ _ _), by rw [hp_I_eq]; rfl⟩
  · exact absurd c11 (by decide)
set_option maxHeartbeats 4000000 in
set_option maxRecDepth 100000 in
theorem c_M_affords_no1 {l : Launch} {Z : EE} (hst : l.stackTraces = false) {h : PH} {m : Nat} (hM : ModS h m) {np : Nat} (hnp : hp_F h m 15 = .int (nI np)) (h6 : np ≤ 6) {f : Nat → Int32} (hf : hp_I h (m + 14) = f) (q : Nat) (hq : q < np) (n : Int32) (w : Int32) (hout : outR 0 60 n) : CC l Z m_X11_affords 6 0 0 [.ref m, .int (nI q), .int n, .int w] h (MNo 1 0 m h) := by
  refine ee_entry hst (by decide +kernel) rfl rfl (by simp [Value.category]) (Nat.le_of_ble_eq_true rfl) ?_
  refine ww_lv (lv2 := [.ref m, .int (nI q), .int n, .int w, UU]) rfl ?_
  refine ww_aload_n dX11_affords_0 rfl rfl ?_
  refine ww_iconst (v := nI 0) dX11_affords_1 (by decide) ?_
  refine ww_pfI tyX11 0 dX11_affords_2 hM.K0 rfl (by decide) inX11 tyX11_ok nmX11 wg_1240 rfl rfl ?_
  refine ww_aload_n dX11_affords_5 rfl rfl ?_
  refine ww_iload_n dX11_affords_6 rfl rfl ?_
  refine ww_iconst (v := nI 1) dX11_affords_7 (by decide) ?_
  refine ww_cVr (M := m_X11_affords) (pc := 8) (v := .int (nI 1)) (h1 := hp_sF h m 0 (.int (nI 0))) (st := []) (bc := 0) (bs := 0) (c_M_isPerson_t hst (h := hp_sF h m 0 (.int (nI 0))) (ModS.sF hM (by decide)) (hp_F_eq _ _ _ _) (hp_F_nj (by decide) hnp) h6 q hq) vv_X11_isPerson dX11_affords_8 wg_1612 hM.K0 rfl rfl rfl rfl (Nat.le_of_ble_eq_true rfl) (Nat.le_of_ble_eq_true rfl) (Nat.le_of_ble_eq_true rfl) (Nat.le_of_ble_eq_true rfl) ?_
  refine ww_if_eqN (tgt := 38) dX11_affords_11 (by decide) (by omega) (fun c11 => ?_) (fun c11 => ?_)
  · exact absurd c11 (by decide)
  · refine ww_aload_n dX11_affords_14 rfl rfl ?_
    refine ww_iload_n dX11_affords_15 rfl rfl ?_
    refine ww_iconst (v := nI 1) dX11_affords_16 (by decide) ?_
    refine ww_cVr (M := m_X11_affords) (pc := 17) (v := .int (nI 0)) (h1 := hp_sI (hp_sF (hp_sF h m 0 (.int (nI 0))) m 0 (.int (nI 1))) (m + 1) (upd (hp_I (hp_sF h m 0 (.int (nI 0))) (m + 1)) 0 (hp_I (hp_sF h m 0 (.int (nI 0))) (m + 1) 0 + nI 1))) (st := []) (bc := 0) (bs := 0) (c_M_isThere_f hst (h := hp_sF h m 0 (.int (nI 0))) (ModS.sF hM (by decide)) (hp_F_eq _ _ _ _) n hout) vv_X11_isThere dX11_affords_17 wg_1620 hM.K0 rfl rfl rfl rfl (Nat.le_of_ble_eq_true rfl) (Nat.le_of_ble_eq_true rfl) (Nat.le_of_ble_eq_true rfl) (Nat.le_of_ble_eq_true rfl) ?_
    refine ww_if_eqN (tgt := 38) dX11_affords_20 (by decide) (by omega) (fun c20 => ?_) (fun c20 => ?_)
    · refine ww_iconst (v := nI 0) dX11_affords_38 (by decide) ?_
      exact ww_iret dX11_affords_39 rfl ⟨rfl, (((Same.rf.sF (SY0 m)).sF (SY0 m)).sI (Or.inr rfl)), (hp_F_eq _ _ _ _), by rw [hp_I_eq]; rfl⟩
    · exact absurd c20 (by decide)
set_option maxHeartbeats 4000000 in
set_option maxRecDepth 100000 in
theorem c_M_affords_no2 {l : Launch} {Z : EE} (hst : l.stackTraces = false) {h : PH} {m : Nat} (hM : ModS h m) {np : Nat} (hnp : hp_F h m 15 = .int (nI np)) (h6 : np ≤ 6) {f : Nat → Int32} (hf : hp_I h (m + 14) = f) (q : Nat) (hq : q < np) (n : Nat) (hn : n ≤ 60) (w : Int32) (hout : outR 0 2 w) : CC l Z m_X11_affords 6 0 0 [.ref m, .int (nI q), .int (nI n), .int w] h (MNo 2 1 m h) := by
  refine ee_entry hst (by decide +kernel) rfl rfl (by simp [Value.category]) (Nat.le_of_ble_eq_true rfl) ?_
  refine ww_lv (lv2 := [.ref m, .int (nI q), .int (nI n), .int w, UU]) rfl ?_
  refine ww_aload_n dX11_affords_0 rfl rfl ?_
  refine ww_iconst (v := nI 0) dX11_affords_1 (by decide) ?_
  refine ww_pfI tyX11 0 dX11_affords_2 hM.K0 rfl (by decide) inX11 tyX11_ok nmX11 wg_1240 rfl rfl ?_
  refine ww_aload_n dX11_affords_5 rfl rfl ?_
  refine ww_iload_n dX11_affords_6 rfl rfl ?_
  refine ww_iconst (v := nI 1) dX11_affords_7 (by decide) ?_
  refine ww_cVr (M := m_X11_affords) (pc := 8) (v := .int (nI 1)) (h1 := hp_sF h m 0 (.int (nI 0))) (st := []) (bc := 0) (bs := 0) (c_M_isPerson_t hst (h := hp_sF h m 0 (.int (nI 0))) (ModS.sF hM (by decide)) (hp_F_eq _ _ _ _) (hp_F_nj (by decide) hnp) h6 q hq) vv_X11_isPerson dX11_affords_8 wg_1612 hM.K0 rfl rfl rfl rfl (Nat.le_of_ble_eq_true rfl) (Nat.le_of_ble_eq_true rfl) (Nat.le_of_ble_eq_true rfl) (Nat.le_of_ble_eq_true rfl) ?_
  refine ww_if_eqN (tgt := 38) dX11_affords_11 (by decide) (by omega) (fun c11 => ?_) (fun c11 => ?_)
  · exact absurd c11 (by decide)
  · refine ww_aload_n dX11_affords_14 rfl rfl ?_
    refine ww_iload_n dX11_affords_15 rfl rfl ?_
    refine ww_iconst (v := nI 1) dX11_affords_16 (by decide) ?_
    refine ww_cVr (M := m_X11_affords) (pc := 17) (v := .int (nI 1)) (h1 := hp_sF h m 0 (.int (nI 0))) (st := []) (bc := 0) (bs := 0) (c_M_isThere_t hst (h := hp_sF h m 0 (.int (nI 0))) (ModS.sF hM (by decide)) (hp_F_eq _ _ _ _) n hn) vv_X11_isThere dX11_affords_17 wg_1620 hM.K0 rfl rfl rfl rfl (Nat.le_of_ble_eq_true rfl) (Nat.le_of_ble_eq_true rfl) (Nat.le_of_ble_eq_true rfl) (Nat.le_of_ble_eq_true rfl) ?_
    refine ww_if_eqN (tgt := 38) dX11_affords_20 (by decide) (by omega) (fun c20 => ?_) (fun c20 => ?_)
    · exact absurd c20 (by decide)
    · refine ww_aload_n dX11_affords_23 rfl rfl ?_
      refine ww_iload_n dX11_affords_24 rfl rfl ?_
      refine ww_iconst (v := nI 0) dX11_affords_25 (by decide) ?_
      refine ww_iconst (v := nI 2) dX11_affords_26 (by decide) ?_
      refine ww_cSr (M := m_X11_affords) (pc := 27) (v := .int (nI 0)) (h1 := hp_sF h m 0 (.int (nI 0))) (st := [.ref m]) (bc := 0) (bs := 0) (c_M_within_f hst w (nI 0) (nI 2) hout _) vv_X11_within dX11_affords_27 wg_1601 rfl rfl rfl (Nat.le_of_ble_eq_true rfl) (Nat.le_of_ble_eq_true rfl) (Nat.le_of_ble_eq_true rfl) (Nat.le_of_ble_eq_true rfl) ?_
      refine ww_iconst (v := nI 2) dX11_affords_30 (by decide) ?_
      refine ww_iconst (v := nI 1) dX11_affords_31 (by decide) ?_
      refine ww_cVr (M := m_X11_affords) (pc := 32) (v := .int (nI 0)) (h1 := hp_sI (hp_sF (hp_sF h m 0 (.int (nI 0))) m 0 (.int (nI 2))) (m + 1) (upd (hp_I (hp_sF h m 0 (.int (nI 0))) (m + 1)) 1 (hp_I (hp_sF h m 0 (.int (nI 0))) (m + 1) 1 + nI 1))) (st := []) (bc := 0) (bs := 0) (c_M_may_f hst (h := hp_sF h m 0 (.int (nI 0))) (ModS.sF hM (by decide)) (hp_F_eq _ _ _ _) 2 1 (by decide) (by decide) (by decide)) vv_X11_may dX11_affords_32 wg_1413 hM.K0 rfl rfl rfl rfl (Nat.le_of_ble_eq_true rfl) (Nat.le_of_ble_eq_true rfl) (Nat.le_of_ble_eq_true rfl) (Nat.le_of_ble_eq_true rfl) ?_
      refine ww_if_neN (tgt := 40) dX11_affords_35 (by decide) (by omega) (fun c35 => ?_) (fun c35 => ?_)
      · exact absurd c35 (by decide)
      · refine ww_iconst (v := nI 0) dX11_affords_38 (by decide) ?_
        exact ww_iret dX11_affords_39 rfl ⟨rfl, (((Same.rf.sF (SY0 m)).sF (SY0 m)).sI (Or.inr rfl)), (hp_F_eq _ _ _ _), by rw [hp_I_eq]; rfl⟩
