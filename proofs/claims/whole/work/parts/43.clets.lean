def hoB (a b : Nat) : Nat → Nat → Bool
  | _, 0 => true
  | i, j + 1 => if hbF a b < hbF i b then false else hoB a b (i + 1) j
theorem reB_ho (a b : Nat) : ∀ (j i : Nat), reB a b i j = (hoB a b i j && hoB b a i j)
  | 0, _ => rfl
  | j + 1, i => by
    have ih := reB_ho a b j (i + 1)
    simp only [reB, hoB]
    by_cases h1 : hbF a b < hbF i b
    · simp [h1]
    · by_cases h2 : hbF b a < hbF i a
      · simp [h1, h2]
      · simp [h1, h2, ih]
theorem lfM_z (k : Nat) : ∀ i, i ≤ 1000 → ((lfM k i).1 = 0 ↔ (lfM k i).2 = -1)
  | 0, _ => ⟨fun _ => rfl, fun _ => rfl⟩
  | i + 1, hi => by
    have ih := lfM_z k i (by omega)
    simp only [lfM]
    split
    · constructor
      · intro e; exact absurd e (by simp)
      · intro e
        exfalso
        by_cases h1 : (lfM k i).2 = -1
        · simp only [if_pos h1] at e
          have h2 : i / (k + 1) ≤ i := Nat.div_le_self _ _
          have h3 : i % (k + 1) ≤ i := Nat.mod_le _ _
          exact nI_m1 (by omega) e
        · simp only [if_neg h1] at e; exact h1 e
    · exact ih
theorem lsF_mk (a b : Nat) (ha : a ≤ 20) (hb : b ≤ 20) : lsF (nI (100 * a + b)) = nI (hbF a b + hbF b a) := by
  unfold lsF
  rw [if_neg (nI_m1 (by omega)), nI_clamp (by omega), show (100 * a + b) / 100 = a by omega, show (100 * a + b) % 100 = b by omega]
set_option maxHeartbeats 4000000 in
set_option maxRecDepth 100000 in
theorem c_K_letFor {l : Launch} {Z : EE} (hst : l.stackTraces = false) (a b : Nat) (ha : a ≤ 3000) (hb : b ≤ 3000) (h : PH) : CC l Z m_X10_letFor 0 0 0 [.int (nI a), .int (nI b)] h (RT (some (.int (nI (hbF a b)))) h) := by
  refine ee_entry hst (by decide +kernel) rfl rfl (by simp [Value.category]) (Nat.le_of_ble_eq_true rfl) ?_
  refine ww_lv (lv2 := [.int (nI a), .int (nI b)]) rfl ?_
  refine ww_iload_n dX10_letFor_0 rfl rfl ?_
  refine ww_iload_n dX10_letFor_1 rfl rfl ?_
  refine ww_icmp_geN (tgt := 7) dX10_letFor_2 (by decide) (by omega) (by omega) (fun c2 => ?_) (fun c2 => ?_)
  · refine ww_iload_n dX10_letFor_7 rfl rfl ?_
    refine ww_iload_n dX10_letFor_8 rfl rfl ?_
    refine ww_icmp_neN (tgt := 18) dX10_letFor_9 (by decide) (by omega) (by omega) (fun c9 => ?_) (fun c9 => ?_)
    · refine ww_iconst (v := nI 0) dX10_letFor_18 (by decide) ?_
      exact ww_iret dX10_letFor_19 rfl ⟨by first | (rw [show hbF a b = a from if_pos (by omega)]; done) | (rw [show hbF a b = a / 2 from by unfold hbF; rw [if_neg (by omega), if_pos (by omega)]]; done) | (rw [show hbF a b = 0 from by unfold hbF; rw [if_neg (by omega), if_neg (by omega)]]; done), rfl⟩
    · refine ww_iload_n dX10_letFor_12 rfl rfl ?_
      refine ww_iconst (v := nI 2) dX10_letFor_13 (by decide) ?_
      refine ww_idivN dX10_letFor_14 (by omega) (by omega) (by omega) ?_
      refine ww_goto (tgt := 19) dX10_letFor_15 (by decide) ?_
      exact ww_iret dX10_letFor_19 rfl ⟨by first | (rw [show hbF a b = a from if_pos (by omega)]; done) | (rw [show hbF a b = a / 2 from by unfold hbF; rw [if_neg (by omega), if_pos (by omega)]]; done) | (rw [show hbF a b = 0 from by unfold hbF; rw [if_neg (by omega), if_neg (by omega)]]; done), rfl⟩
  · refine ww_iload_n dX10_letFor_5 rfl rfl ?_
    exact ww_iret dX10_letFor_6 rfl ⟨by first | (rw [show hbF a b = a from if_pos (by omega)]; done) | (rw [show hbF a b = a / 2 from by unfold hbF; rw [if_neg (by omega), if_pos (by omega)]]; done) | (rw [show hbF a b = 0 from by unfold hbF; rw [if_neg (by omega), if_neg (by omega)]]; done), rfl⟩
set_option maxHeartbeats 4000000 in
set_option maxRecDepth 100000 in
theorem l_K_holdsTo {l : Launch} {Z : EE} (hst : l.stackTraces = false) {h : PH} (a b k : Nat) (ha : a ≤ 20) (hb : b ≤ 20) (hk : k ≤ 20) : ∀ (j i : Nat), i + j = k + 1 → WW l Z m_X10_holdsTo 1 0 0 9 [.int (nI a), .int (nI b), .int (nI k), .int (nI (hbF a b)), .int (nI i)] [] h (RT (some (.int (bI (hoB a b i j)))) h) := by
  intro j
  induction j with
  | zero =>
    intro i hi
    refine ww_iload dX10_holdsTo_9 rfl ?_
    refine ww_iload_n dX10_holdsTo_11 rfl rfl ?_
    refine ww_icmp_gtN (tgt := 33) dX10_holdsTo_12 (by decide) (by omega) (by omega) (fun c12 => ?_) (fun c12 => ?_)
    · refine ww_iconst (v := nI 1) dX10_holdsTo_33 (by decide) ?_
      exact ww_zret dX10_holdsTo_34 rfl (by first | rfl | exact nar_bI _) ⟨rfl, rfl⟩
    · exfalso; omega
  | succ j ih =>
    intro i hi
    refine ww_iload dX10_holdsTo_9 rfl ?_
    refine ww_iload_n dX10_holdsTo_11 rfl rfl ?_
    refine ww_icmp_gtN (tgt := 33) dX10_holdsTo_12 (by decide) (by have := hbF_le a b; have := hbF_le i b; omega) (by have := hbF_le a b; have := hbF_le i b; omega) (fun c12 => ?_) (fun c12 => ?_)
    · exfalso; omega
    · refine ww_iload dX10_holdsTo_15 rfl ?_
      refine ww_iload_n dX10_holdsTo_17 rfl rfl ?_
      refine ww_cSr (M := m_X10_holdsTo) (pc := 18) (v := .int (nI (hbF i b))) (h1 := h) (st := []) (bc := 0) (bs := 0) (c_K_letFor hst i b (by omega) (by omega) _) vv_X10_letFor dX10_holdsTo_18 wg_1095 rfl rfl rfl (Nat.le_of_ble_eq_true rfl) (Nat.le_of_ble_eq_true rfl) (Nat.le_of_ble_eq_true rfl) (Nat.le_of_ble_eq_true rfl) ?_
      refine ww_iload_n dX10_holdsTo_21 rfl rfl ?_
      refine ww_icmp_leN (tgt := 27) dX10_holdsTo_22 (by decide) (by have := hbF_le a b; have := hbF_le i b; omega) (by have := hbF_le a b; have := hbF_le i b; omega) (fun c22 => ?_) (fun c22 => ?_)
      · refine ww_incN (c := 1) (lv2 := [.int (nI a), .int (nI b), .int (nI k), .int (nI (hbF a b)), .int (nI (i + 1))]) dX10_holdsTo_27 rfl rfl rfl (by decide) rfl ?_
        refine ww_goto (tgt := 9) dX10_holdsTo_30 (by decide) ?_
        refine ww_post (fun r h9 hp => ?_) (ih (i + 1) (by omega))
        simpa [hoB, Nat.not_lt.mpr c22] using hp
      · refine ww_iconst (v := nI 0) dX10_holdsTo_25 (by decide) ?_
        exact ww_zret dX10_holdsTo_26 rfl (by first | rfl | exact nar_bI _) ⟨by simp [hoB, c22, bI]; rfl, rfl⟩
set_option maxHeartbeats 4000000 in
set_option maxRecDepth 100000 in
theorem c_K_holdsTo {l : Launch} {Z : EE} (hst : l.stackTraces = false) (a b k : Nat) (ha : a ≤ 20) (hb : b ≤ 20) (hk : k ≤ 20) (h : PH) : CC l Z m_X10_holdsTo 1 0 0 [.int (nI a), .int (nI b), .int (nI k)] h (RT (some (.int (bI (hoB a b 0 (k + 1))))) h) := by
  refine ee_entry hst (by decide +kernel) rfl rfl (by simp [Value.category]) (Nat.le_of_ble_eq_true rfl) ?_
  refine ww_lv (lv2 := [.int (nI a), .int (nI b), .int (nI k), UU, UU]) rfl ?_
  refine ww_iload_n dX10_holdsTo_0 rfl rfl ?_
  refine ww_iload_n dX10_holdsTo_1 rfl rfl ?_
  refine ww_cSr (M := m_X10_holdsTo) (pc := 2) (v := .int (nI (hbF a b))) (h1 := h) (st := []) (bc := 0) (bs := 0) (c_K_letFor hst a b (by omega) (by omega) _) vv_X10_letFor dX10_holdsTo_2 wg_1095 rfl rfl rfl (Nat.le_of_ble_eq_true rfl) (Nat.le_of_ble_eq_true rfl) (Nat.le_of_ble_eq_true rfl) (Nat.le_of_ble_eq_true rfl) ?_
  refine ww_sti_n (lv2 := [.int (nI a), .int (nI b), .int (nI k), .int (nI (hbF a b)), UU]) dX10_holdsTo_5 rfl rfl (by decide) rfl ?_
  refine ww_iconst (v := nI 0) dX10_holdsTo_6 (by decide) ?_
  refine ww_sti (lv2 := [.int (nI a), .int (nI b), .int (nI k), .int (nI (hbF a b)), .int (nI 0)]) dX10_holdsTo_7 rfl (by decide) rfl ?_
  exact l_K_holdsTo hst a b k ha hb hk (k + 1) 0 (by omega)
set_option maxHeartbeats 4000000 in
set_option maxRecDepth 100000 in
theorem l_K_lets1 {l : Launch} {Z : EE} (hst : l.stackTraces = false) {h : PH} {la lw bk : Nat} (hC : CL h la lw bk) (a k : Nat) (ha9 : a ≤ 20) (hak9 : a ≤ k) (hk : k ≤ 20) (w : Int32) {Post : Res → PH → Prop} : ∀ (j b : Nat), b + j = k + 1 → WW l Z m_X10_lets 4 0 0 106 [.ref 0, .int (nI k), .int w, .int (nI ((lfM k (a * (k + 1) + ((k + 1)))).1)), .int ((lfM k (a * (k + 1) + ((k + 1)))).2), .int (lsF (lfM k (a * (k + 1) + ((k + 1)))).2), .int (nI a), .int (nI ((k + 1)))] [] h Post → WW l Z m_X10_lets 4 0 0 35 [.ref 0, .int (nI k), .int w, .int (nI ((lfM k (a * (k + 1) + b)).1)), .int ((lfM k (a * (k + 1) + b)).2), .int (lsF (lfM k (a * (k + 1) + b)).2), .int (nI a), .int (nI b)] [] h Post := by
  intro j
  induction j with
  | zero =>
    intro b hb hex
    have hb0 : b = k + 1 := by omega
    subst hb0
    refine ww_iload dX10_lets_35 rfl ?_
    refine ww_iload_n dX10_lets_37 rfl rfl ?_
    refine ww_icmp_gtN (tgt := 106) dX10_lets_38 (by decide) (by omega) (by omega) (fun c38 => ?_) (fun c38 => ?_)
    · exact hex
    · exfalso; omega
  | succ j ih =>
    intro b hb hex
    have e1 : (a * (k + 1) + b) / (k + 1) = a := by rw [Nat.add_comm, Nat.add_mul_div_right _ _ (by omega), Nat.div_eq_of_lt (by omega), Nat.zero_add]
    have e2 : (a * (k + 1) + b) % (k + 1) = b := by rw [Nat.add_comm, Nat.add_mul_mod_self_right, Nat.mod_eq_of_lt (by omega)]
    have hak : a * (k + 1) ≤ 20 * 21 := Nat.mul_le_mul ha9 (by omega)
    have hz := lfM_z k (a * (k + 1) + b) (by omega)
    have hls := lsF_mk a b (by omega) (by omega)
    have hst9 : lfM k (a * (k + 1) + (b + 1)) = if (hoB a b 0 (k + 1) && hoB b a 0 (k + 1)) = true then ((lfM k (a * (k + 1) + b)).1 + 1, if (lfM k (a * (k + 1) + b)).2 = -1 then nI (100 * a + b) else (lfM k (a * (k + 1) + b)).2) else lfM k (a * (k + 1) + b) := by
      rw [← reB_ho, ← Nat.add_assoc]; simp only [lfM, e1, e2]
    have hl9 : (lfM k (a * (k + 1) + b)).1 ≤ 1000 := by
      have h1 : a * (k + 1) + (k + 1) ≤ (k + 1) * (k + 1) := by rw [← Nat.succ_mul]; exact Nat.mul_le_mul_right _ (by omega)
      have := (lfM_ok k hk (a * (k + 1) + b) (by omega)).2; omega
    refine ww_iload dX10_lets_35 rfl ?_
    refine ww_iload_n dX10_lets_37 rfl rfl ?_
    refine ww_icmp_gtN (tgt := 106) dX10_lets_38 (by decide) (by omega) (by omega) (fun c38 => ?_) (fun c38 => ?_)
    · exfalso; omega
    · refine ww_iload dX10_lets_41 rfl ?_
      refine ww_iload dX10_lets_43 rfl ?_
      refine ww_iload_n dX10_lets_45 rfl rfl ?_
      refine ww_cSr (M := m_X10_lets) (pc := 46) (v := .int (bI (hoB a b 0 (k + 1)))) (h1 := h) (st := []) (bc := 0) (bs := 0) (c_K_holdsTo hst a b k (by omega) (by omega) hk _) vv_X10_holdsTo dX10_lets_46 wg_1092 rfl rfl rfl (Nat.le_of_ble_eq_true rfl) (Nat.le_of_ble_eq_true rfl) (Nat.le_of_ble_eq_true rfl) (Nat.le_of_ble_eq_true rfl) ?_
      refine ww_if_eqB (tgt := 100) dX10_lets_49 (by decide) (fun c49 => ?_) (fun c49 => ?_)
      · refine ww_incN (c := 1) (lv2 := [.ref 0, .int (nI k), .int w, .int (nI ((lfM k (a * (k + 1) + b)).1)), .int ((lfM k (a * (k + 1) + b)).2), .int (lsF (lfM k (a * (k + 1) + b)).2), .int (nI a), .int (nI (b + 1))]) dX10_lets_100 rfl rfl rfl (by decide) rfl ?_
        refine ww_goto (tgt := 35) dX10_lets_103 (by decide) ?_
        refine ww_lv (lv2 := [.ref 0, .int (nI k), .int w, .int (nI ((lfM k (a * (k + 1) + ((b + 1)))).1)), .int ((lfM k (a * (k + 1) + ((b + 1)))).2), .int (lsF (lfM k (a * (k + 1) + ((b + 1)))).2), .int (nI a), .int (nI ((b + 1)))]) (by rw [hst9]; first | (simp [c49]; done) | (simp [c49, c60]; done) | (simp [c49, c60, show ¬ (lfM k (a * (k + 1) + b)).2 = -1 from fun e => absurd (hz.mpr e) (by omega)]; done) | (have he := hz.mp c67; simp [c49, c60, he, hls]; done)) ?_
        exact ih (b + 1) (by omega) hex
      · refine ww_iload dX10_lets_52 rfl ?_
        refine ww_iload dX10_lets_54 rfl ?_
        refine ww_iload_n dX10_lets_56 rfl rfl ?_
        refine ww_cSr (M := m_X10_lets) (pc := 57) (v := .int (bI (hoB b a 0 (k + 1)))) (h1 := h) (st := []) (bc := 0) (bs := 0) (c_K_holdsTo hst b a k (by omega) (by omega) hk _) vv_X10_holdsTo dX10_lets_57 wg_1092 rfl rfl rfl (Nat.le_of_ble_eq_true rfl) (Nat.le_of_ble_eq_true rfl) (Nat.le_of_ble_eq_true rfl) (Nat.le_of_ble_eq_true rfl) ?_
        refine ww_if_neB (tgt := 66) dX10_lets_60 (by decide) (fun c60 => ?_) (fun c60 => ?_)
        · refine ww_iload_n dX10_lets_66 rfl rfl ?_
          refine ww_if_neN (tgt := 97) dX10_lets_67 (by decide) (by omega) (fun c67 => ?_) (fun c67 => ?_)
          · refine ww_incN (c := 1) (lv2 := [.ref 0, .int (nI k), .int w, .int (nI ((lfM k (a * (k + 1) + b)).1 + 1)), .int ((lfM k (a * (k + 1) + b)).2), .int (lsF (lfM k (a * (k + 1) + b)).2), .int (nI a), .int (nI b)]) dX10_lets_97 rfl rfl rfl (by decide) rfl ?_
            refine ww_incN (c := 1) (lv2 := [.ref 0, .int (nI k), .int w, .int (nI ((lfM k (a * (k + 1) + b)).1 + 1)), .int ((lfM k (a * (k + 1) + b)).2), .int (lsF (lfM k (a * (k + 1) + b)).2), .int (nI a), .int (nI (b + 1))]) dX10_lets_100 rfl rfl rfl (by decide) rfl ?_
            refine ww_goto (tgt := 35) dX10_lets_103 (by decide) ?_
            refine ww_lv (lv2 := [.ref 0, .int (nI k), .int w, .int (nI ((lfM k (a * (k + 1) + ((b + 1)))).1)), .int ((lfM k (a * (k + 1) + ((b + 1)))).2), .int (lsF (lfM k (a * (k + 1) + ((b + 1)))).2), .int (nI a), .int (nI ((b + 1)))]) (by rw [hst9]; first | (simp [c49]; done) | (simp [c49, c60]; done) | (simp [c49, c60, show ¬ (lfM k (a * (k + 1) + b)).2 = -1 from fun e => absurd (hz.mpr e) (by omega)]; done) | (have he := hz.mp c67; simp [c49, c60, he, hls]; done)) ?_
            exact ih (b + 1) (by omega) hex
          · refine ww_bipush (v := nI 100) dX10_lets_70 (by decide) ?_
            refine ww_iload dX10_lets_72 rfl ?_
            refine ww_imulN dX10_lets_74 ?_
            refine ww_iload dX10_lets_75 rfl ?_
            refine ww_iaddN dX10_lets_77 ?_
            refine ww_sti (lv2 := [.ref 0, .int (nI k), .int w, .int (nI ((lfM k (a * (k + 1) + b)).1)), .int (nI ((100 * a) + b)), .int (lsF (lfM k (a * (k + 1) + b)).2), .int (nI a), .int (nI b)]) dX10_lets_78 rfl (by decide) rfl ?_
            refine ww_iload dX10_lets_80 rfl ?_
            refine ww_iload dX10_lets_82 rfl ?_
            refine ww_cSr (M := m_X10_lets) (pc := 84) (v := .int (nI (hbF a b))) (h1 := h) (st := []) (bc := 0) (bs := 0) (c_K_letFor hst a b (by omega) (by omega) _) vv_X10_letFor dX10_lets_84 wg_1095 rfl rfl rfl (Nat.le_of_ble_eq_true rfl) (Nat.le_of_ble_eq_true rfl) (Nat.le_of_ble_eq_true rfl) (Nat.le_of_ble_eq_true rfl) ?_
            refine ww_iload dX10_lets_87 rfl ?_
            refine ww_iload dX10_lets_89 rfl ?_
            refine ww_cSr (M := m_X10_lets) (pc := 91) (v := .int (nI (hbF b a))) (h1 := h) (st := [.int (nI (hbF a b))]) (bc := 0) (bs := 0) (c_K_letFor hst b a (by omega) (by omega) _) vv_X10_letFor dX10_lets_91 wg_1095 rfl rfl rfl (Nat.le_of_ble_eq_true rfl) (Nat.le_of_ble_eq_true rfl) (Nat.le_of_ble_eq_true rfl) (Nat.le_of_ble_eq_true rfl) ?_
            refine ww_iaddN dX10_lets_94 ?_
            refine ww_sti (lv2 := [.ref 0, .int (nI k), .int w, .int (nI ((lfM k (a * (k + 1) + b)).1)), .int (nI ((100 * a) + b)), .int (nI ((hbF a b) + (hbF b a))), .int (nI a), .int (nI b)]) dX10_lets_95 rfl (by decide) rfl ?_
            refine ww_incN (c := 1) (lv2 := [.ref 0, .int (nI k), .int w, .int (nI ((lfM k (a * (k + 1) + b)).1 + 1)), .int (nI ((100 * a) + b)), .int (nI ((hbF a b) + (hbF b a))), .int (nI a), .int (nI b)]) dX10_lets_97 rfl rfl rfl (by decide) rfl ?_
            refine ww_incN (c := 1) (lv2 := [.ref 0, .int (nI k), .int w, .int (nI ((lfM k (a * (k + 1) + b)).1 + 1)), .int (nI ((100 * a) + b)), .int (nI ((hbF a b) + (hbF b a))), .int (nI a), .int (nI (b + 1))]) dX10_lets_100 rfl rfl rfl (by decide) rfl ?_
            refine ww_goto (tgt := 35) dX10_lets_103 (by decide) ?_
            refine ww_lv (lv2 := [.ref 0, .int (nI k), .int w, .int (nI ((lfM k (a * (k + 1) + ((b + 1)))).1)), .int ((lfM k (a * (k + 1) + ((b + 1)))).2), .int (lsF (lfM k (a * (k + 1) + ((b + 1)))).2), .int (nI a), .int (nI ((b + 1)))]) (by rw [hst9]; first | (simp [c49]; done) | (simp [c49, c60]; done) | (simp [c49, c60, show ¬ (lfM k (a * (k + 1) + b)).2 = -1 from fun e => absurd (hz.mpr e) (by omega)]; done) | (have he := hz.mp c67; simp [c49, c60, he, hls]; done)) ?_
            exact ih (b + 1) (by omega) hex
        · refine ww_goto (tgt := 100) dX10_lets_63 (by decide) ?_
          refine ww_incN (c := 1) (lv2 := [.ref 0, .int (nI k), .int w, .int (nI ((lfM k (a * (k + 1) + b)).1)), .int ((lfM k (a * (k + 1) + b)).2), .int (lsF (lfM k (a * (k + 1) + b)).2), .int (nI a), .int (nI (b + 1))]) dX10_lets_100 rfl rfl rfl (by decide) rfl ?_
          refine ww_goto (tgt := 35) dX10_lets_103 (by decide) ?_
          refine ww_lv (lv2 := [.ref 0, .int (nI k), .int w, .int (nI ((lfM k (a * (k + 1) + ((b + 1)))).1)), .int ((lfM k (a * (k + 1) + ((b + 1)))).2), .int (lsF (lfM k (a * (k + 1) + ((b + 1)))).2), .int (nI a), .int (nI ((b + 1)))]) (by rw [hst9]; first | (simp [c49]; done) | (simp [c49, c60]; done) | (simp [c49, c60, show ¬ (lfM k (a * (k + 1) + b)).2 = -1 from fun e => absurd (hz.mpr e) (by omega)]; done) | (have he := hz.mp c67; simp [c49, c60, he, hls]; done)) ?_
          exact ih (b + 1) (by omega) hex
set_option maxHeartbeats 4000000 in
set_option maxRecDepth 100000 in
theorem l_K_lets {l : Launch} {Z : EE} (hst : l.stackTraces = false) {h : PH} {la lw bk : Nat} (hC : CL h la lw bk) (k : Nat) (hk : k ≤ 20) (w : Int32) {Post : Res → PH → Prop} : ∀ (j a : Nat), a + j = k + 1 → WW l Z m_X10_lets 4 0 0 112 [.ref 0, .int (nI k), .int w, .int (nI ((lfM k (((k + 1)) * (k + 1) + 0)).1)), .int ((lfM k (((k + 1)) * (k + 1) + 0)).2), .int (lsF (lfM k (((k + 1)) * (k + 1) + 0)).2), .int (nI ((k + 1))), UU] [] h Post → WW l Z m_X10_lets 4 0 0 26 [.ref 0, .int (nI k), .int w, .int (nI ((lfM k (a * (k + 1) + 0)).1)), .int ((lfM k (a * (k + 1) + 0)).2), .int (lsF (lfM k (a * (k + 1) + 0)).2), .int (nI a), UU] [] h Post := by
  intro j
  induction j with
  | zero =>
    intro a ha hex
    have ha0 : a = k + 1 := by omega
    subst ha0
    refine ww_iload dX10_lets_26 rfl ?_
    refine ww_iload_n dX10_lets_28 rfl rfl ?_
    refine ww_icmp_gtN (tgt := 112) dX10_lets_29 (by decide) (by omega) (by omega) (fun c29 => ?_) (fun c29 => ?_)
    · exact hex
    · exfalso; omega
  | succ j ih =>
    intro a ha hex
    refine ww_iload dX10_lets_26 rfl ?_
    refine ww_iload_n dX10_lets_28 rfl rfl ?_
    refine ww_icmp_gtN (tgt := 112) dX10_lets_29 (by decide) (by omega) (by omega) (fun c29 => ?_) (fun c29 => ?_)
    · exfalso; omega
    · refine ww_iconst (v := nI 0) dX10_lets_32 (by decide) ?_
      refine ww_sti (lv2 := [.ref 0, .int (nI k), .int w, .int (nI ((lfM k (a * (k + 1) + 0)).1)), .int ((lfM k (a * (k + 1) + 0)).2), .int (lsF (lfM k (a * (k + 1) + 0)).2), .int (nI a), .int (nI 0)]) dX10_lets_33 rfl (by decide) rfl ?_
      refine l_K_lets1 hst hC a k (by omega) (by omega) hk w (k + 1) 0 (by omega) ?_
      refine ww_incN (c := 1) (lv2 := [.ref 0, .int (nI k), .int w, .int (nI ((lfM k (a * (k + 1) + ((k + 1)))).1)), .int ((lfM k (a * (k + 1) + ((k + 1)))).2), .int (lsF (lfM k (a * (k + 1) + ((k + 1)))).2), .int (nI (a + 1)), .int (nI ((k + 1)))]) dX10_lets_106 rfl rfl rfl (by decide) rfl ?_
      refine ww_goto (tgt := 26) dX10_lets_109 (by decide) ?_
      refine ww_fg (lv2 := [.ref 0, .int (nI k), .int w, .int (nI ((lfM k (a * (k + 1) + ((k + 1)))).1)), .int ((lfM k (a * (k + 1) + ((k + 1)))).2), .int (lsF (lfM k (a * (k + 1) + ((k + 1)))).2), .int (nI (a + 1)), UU]) ⟨Or.inr rfl, Or.inr rfl, Or.inr rfl, Or.inr rfl, Or.inr rfl, Or.inr rfl, Or.inr rfl, Or.inl rfl, trivial⟩ ?_
      refine ww_lv (lv2 := [.ref 0, .int (nI k), .int w, .int (nI ((lfM k (((a + 1)) * (k + 1) + 0)).1)), .int ((lfM k (((a + 1)) * (k + 1) + 0)).2), .int (lsF (lfM k (((a + 1)) * (k + 1) + 0)).2), .int (nI ((a + 1))), UU]) (by rw [show (a + 1) * (k + 1) + 0 = a * (k + 1) + (k + 1) by rw [Nat.add_zero, Nat.succ_mul]]) ?_
      exact ih (a + 1) (by omega) hex
set_option maxHeartbeats 4000000 in
set_option maxRecDepth 100000 in
theorem c_K_lets0 {l : Launch} {Z : EE} (hst : l.stackTraces = false) {h : PH} {la lw bk : Nat} (hC : CL h la lw bk) (k : Nat) (lk : 0 ≤ k) (hk : k ≤ 20) : CC l Z m_X10_lets 4 0 0 [.ref 0, .int (nI k), .int (nI 0)] h (COk (nI (lfM k ((k + 1) * (k + 1) + 0)).1) h) := by
  refine ee_entry hst (by decide +kernel) rfl rfl (by simp [Value.category]) (Nat.le_of_ble_eq_true rfl) ?_
  refine ww_lv (lv2 := [.ref 0, .int (nI k), .int (nI 0), UU, UU, UU, UU, UU]) rfl ?_
  have hla := hC.la
  have hlw := hC.lw
  have hbk := hC.bk
  refine ww_aload_n dX10_lets_0 rfl rfl ?_
  refine ww_iload_n dX10_lets_1 rfl rfl ?_
  refine ww_iconst (v := nI 0) dX10_lets_2 (by decide) ?_
  refine ww_bipush (v := nI 20) dX10_lets_3 (by decide) ?_
  refine ww_cV0 (M := m_X10_lets) (pc := 5) (h1 := h) (st := []) (bc := 0) (bs := 0) (c_within_t hst (nI k) (nI 0) (nI 20) (nI_le (by omega) (by omega)) (nI_le (by omega) (by omega)) _) vv_X10_within dX10_lets_5 wg_410 (hC.K0) rfl rfl rfl rfl (Nat.le_of_ble_eq_true rfl) (Nat.le_of_ble_eq_true rfl) (Nat.le_of_ble_eq_true rfl) (Nat.le_of_ble_eq_true rfl) ?_
  refine ww_aload_n dX10_lets_8 rfl rfl ?_
  refine ww_iload_n dX10_lets_9 rfl rfl ?_
  refine ww_iconst (v := nI 0) dX10_lets_10 (by decide) ?_
  refine ww_iconst (v := nI 2) dX10_lets_11 (by decide) ?_
  refine ww_cV0 (M := m_X10_lets) (pc := 12) (h1 := h) (st := []) (bc := 0) (bs := 0) (c_within_t hst (nI 0) (nI 0) (nI 2) (by decide) (by decide) _) vv_X10_within dX10_lets_12 wg_410 (hC.K0) rfl rfl rfl rfl (Nat.le_of_ble_eq_true rfl) (Nat.le_of_ble_eq_true rfl) (Nat.le_of_ble_eq_true rfl) (Nat.le_of_ble_eq_true rfl) ?_
  refine ww_iconst (v := nI 0) dX10_lets_15 (by decide) ?_
  refine ww_sti_n (lv2 := [.ref 0, .int (nI k), .int (nI 0), .int (nI 0), UU, UU, UU, UU]) dX10_lets_16 rfl rfl (by decide) rfl ?_
  refine ww_iconst (v := -1) dX10_lets_17 (by decide) ?_
  refine ww_sti (lv2 := [.ref 0, .int (nI k), .int (nI 0), .int (nI 0), .int (-1), UU, UU, UU]) dX10_lets_18 rfl (by decide) rfl ?_
  refine ww_iconst (v := nI 0) dX10_lets_20 (by decide) ?_
  refine ww_sti (lv2 := [.ref 0, .int (nI k), .int (nI 0), .int (nI 0), .int (-1), .int (nI 0), UU, UU]) dX10_lets_21 rfl (by decide) rfl ?_
  refine ww_iconst (v := nI 0) dX10_lets_23 (by decide) ?_
  refine ww_sti (lv2 := [.ref 0, .int (nI k), .int (nI 0), .int (nI 0), .int (-1), .int (nI 0), .int (nI 0), UU]) dX10_lets_24 rfl (by decide) rfl ?_
  refine ww_lv (lv2 := [.ref 0, .int (nI k), .int (nI 0), .int (nI ((lfM k (0 * (k + 1) + 0)).1)), .int ((lfM k (0 * (k + 1) + 0)).2), .int (lsF (lfM k (0 * (k + 1) + 0)).2), .int (nI 0), UU]) (by rw [Nat.zero_mul]; rfl) ?_
  refine l_K_lets hst hC k hk (nI 0) (k + 1) 0 (by omega) ?_
  refine ww_iload_n dX10_lets_112 rfl rfl ?_
  refine ww_lookup (off := 27) (tgt := 140) dX10_lets_113 (by decide) (by decide) (by decide) ?_
  refine ww_iload_n dX10_lets_140 rfl rfl ?_
  exact ww_iret dX10_lets_141 rfl ⟨rfl, Same.rf⟩
set_option maxHeartbeats 4000000 in
set_option maxRecDepth 100000 in
theorem c_K_lets1 {l : Launch} {Z : EE} (hst : l.stackTraces = false) {h : PH} {la lw bk : Nat} (hC : CL h la lw bk) (k : Nat) (lk : 0 ≤ k) (hk : k ≤ 20) : CC l Z m_X10_lets 4 0 0 [.ref 0, .int (nI k), .int (nI 1)] h (COk ((lfM k ((k + 1) * (k + 1) + 0)).2) h) := by
  refine ee_entry hst (by decide +kernel) rfl rfl (by simp [Value.category]) (Nat.le_of_ble_eq_true rfl) ?_
  refine ww_lv (lv2 := [.ref 0, .int (nI k), .int (nI 1), UU, UU, UU, UU, UU]) rfl ?_
  have hla := hC.la
  have hlw := hC.lw
  have hbk := hC.bk
  refine ww_aload_n dX10_lets_0 rfl rfl ?_
  refine ww_iload_n dX10_lets_1 rfl rfl ?_
  refine ww_iconst (v := nI 0) dX10_lets_2 (by decide) ?_
  refine ww_bipush (v := nI 20) dX10_lets_3 (by decide) ?_
  refine ww_cV0 (M := m_X10_lets) (pc := 5) (h1 := h) (st := []) (bc := 0) (bs := 0) (c_within_t hst (nI k) (nI 0) (nI 20) (nI_le (by omega) (by omega)) (nI_le (by omega) (by omega)) _) vv_X10_within dX10_lets_5 wg_410 (hC.K0) rfl rfl rfl rfl (Nat.le_of_ble_eq_true rfl) (Nat.le_of_ble_eq_true rfl) (Nat.le_of_ble_eq_true rfl) (Nat.le_of_ble_eq_true rfl) ?_
  refine ww_aload_n dX10_lets_8 rfl rfl ?_
  refine ww_iload_n dX10_lets_9 rfl rfl ?_
  refine ww_iconst (v := nI 0) dX10_lets_10 (by decide) ?_
  refine ww_iconst (v := nI 2) dX10_lets_11 (by decide) ?_
  refine ww_cV0 (M := m_X10_lets) (pc := 12) (h1 := h) (st := []) (bc := 0) (bs := 0) (c_within_t hst (nI 1) (nI 0) (nI 2) (by decide) (by decide) _) vv_X10_within dX10_lets_12 wg_410 (hC.K0) rfl rfl rfl rfl (Nat.le_of_ble_eq_true rfl) (Nat.le_of_ble_eq_true rfl) (Nat.le_of_ble_eq_true rfl) (Nat.le_of_ble_eq_true rfl) ?_
  refine ww_iconst (v := nI 0) dX10_lets_15 (by decide) ?_
  refine ww_sti_n (lv2 := [.ref 0, .int (nI k), .int (nI 1), .int (nI 0), UU, UU, UU, UU]) dX10_lets_16 rfl rfl (by decide) rfl ?_
  refine ww_iconst (v := -1) dX10_lets_17 (by decide) ?_
  refine ww_sti (lv2 := [.ref 0, .int (nI k), .int (nI 1), .int (nI 0), .int (-1), UU, UU, UU]) dX10_lets_18 rfl (by decide) rfl ?_
  refine ww_iconst (v := nI 0) dX10_lets_20 (by decide) ?_
  refine ww_sti (lv2 := [.ref 0, .int (nI k), .int (nI 1), .int (nI 0), .int (-1), .int (nI 0), UU, UU]) dX10_lets_21 rfl (by decide) rfl ?_
  refine ww_iconst (v := nI 0) dX10_lets_23 (by decide) ?_
  refine ww_sti (lv2 := [.ref 0, .int (nI k), .int (nI 1), .int (nI 0), .int (-1), .int (nI 0), .int (nI 0), UU]) dX10_lets_24 rfl (by decide) rfl ?_
  refine ww_lv (lv2 := [.ref 0, .int (nI k), .int (nI 1), .int (nI ((lfM k (0 * (k + 1) + 0)).1)), .int ((lfM k (0 * (k + 1) + 0)).2), .int (lsF (lfM k (0 * (k + 1) + 0)).2), .int (nI 0), UU]) (by rw [Nat.zero_mul]; rfl) ?_
  refine l_K_lets hst hC k hk (nI 1) (k + 1) 0 (by omega) ?_
  refine ww_iload_n dX10_lets_112 rfl rfl ?_
  refine ww_lookup (off := 29) (tgt := 142) dX10_lets_113 (by decide) (by decide) (by decide) ?_
  refine ww_iload dX10_lets_142 rfl ?_
  exact ww_iret dX10_lets_144 rfl ⟨rfl, Same.rf⟩
set_option maxHeartbeats 4000000 in
set_option maxRecDepth 100000 in
theorem c_K_lets2 {l : Launch} {Z : EE} (hst : l.stackTraces = false) {h : PH} {la lw bk : Nat} (hC : CL h la lw bk) (k : Nat) (lk : 0 ≤ k) (hk : k ≤ 20) : CC l Z m_X10_lets 4 0 0 [.ref 0, .int (nI k), .int (nI 2)] h (COk (lsF (lfM k ((k + 1) * (k + 1) + 0)).2) h) := by
  refine ee_entry hst (by decide +kernel) rfl rfl (by simp [Value.category]) (Nat.le_of_ble_eq_true rfl) ?_
  refine ww_lv (lv2 := [.ref 0, .int (nI k), .int (nI 2), UU, UU, UU, UU, UU]) rfl ?_
  have hla := hC.la
  have hlw := hC.lw
  have hbk := hC.bk
  refine ww_aload_n dX10_lets_0 rfl rfl ?_
  refine ww_iload_n dX10_lets_1 rfl rfl ?_
  refine ww_iconst (v := nI 0) dX10_lets_2 (by decide) ?_
  refine ww_bipush (v := nI 20) dX10_lets_3 (by decide) ?_
  refine ww_cV0 (M := m_X10_lets) (pc := 5) (h1 := h) (st := []) (bc := 0) (bs := 0) (c_within_t hst (nI k) (nI 0) (nI 20) (nI_le (by omega) (by omega)) (nI_le (by omega) (by omega)) _) vv_X10_within dX10_lets_5 wg_410 (hC.K0) rfl rfl rfl rfl (Nat.le_of_ble_eq_true rfl) (Nat.le_of_ble_eq_true rfl) (Nat.le_of_ble_eq_true rfl) (Nat.le_of_ble_eq_true rfl) ?_
  refine ww_aload_n dX10_lets_8 rfl rfl ?_
  refine ww_iload_n dX10_lets_9 rfl rfl ?_
  refine ww_iconst (v := nI 0) dX10_lets_10 (by decide) ?_
  refine ww_iconst (v := nI 2) dX10_lets_11 (by decide) ?_
  refine ww_cV0 (M := m_X10_lets) (pc := 12) (h1 := h) (st := []) (bc := 0) (bs := 0) (c_within_t hst (nI 2) (nI 0) (nI 2) (by decide) (by decide) _) vv_X10_within dX10_lets_12 wg_410 (hC.K0) rfl rfl rfl rfl (Nat.le_of_ble_eq_true rfl) (Nat.le_of_ble_eq_true rfl) (Nat.le_of_ble_eq_true rfl) (Nat.le_of_ble_eq_true rfl) ?_
  refine ww_iconst (v := nI 0) dX10_lets_15 (by decide) ?_
  refine ww_sti_n (lv2 := [.ref 0, .int (nI k), .int (nI 2), .int (nI 0), UU, UU, UU, UU]) dX10_lets_16 rfl rfl (by decide) rfl ?_
  refine ww_iconst (v := -1) dX10_lets_17 (by decide) ?_
  refine ww_sti (lv2 := [.ref 0, .int (nI k), .int (nI 2), .int (nI 0), .int (-1), UU, UU, UU]) dX10_lets_18 rfl (by decide) rfl ?_
  refine ww_iconst (v := nI 0) dX10_lets_20 (by decide) ?_
  refine ww_sti (lv2 := [.ref 0, .int (nI k), .int (nI 2), .int (nI 0), .int (-1), .int (nI 0), UU, UU]) dX10_lets_21 rfl (by decide) rfl ?_
  refine ww_iconst (v := nI 0) dX10_lets_23 (by decide) ?_
  refine ww_sti (lv2 := [.ref 0, .int (nI k), .int (nI 2), .int (nI 0), .int (-1), .int (nI 0), .int (nI 0), UU]) dX10_lets_24 rfl (by decide) rfl ?_
  refine ww_lv (lv2 := [.ref 0, .int (nI k), .int (nI 2), .int (nI ((lfM k (0 * (k + 1) + 0)).1)), .int ((lfM k (0 * (k + 1) + 0)).2), .int (lsF (lfM k (0 * (k + 1) + 0)).2), .int (nI 0), UU]) (by rw [Nat.zero_mul]; rfl) ?_
  refine l_K_lets hst hC k hk (nI 2) (k + 1) 0 (by omega) ?_
  refine ww_iload_n dX10_lets_112 rfl rfl ?_
  refine ww_lookup (off := 32) (tgt := 145) dX10_lets_113 (by decide) (by decide) (by decide) ?_
  refine ww_iload dX10_lets_145 rfl ?_
  exact ww_iret dX10_lets_147 rfl ⟨rfl, Same.rf⟩
set_option maxHeartbeats 4000000 in
set_option maxRecDepth 100000 in
theorem c_K_lets_no0 {l : Launch} {Z : EE} (hst : l.stackTraces = false) {h : PH} {la lw bk : Nat} (hC : CL h la lw bk) {wr : Int32} (hwr : hp_F h 0 13 = .int wr) (k : Int32) (w : Int32) (hout : ¬ (nI 0 ≤ k ∧ k ≤ nI 20)) : CC l Z m_X10_lets 7 1 6 [.ref 0, .int k, .int w] h (TH iaX (hp_sF h 0 13 (.int (wr + nI 1)))) := by
  refine ee_entry hst (by decide +kernel) rfl rfl (by simp [Value.category]) (Nat.le_of_ble_eq_true rfl) ?_
  refine ww_lv (lv2 := [.ref 0, .int k, .int w, UU, UU, UU, UU, UU]) rfl ?_
  have hla := hC.la
  have hlw := hC.lw
  have hbk := hC.bk
  refine ww_aload_n dX10_lets_0 rfl rfl ?_
  refine ww_iload_n dX10_lets_1 rfl rfl ?_
  refine ww_iconst (v := nI 0) dX10_lets_2 (by decide) ?_
  refine ww_bipush (v := nI 20) dX10_lets_3 (by decide) ?_
  exact ww_cVt (M := m_X10_lets) (pc := 5) (st := []) (bc := 0) (bs := 0) (c_within_f hst hC.K0 hwr k (nI 0) (nI 20) hout) vv_X10_within dX10_lets_5 wg_410 (hC.K0) rfl rfl rfl rfl (Nat.le_of_ble_eq_true rfl) (Nat.le_of_ble_eq_true rfl) (Nat.le_of_ble_eq_true rfl) (Nat.le_of_ble_eq_true rfl) ⟨rfl, rfl⟩
set_option maxHeartbeats 4000000 in
set_option maxRecDepth 100000 in
theorem c_K_lets_no1 {l : Launch} {Z : EE} (hst : l.stackTraces = false) {h : PH} {la lw bk : Nat} (hC : CL h la lw bk) {wr : Int32} (hwr : hp_F h 0 13 = .int wr) (k : Nat) (lk : 0 ≤ k) (hk : k ≤ 20) (w : Int32) (hout : ¬ (nI 0 ≤ w ∧ w ≤ nI 2)) : CC l Z m_X10_lets 7 1 6 [.ref 0, .int (nI k), .int w] h (TH iaX (hp_sF h 0 13 (.int (wr + nI 1)))) := by
  refine ee_entry hst (by decide +kernel) rfl rfl (by simp [Value.category]) (Nat.le_of_ble_eq_true rfl) ?_
  refine ww_lv (lv2 := [.ref 0, .int (nI k), .int w, UU, UU, UU, UU, UU]) rfl ?_
  have hla := hC.la
  have hlw := hC.lw
  have hbk := hC.bk
  refine ww_aload_n dX10_lets_0 rfl rfl ?_
  refine ww_iload_n dX10_lets_1 rfl rfl ?_
  refine ww_iconst (v := nI 0) dX10_lets_2 (by decide) ?_
  refine ww_bipush (v := nI 20) dX10_lets_3 (by decide) ?_
  refine ww_cV0 (M := m_X10_lets) (pc := 5) (h1 := h) (st := []) (bc := 1) (bs := 6) (c_within_t hst (nI k) (nI 0) (nI 20) (nI_le (by omega) (by omega)) (nI_le (by omega) (by omega)) _) vv_X10_within dX10_lets_5 wg_410 (hC.K0) rfl rfl rfl rfl (Nat.le_of_ble_eq_true rfl) (Nat.le_of_ble_eq_true rfl) (Nat.le_of_ble_eq_true rfl) (Nat.le_of_ble_eq_true rfl) ?_
  refine ww_aload_n dX10_lets_8 rfl rfl ?_
  refine ww_iload_n dX10_lets_9 rfl rfl ?_
  refine ww_iconst (v := nI 0) dX10_lets_10 (by decide) ?_
  refine ww_iconst (v := nI 2) dX10_lets_11 (by decide) ?_
  exact ww_cVt (M := m_X10_lets) (pc := 12) (st := []) (bc := 0) (bs := 0) (c_within_f hst hC.K0 hwr w (nI 0) (nI 2) hout) vv_X10_within dX10_lets_12 wg_410 (hC.K0) rfl rfl rfl rfl (Nat.le_of_ble_eq_true rfl) (Nat.le_of_ble_eq_true rfl) (Nat.le_of_ble_eq_true rfl) (Nat.le_of_ble_eq_true rfl) ⟨rfl, rfl⟩
set_option maxHeartbeats 4000000 in
set_option maxRecDepth 100000 in
theorem l_K_poorest {l : Launch} {Z : EE} (hst : l.stackTraces = false) {h : PH} {la lw bk : Nat} (hC : CL h la lw bk) {np du : Nat} {f : Nat → Int32} (hL : LandAt h la np du f) (w : Int32) {Post : Res → PH → Prop} : ∀ (j k : Nat), k + 1 + j = np → WW l Z m_X10_poorest 3 0 0 63 [.ref 0, .int w, .int (nI (poF f (np - 1)).1), .int (poF f (np - 1)).2, .int (nI np)] [] h Post → WW l Z m_X10_poorest 3 0 0 14 [.ref 0, .int w, .int (nI ((poF f k).1)), .int ((poF f k).2), .int (nI (k + 1))] [] h Post := by
  have hla := hC.la
  have hlw := hC.lw
  have hbk := hC.bk
  have hnp := hL.2.2.2.2.2.2.1
  intro j
  induction j with
  | zero =>
    intro k hk hex
    have hk0 : np = k + 1 := by omega
    subst hk0
    refine ww_iload dX10_poorest_14 rfl ?_
    refine ww_aload_n dX10_poorest_16 rfl rfl ?_
    refine ww_get 1 dX10_poorest_17 (hC.K0) rfl (by decide) inX10 wg_265 hC.D1 ?_
    refine ww_getN 1 dX10_poorest_20 hL.1 rfl (by decide) inX2 wn_77 hL.2.2.2.1 ?_
    refine ww_icmp_geN (tgt := 63) dX10_poorest_23 (by decide) (by omega) (by omega) (fun c23 => ?_) (fun c23 => ?_)
    · exact hex
    · exfalso; omega
  | succ j ih =>
    intro k hk hex
    obtain ⟨ho1, ho2⟩ := poF_ok f k
    refine ww_iload dX10_poorest_14 rfl ?_
    refine ww_aload_n dX10_poorest_16 rfl rfl ?_
    refine ww_get 1 dX10_poorest_17 (hC.K0) rfl (by decide) inX10 wg_265 hC.D1 ?_
    refine ww_getN 1 dX10_poorest_20 hL.1 rfl (by decide) inX2 wn_77 hL.2.2.2.1 ?_
    refine ww_icmp_geN (tgt := 63) dX10_poorest_23 (by decide) (by omega) (by omega) (fun c23 => ?_) (fun c23 => ?_)
    · exfalso; omega
    · refine ww_iload_n dX10_poorest_26 rfl rfl ?_
      refine ww_iconst (v := -1) dX10_poorest_27 (by decide) ?_
      refine ww_icmp_eq (tgt := 44) dX10_poorest_28 (by decide) (fun c28 => ?_) (fun c28 => ?_)
      · exact absurd c28 (nI_m1 (by omega))
      · refine ww_aload_n dX10_poorest_31 rfl rfl ?_
        refine ww_get 1 dX10_poorest_32 (hC.K0) rfl (by decide) inX10 wg_265 hC.D1 ?_
        refine ww_iload dX10_poorest_35 rfl ?_
        refine ww_cVr (M := m_X10_poorest) (pc := 37) (v := .int (f (183 + (k + 1)))) (h1 := h) (st := []) (bc := 0) (bs := 0) (c_Land_coins hst hL (k + 1) (by omega)) vv_X2_coins dX10_poorest_37 wg_823 hL.1 rfl rfl rfl rfl (Nat.le_of_ble_eq_true rfl) (Nat.le_of_ble_eq_true rfl) (Nat.le_of_ble_eq_true rfl) (Nat.le_of_ble_eq_true rfl) ?_
        refine ww_iload_n dX10_poorest_40 rfl rfl ?_
        refine ww_icmp_ge (tgt := 57) dX10_poorest_41 (by decide) (fun c41 => ?_) (fun c41 => ?_)
        · refine ww_incN (c := 1) (lv2 := [.ref 0, .int w, .int (nI ((poF f k).1)), .int ((poF f k).2), .int (nI (k + 1 + 1))]) dX10_poorest_57 rfl rfl rfl (by decide) rfl ?_
          refine ww_goto (tgt := 14) dX10_poorest_60 (by decide) ?_
          refine ww_lv (lv2 := [.ref 0, .int w, .int (nI ((poF f ((k + 1))).1)), .int ((poF f ((k + 1))).2), .int (nI (((k + 1)) + 1))]) (by simp only [← Int32.not_lt, Classical.not_not] at c41; simp [poF, c41]) ?_
          exact ih (k + 1) (by omega) hex
        · refine ww_iload dX10_poorest_44 rfl ?_
          refine ww_sti_n (lv2 := [.ref 0, .int w, .int (nI (k + 1)), .int ((poF f k).2), .int (nI (k + 1))]) dX10_poorest_46 rfl rfl (by decide) rfl ?_
          refine ww_aload_n dX10_poorest_47 rfl rfl ?_
          refine ww_get 1 dX10_poorest_48 (hC.K0) rfl (by decide) inX10 wg_265 hC.D1 ?_
          refine ww_iload dX10_poorest_51 rfl ?_
          refine ww_cVr (M := m_X10_poorest) (pc := 53) (v := .int (f (183 + (k + 1)))) (h1 := h) (st := []) (bc := 0) (bs := 0) (c_Land_coins hst hL (k + 1) (by omega)) vv_X2_coins dX10_poorest_53 wg_823 hL.1 rfl rfl rfl rfl (Nat.le_of_ble_eq_true rfl) (Nat.le_of_ble_eq_true rfl) (Nat.le_of_ble_eq_true rfl) (Nat.le_of_ble_eq_true rfl) ?_
          refine ww_sti_n (lv2 := [.ref 0, .int w, .int (nI (k + 1)), .int (f (183 + (k + 1))), .int (nI (k + 1))]) dX10_poorest_56 rfl rfl (by decide) rfl ?_
          refine ww_incN (c := 1) (lv2 := [.ref 0, .int w, .int (nI (k + 1)), .int (f (183 + (k + 1))), .int (nI (k + 1 + 1))]) dX10_poorest_57 rfl rfl rfl (by decide) rfl ?_
          refine ww_goto (tgt := 14) dX10_poorest_60 (by decide) ?_
          refine ww_lv (lv2 := [.ref 0, .int w, .int (nI ((poF f ((k + 1))).1)), .int ((poF f ((k + 1))).2), .int (nI (((k + 1)) + 1))]) (by simp only [← Int32.not_lt, Classical.not_not] at c41; simp [poF, c41]) ?_
          exact ih (k + 1) (by omega) hex
set_option maxHeartbeats 4000000 in
set_option maxRecDepth 100000 in
theorem c_K_poorest0 {l : Launch} {Z : EE} (hst : l.stackTraces = false) {h : PH} {la lw bk : Nat} (hC : CL h la lw bk) {np du : Nat} {f : Nat → Int32} (hL : LandAt h la np du f) (h1 : 1 ≤ np) : CC l Z m_X10_poorest 3 0 0 [.ref 0, .int (nI 0)] h (COk (nI (poF f (np - 1)).1) h) := by
  refine ee_entry hst (by decide +kernel) rfl rfl (by simp [Value.category]) (Nat.le_of_ble_eq_true rfl) ?_
  refine ww_lv (lv2 := [.ref 0, .int (nI 0), UU, UU, UU]) rfl ?_
  have hla := hC.la
  have hlw := hC.lw
  have hbk := hC.bk
  have hnp := hL.2.2.2.2.2.2.1
  refine ww_aload_n dX10_poorest_0 rfl rfl ?_
  refine ww_iload_n dX10_poorest_1 rfl rfl ?_
  refine ww_iconst (v := nI 0) dX10_poorest_2 (by decide) ?_
  refine ww_iconst (v := nI 1) dX10_poorest_3 (by decide) ?_
  refine ww_cV0 (M := m_X10_poorest) (pc := 4) (h1 := h) (st := []) (bc := 0) (bs := 0) (c_within_t hst (nI 0) (nI 0) (nI 1) (by decide) (by decide) _) vv_X10_within dX10_poorest_4 wg_410 (hC.K0) rfl rfl rfl rfl (Nat.le_of_ble_eq_true rfl) (Nat.le_of_ble_eq_true rfl) (Nat.le_of_ble_eq_true rfl) (Nat.le_of_ble_eq_true rfl) ?_
  refine ww_iconst (v := -1) dX10_poorest_7 (by decide) ?_
  refine ww_sti_n (lv2 := [.ref 0, .int (nI 0), .int (-1), UU, UU]) dX10_poorest_8 rfl rfl (by decide) rfl ?_
  refine ww_iconst (v := -1) dX10_poorest_9 (by decide) ?_
  refine ww_sti_n (lv2 := [.ref 0, .int (nI 0), .int (-1), .int (-1), UU]) dX10_poorest_10 rfl rfl (by decide) rfl ?_
  refine ww_iconst (v := nI 0) dX10_poorest_11 (by decide) ?_
  refine ww_sti (lv2 := [.ref 0, .int (nI 0), .int (-1), .int (-1), .int (nI 0)]) dX10_poorest_12 rfl (by decide) rfl ?_
  refine ww_iload dX10_poorest_14 rfl ?_
  refine ww_aload_n dX10_poorest_16 rfl rfl ?_
  refine ww_get 1 dX10_poorest_17 (hC.K0) rfl (by decide) inX10 wg_265 hC.D1 ?_
  refine ww_getN 1 dX10_poorest_20 hL.1 rfl (by decide) inX2 wn_77 hL.2.2.2.1 ?_
  refine ww_icmp_geN (tgt := 63) dX10_poorest_23 (by decide) (by omega) (by omega) (fun c23 => ?_) (fun c23 => ?_)
  · exfalso; omega
  · refine ww_iload_n dX10_poorest_26 rfl rfl ?_
    refine ww_iconst (v := -1) dX10_poorest_27 (by decide) ?_
    refine ww_icmp_eq (tgt := 44) dX10_poorest_28 (by decide) (fun c28 => ?_) (fun c28 => ?_)
    · refine ww_iload dX10_poorest_44 rfl ?_
      refine ww_sti_n (lv2 := [.ref 0, .int (nI 0), .int (nI 0), .int (-1), .int (nI 0)]) dX10_poorest_46 rfl rfl (by decide) rfl ?_
      refine ww_aload_n dX10_poorest_47 rfl rfl ?_
      refine ww_get 1 dX10_poorest_48 (hC.K0) rfl (by decide) inX10 wg_265 hC.D1 ?_
      refine ww_iload dX10_poorest_51 rfl ?_
      refine ww_cVr (M := m_X10_poorest) (pc := 53) (v := .int (f (183 + 0))) (h1 := h) (st := []) (bc := 0) (bs := 0) (c_Land_coins hst hL 0 (by omega)) vv_X2_coins dX10_poorest_53 wg_823 hL.1 rfl rfl rfl rfl (Nat.le_of_ble_eq_true rfl) (Nat.le_of_ble_eq_true rfl) (Nat.le_of_ble_eq_true rfl) (Nat.le_of_ble_eq_true rfl) ?_
      refine ww_sti_n (lv2 := [.ref 0, .int (nI 0), .int (nI 0), .int (f (183 + 0)), .int (nI 0)]) dX10_poorest_56 rfl rfl (by decide) rfl ?_
      refine ww_incN (c := 1) (lv2 := [.ref 0, .int (nI 0), .int (nI 0), .int (f (183 + 0)), .int (nI 1)]) dX10_poorest_57 rfl rfl rfl (by decide) rfl ?_
      refine ww_goto (tgt := 14) dX10_poorest_60 (by decide) ?_
      refine l_K_poorest hst hC hL (nI 0) (np - 1) 0 (by omega) ?_
      refine ww_iload_n dX10_poorest_63 rfl rfl ?_
      refine ww_if_neN (tgt := 71) dX10_poorest_64 (by decide) (by omega) (fun c64 => ?_) (fun c64 => ?_)
      · exact absurd c64 (by decide)
      · refine ww_iload_n dX10_poorest_67 rfl rfl ?_
        refine ww_goto (tgt := 72) dX10_poorest_68 (by decide) ?_
        exact ww_iret dX10_poorest_72 rfl ⟨rfl, Same.rf⟩
    · exact absurd rfl c28
set_option maxHeartbeats 4000000 in
set_option maxRecDepth 100000 in
theorem c_K_poorest0_z {l : Launch} {Z : EE} (hst : l.stackTraces = false) {h : PH} {la lw bk : Nat} (hC : CL h la lw bk) {du : Nat} {f : Nat → Int32} (hL : LandAt h la 0 du f) : CC l Z m_X10_poorest 3 0 0 [.ref 0, .int (nI 0)] h (COk (-1) h) := by
  refine ee_entry hst (by decide +kernel) rfl rfl (by simp [Value.category]) (Nat.le_of_ble_eq_true rfl) ?_
  refine ww_lv (lv2 := [.ref 0, .int (nI 0), UU, UU, UU]) rfl ?_
  have hla := hC.la
  have hlw := hC.lw
  have hbk := hC.bk
  refine ww_aload_n dX10_poorest_0 rfl rfl ?_
  refine ww_iload_n dX10_poorest_1 rfl rfl ?_
  refine ww_iconst (v := nI 0) dX10_poorest_2 (by decide) ?_
  refine ww_iconst (v := nI 1) dX10_poorest_3 (by decide) ?_
  refine ww_cV0 (M := m_X10_poorest) (pc := 4) (h1 := h) (st := []) (bc := 0) (bs := 0) (c_within_t hst (nI 0) (nI 0) (nI 1) (by decide) (by decide) _) vv_X10_within dX10_poorest_4 wg_410 (hC.K0) rfl rfl rfl rfl (Nat.le_of_ble_eq_true rfl) (Nat.le_of_ble_eq_true rfl) (Nat.le_of_ble_eq_true rfl) (Nat.le_of_ble_eq_true rfl) ?_
  refine ww_iconst (v := -1) dX10_poorest_7 (by decide) ?_
  refine ww_sti_n (lv2 := [.ref 0, .int (nI 0), .int (-1), UU, UU]) dX10_poorest_8 rfl rfl (by decide) rfl ?_
  refine ww_iconst (v := -1) dX10_poorest_9 (by decide) ?_
  refine ww_sti_n (lv2 := [.ref 0, .int (nI 0), .int (-1), .int (-1), UU]) dX10_poorest_10 rfl rfl (by decide) rfl ?_
  refine ww_iconst (v := nI 0) dX10_poorest_11 (by decide) ?_
  refine ww_sti (lv2 := [.ref 0, .int (nI 0), .int (-1), .int (-1), .int (nI 0)]) dX10_poorest_12 rfl (by decide) rfl ?_
  refine ww_iload dX10_poorest_14 rfl ?_
  refine ww_aload_n dX10_poorest_16 rfl rfl ?_
  refine ww_get 1 dX10_poorest_17 (hC.K0) rfl (by decide) inX10 wg_265 hC.D1 ?_
  refine ww_getN 1 dX10_poorest_20 hL.1 rfl (by decide) inX2 wn_77 hL.2.2.2.1 ?_
  refine ww_icmp_geN (tgt := 63) dX10_poorest_23 (by decide) (by omega) (by omega) (fun c23 => ?_) (fun c23 => ?_)
  · refine ww_iload_n dX10_poorest_63 rfl rfl ?_
    refine ww_if_neN (tgt := 71) dX10_poorest_64 (by decide) (by omega) (fun c64 => ?_) (fun c64 => ?_)
    · exact absurd c64 (by decide)
    · refine ww_iload_n dX10_poorest_67 rfl rfl ?_
      refine ww_goto (tgt := 72) dX10_poorest_68 (by decide) ?_
      exact ww_iret dX10_poorest_72 rfl ⟨rfl, Same.rf⟩
  · exact absurd c23 (by decide)
set_option maxHeartbeats 4000000 in
set_option maxRecDepth 100000 in
theorem c_K_poorest1 {l : Launch} {Z : EE} (hst : l.stackTraces = false) {h : PH} {la lw bk : Nat} (hC : CL h la lw bk) {np du : Nat} {f : Nat → Int32} (hL : LandAt h la np du f) (h1 : 1 ≤ np) : CC l Z m_X10_poorest 3 0 0 [.ref 0, .int (nI 1)] h (COk ((poF f (np - 1)).2) h) := by
  refine ee_entry hst (by decide +kernel) rfl rfl (by simp [Value.category]) (Nat.le_of_ble_eq_true rfl) ?_
  refine ww_lv (lv2 := [.ref 0, .int (nI 1), UU, UU, UU]) rfl ?_
  have hla := hC.la
  have hlw := hC.lw
  have hbk := hC.bk
  have hnp := hL.2.2.2.2.2.2.1
  refine ww_aload_n dX10_poorest_0 rfl rfl ?_
  refine ww_iload_n dX10_poorest_1 rfl rfl ?_
  refine ww_iconst (v := nI 0) dX10_poorest_2 (by decide) ?_
  refine ww_iconst (v := nI 1) dX10_poorest_3 (by decide) ?_
  refine ww_cV0 (M := m_X10_poorest) (pc := 4) (h1 := h) (st := []) (bc := 0) (bs := 0) (c_within_t hst (nI 1) (nI 0) (nI 1) (by decide) (by decide) _) vv_X10_within dX10_poorest_4 wg_410 (hC.K0) rfl rfl rfl rfl (Nat.le_of_ble_eq_true rfl) (Nat.le_of_ble_eq_true rfl) (Nat.le_of_ble_eq_true rfl) (Nat.le_of_ble_eq_true rfl) ?_
  refine ww_iconst (v := -1) dX10_poorest_7 (by decide) ?_
  refine ww_sti_n (lv2 := [.ref 0, .int (nI 1), .int (-1), UU, UU]) dX10_poorest_8 rfl rfl (by decide) rfl ?_
  refine ww_iconst (v := -1) dX10_poorest_9 (by decide) ?_
  refine ww_sti_n (lv2 := [.ref 0, .int (nI 1), .int (-1), .int (-1), UU]) dX10_poorest_10 rfl rfl (by decide) rfl ?_
  refine ww_iconst (v := nI 0) dX10_poorest_11 (by decide) ?_
  refine ww_sti (lv2 := [.ref 0, .int (nI 1), .int (-1), .int (-1), .int (nI 0)]) dX10_poorest_12 rfl (by decide) rfl ?_
  refine ww_iload dX10_poorest_14 rfl ?_
  refine ww_aload_n dX10_poorest_16 rfl rfl ?_
  refine ww_get 1 dX10_poorest_17 (hC.K0) rfl (by decide) inX10 wg_265 hC.D1 ?_
  refine ww_getN 1 dX10_poorest_20 hL.1 rfl (by decide) inX2 wn_77 hL.2.2.2.1 ?_
  refine ww_icmp_geN (tgt := 63) dX10_poorest_23 (by decide) (by omega) (by omega) (fun c23 => ?_) (fun c23 => ?_)
  · exfalso; omega
  · refine ww_iload_n dX10_poorest_26 rfl rfl ?_
    refine ww_iconst (v := -1) dX10_poorest_27 (by decide) ?_
    refine ww_icmp_eq (tgt := 44) dX10_poorest_28 (by decide) (fun c28 => ?_) (fun c28 => ?_)
    · refine ww_iload dX10_poorest_44 rfl ?_
      refine ww_sti_n (lv2 := [.ref 0, .int (nI 1), .int (nI 0), .int (-1), .int (nI 0)]) dX10_poorest_46 rfl rfl (by decide) rfl ?_
      refine ww_aload_n dX10_poorest_47 rfl rfl ?_
      refine ww_get 1 dX10_poorest_48 (hC.K0) rfl (by decide) inX10 wg_265 hC.D1 ?_
      refine ww_iload dX10_poorest_51 rfl ?_
      refine ww_cVr (M := m_X10_poorest) (pc := 53) (v := .int (f (183 + 0))) (h1 := h) (st := []) (bc := 0) (bs := 0) (c_Land_coins hst hL 0 (by omega)) vv_X2_coins dX10_poorest_53 wg_823 hL.1 rfl rfl rfl rfl (Nat.le_of_ble_eq_true rfl) (Nat.le_of_ble_eq_true rfl) (Nat.le_of_ble_eq_true rfl) (Nat.le_of_ble_eq_true rfl) ?_
      refine ww_sti_n (lv2 := [.ref 0, .int (nI 1), .int (nI 0), .int (f (183 + 0)), .int (nI 0)]) dX10_poorest_56 rfl rfl (by decide) rfl ?_
      refine ww_incN (c := 1) (lv2 := [.ref 0, .int (nI 1), .int (nI 0), .int (f (183 + 0)), .int (nI 1)]) dX10_poorest_57 rfl rfl rfl (by decide) rfl ?_
      refine ww_goto (tgt := 14) dX10_poorest_60 (by decide) ?_
      refine l_K_poorest hst hC hL (nI 1) (np - 1) 0 (by omega) ?_
      refine ww_iload_n dX10_poorest_63 rfl rfl ?_
      refine ww_if_neN (tgt := 71) dX10_poorest_64 (by decide) (by omega) (fun c64 => ?_) (fun c64 => ?_)
      · refine ww_iload_n dX10_poorest_71 rfl rfl ?_
        exact ww_iret dX10_poorest_72 rfl ⟨rfl, Same.rf⟩
      · exact absurd c64 (by decide)
    · exact absurd rfl c28
set_option maxHeartbeats 4000000 in
set_option maxRecDepth 100000 in
theorem c_K_poorest1_z {l : Launch} {Z : EE} (hst : l.stackTraces = false) {h : PH} {la lw bk : Nat} (hC : CL h la lw bk) {du : Nat} {f : Nat → Int32} (hL : LandAt h la 0 du f) : CC l Z m_X10_poorest 3 0 0 [.ref 0, .int (nI 1)] h (COk (-1) h) := by
  refine ee_entry hst (by decide +kernel) rfl rfl (by simp [Value.category]) (Nat.le_of_ble_eq_true rfl) ?_
  refine ww_lv (lv2 := [.ref 0, .int (nI 1), UU, UU, UU]) rfl ?_
  have hla := hC.la
  have hlw := hC.lw
  have hbk := hC.bk
  refine ww_aload_n dX10_poorest_0 rfl rfl ?_
  refine ww_iload_n dX10_poorest_1 rfl rfl ?_
  refine ww_iconst (v := nI 0) dX10_poorest_2 (by decide) ?_
  refine ww_iconst (v := nI 1) dX10_poorest_3 (by decide) ?_
  refine ww_cV0 (M := m_X10_poorest) (pc := 4) (h1 := h) (st := []) (bc := 0) (bs := 0) (c_within_t hst (nI 1) (nI 0) (nI 1) (by decide) (by decide) _) vv_X10_within dX10_poorest_4 wg_410 (hC.K0) rfl rfl rfl rfl (Nat.le_of_ble_eq_true rfl) (Nat.le_of_ble_eq_true rfl) (Nat.le_of_ble_eq_true rfl) (Nat.le_of_ble_eq_true rfl) ?_
  refine ww_iconst (v := -1) dX10_poorest_7 (by decide) ?_
  refine ww_sti_n (lv2 := [.ref 0, .int (nI 1), .int (-1), UU, UU]) dX10_poorest_8 rfl rfl (by decide) rfl ?_
  refine ww_iconst (v := -1) dX10_poorest_9 (by decide) ?_
  refine ww_sti_n (lv2 := [.ref 0, .int (nI 1), .int (-1), .int (-1), UU]) dX10_poorest_10 rfl rfl (by decide) rfl ?_
  refine ww_iconst (v := nI 0) dX10_poorest_11 (by decide) ?_
  refine ww_sti (lv2 := [.ref 0, .int (nI 1), .int (-1), .int (-1), .int (nI 0)]) dX10_poorest_12 rfl (by decide) rfl ?_
  refine ww_iload dX10_poorest_14 rfl ?_
  refine ww_aload_n dX10_poorest_16 rfl rfl ?_
  refine ww_get 1 dX10_poorest_17 (hC.K0) rfl (by decide) inX10 wg_265 hC.D1 ?_
  refine ww_getN 1 dX10_poorest_20 hL.1 rfl (by decide) inX2 wn_77 hL.2.2.2.1 ?_
  refine ww_icmp_geN (tgt := 63) dX10_poorest_23 (by decide) (by omega) (by omega) (fun c23 => ?_) (fun c23 => ?_)
  · refine ww_iload_n dX10_poorest_63 rfl rfl ?_
    refine ww_if_neN (tgt := 71) dX10_poorest_64 (by decide) (by omega) (fun c64 => ?_) (fun c64 => ?_)
    · refine ww_iload_n dX10_poorest_71 rfl rfl ?_
      exact ww_iret dX10_poorest_72 rfl ⟨rfl, Same.rf⟩
    · exact absurd c64 (by decide)
  · exact absurd c23 (by decide)
set_option maxHeartbeats 4000000 in
set_option maxRecDepth 100000 in
theorem c_K_poorest_no0 {l : Launch} {Z : EE} (hst : l.stackTraces = false) {h : PH} {la lw bk : Nat} (hC : CL h la lw bk) {np du : Nat} {f : Nat → Int32} (hL : LandAt h la np du f) {wr : Int32} (hwr : hp_F h 0 13 = .int wr) (w : Int32) (hout : ¬ (nI 0 ≤ w ∧ w ≤ nI 1)) : CC l Z m_X10_poorest 7 1 6 [.ref 0, .int w] h (TH iaX (hp_sF h 0 13 (.int (wr + nI 1)))) := by
  refine ee_entry hst (by decide +kernel) rfl rfl (by simp [Value.category]) (Nat.le_of_ble_eq_true rfl) ?_
  refine ww_lv (lv2 := [.ref 0, .int w, UU, UU, UU]) rfl ?_
  have hla := hC.la
  have hlw := hC.lw
  have hbk := hC.bk
  refine ww_aload_n dX10_poorest_0 rfl rfl ?_
  refine ww_iload_n dX10_poorest_1 rfl rfl ?_
  refine ww_iconst (v := nI 0) dX10_poorest_2 (by decide) ?_
  refine ww_iconst (v := nI 1) dX10_poorest_3 (by decide) ?_
  exact ww_cVt (M := m_X10_poorest) (pc := 4) (st := []) (bc := 0) (bs := 0) (c_within_f hst hC.K0 hwr w (nI 0) (nI 1) hout) vv_X10_within dX10_poorest_4 wg_410 (hC.K0) rfl rfl rfl rfl (Nat.le_of_ble_eq_true rfl) (Nat.le_of_ble_eq_true rfl) (Nat.le_of_ble_eq_true rfl) (Nat.le_of_ble_eq_true rfl) ⟨rfl, rfl⟩
