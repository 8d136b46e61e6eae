/-! ===== book, as the class answers it ===== -/
def bookF (b : Nat) : Nat → Nat → Prop := fun a j => (a = 1 ∧ 1 ≤ j) ∨ (a = b ∧ j = 2)
def bookY (b : Nat) : Nat → Nat → Prop := fun a j => (a = 1 ∧ 1 ≤ j) ∨ (a = b ∧ j = 2) ∨ (a = 0 ∧ (j = 5 ∨ j = 6))
theorem bookF_1 {b j : Nat} (h : 1 ≤ j) : bookF b 1 j := Or.inl ⟨rfl, h⟩
theorem bookF_b {b : Nat} : bookF b b 2 := Or.inr ⟨rfl, rfl⟩
theorem bookF_Y {b a j : Nat} (h : bookF b a j) : bookY b a j := h.elim (fun e => Or.inl e) (fun e => Or.inr (Or.inl e))
theorem bookY_0 {b j : Nat} (h : j = 5 ∨ j = 6) : bookY b 0 j := Or.inr (Or.inr ⟨rfl, h⟩)
theorem bookF_no {b a j : Nat} (h1 : a ≠ 1) (h2 : a ≠ b) : ¬ bookF b a j := fun e => by unfold bookF at e; omega
set_option maxHeartbeats 4000000 in
theorem c_Bo_readK_r {l : Launch} {Z : EE} (hst : l.stackTraces = false) {h : PH} {la lw bk : Nat} (hC : CL h la lw bk) {tf : Nat → Int32} (htf : hp_I h 2 = tf) {T : Nat → Nat} (hB : BT tf T) {tp : Nat} (htp : hp_F h 1 1 = .int (nI tp)) (ht6 : tp ≤ 600) {s0 : BKt} (hS : BookAt h (37 - bk) s0) (n : Nat) (hnt : n ≤ tp) (hn5 : n ≤ 100) {a9 : Nat} {s9 : BKt} (hr : bkL T n 9 (0, s0.2.1, s0.2.2) 0 = .inr (a9, s9)) : CC l Z m_X1_read 4 0 0 [.ref (37 - bk), .ref 1] (rdS (hp_sF h 1 1 (.int (nI 0))) n 0 0 (-1)) (RQ (some (.int (nI 1))) (fun g => Same (lawX (37 - bk)) (bookF (37 - bk)) h g ∧ BookAt g (37 - bk) s9 ∧ hp_F g 1 1 = .int (nI 0) ∧ hp_F g 1 5 = .int (-1))) := by
  have hla := hC.la
  have hlw := hC.lw
  have hbk := hC.bk
  have hR : RdK (hp_sF h 1 1 (.int (nI 0))) tf := ⟨hC.K1, hC.K2, hp_F_nj (by decide) hC.R1_0, htf⟩
  have hS1 := hS.s11 (a := 1) (j := 1) (v := .int (nI 0)) (by omega)
  have hb : BoK (hp_sF h 1 1 (.int (nI 0))) (37 - bk) := ⟨hS1.1, hS1.2.1, hS1.2.2.1, hS1.2.2.2.1, hS1.2.2.2.2.1, by omega⟩
  have hG : BkG s9 := by
    have h9 := bkL_x (T := T) (n := n) 9 (0, s0.2.1, s0.2.2) 0 ⟨Nat.zero_le _, fun i hi => absurd hi (Nat.not_lt_zero i)⟩ (Nat.zero_le _) rfl
    rw [hr] at h9
    exact h9.1
  have h9 := c_Bo_read_r (Z := Z) hst hR hB (by omega) hb s0 hr
  rw [boS_id hS1] at h9
  refine cc_post (fun r h' hp => ?_) h9
  obtain ⟨e1, rfl⟩ := hp
  exact ⟨e1, Same.rd (Same.bo (Same.sF Same.rf (bookF_1 (by decide))) lawX_1 lawX_2 bookF_b s9) (fun j hj => bookF_1 hj) n n 0 (-1), hS1.bor (by omega) hG.1 n n 0 (-1), rdS_j _ _ _ _ (by decide) (boS_o (by omega) (hp_F_eq _ _ _ _)), rdS_5 _ _ _ _ _⟩
set_option maxHeartbeats 4000000 in
theorem c_Bo_readK_l {l : Launch} {Z : EE} (hst : l.stackTraces = false) {h : PH} {la lw bk : Nat} (hC : CL h la lw bk) {tf : Nat → Int32} (htf : hp_I h 2 = tf) {T : Nat → Nat} (hB : BT tf T) {tp : Nat} (htp : hp_F h 1 1 = .int (nI tp)) (ht6 : tp ≤ 600) {s0 : BKt} (hS : BookAt h (37 - bk) s0) (n : Nat) (hnt : n ≤ tp) (hn5 : n ≤ 100) {k9 q9 : Nat} (hr : bkL T n 9 (0, s0.2.1, s0.2.2) 0 = .inl (k9, q9)) : CC l Z m_X1_read 4 0 0 [.ref (37 - bk), .ref 1] (rdS (hp_sF h 1 1 (.int (nI 0))) n 0 0 (-1)) (RQ (some (.int (nI 0))) (fun g => Same (lawX (37 - bk)) (bookF (37 - bk)) h g ∧ (∃ s9 : BKt, BookAt g (37 - bk) s9) ∧ hp_F g 1 1 = .int (nI 0) ∧ hp_F g 1 4 = .int (nI k9) ∧ hp_F g 1 5 = .int (nI q9))) := by
  have hla := hC.la
  have hlw := hC.lw
  have hbk := hC.bk
  have hR : RdK (hp_sF h 1 1 (.int (nI 0))) tf := ⟨hC.K1, hC.K2, hp_F_nj (by decide) hC.R1_0, htf⟩
  have hS1 := hS.s11 (a := 1) (j := 1) (v := .int (nI 0)) (by omega)
  have hb : BoK (hp_sF h 1 1 (.int (nI 0))) (37 - bk) := ⟨hS1.1, hS1.2.1, hS1.2.2.1, hS1.2.2.2.1, hS1.2.2.2.2.1, by omega⟩
  have h9 := c_Bo_read_l (Z := Z) hst hR hB (by omega) hb s0 hr
  rw [boS_id hS1] at h9
  refine cc_post (fun r h' hp => ?_) h9
  obtain ⟨e1, s9, hM, rfl⟩ := hp
  exact ⟨e1, Same.rd (Same.bo (Same.sF Same.rf (bookF_1 (by decide))) lawX_1 lawX_2 bookF_b s9) (fun j hj => bookF_1 hj) n n k9 (nI q9), ⟨s9, hS1.bor (by omega) hM n n k9 (nI q9)⟩, rdS_j _ _ _ _ (by decide) (boS_o (by omega) (hp_F_eq _ _ _ _)), rdS_4 _ _ _ _ _, rdS_5 _ _ _ _ _⟩
theorem clR_book : ∀ e ∈ clR, ∀ b : Nat, (b = 17 ∨ b = 20) → ¬ ((e.1 = 1 ∧ 1 ≤ e.2.1) ∨ (e.1 = b ∧ e.2.1 = 2) ∨ (e.1 = 0 ∧ (e.2.1 = 5 ∨ e.2.1 = 6))) := by
  intro e he b hb
  rcases hb with rfl | rfl <;> revert e he <;> decide
theorem CL.book {h h' : PH} {la lw bk : Nat} {X : Nat → Prop} (hC : CL h la lw bk) (hS : Same X (bookY (37 - bk)) h h') (h1 : hp_F h' 0 5 = .ref (37 - bk)) (h2 : hp_F h' 0 6 = .ref bk) : CL h' la lw (37 - bk) := by
  have hbk := hC.bk
  have hn : ∀ j, j ≠ 5 → j ≠ 6 → ¬ bookY (37 - bk) 0 j := fun j g1 g2 e => by
    unfold bookY at e
    omega
  refine ⟨fun i hi => (hS.2.1 i).trans (hC.kk i hi), fun e he => (hS.2.2.1 _ _ (clR_book e he _ (by omega))).trans (hC.rr e he), (hS.2.2.1 _ _ (hn 1 (by decide) (by decide))).trans hC.D1, (hS.2.2.1 _ _ (hn 2 (by decide) (by decide))).trans hC.D2, (hS.2.2.1 _ _ (hn 3 (by decide) (by decide))).trans hC.D3, (hS.2.2.1 _ _ (hn 4 (by decide) (by decide))).trans hC.D4, h1, ?_, hC.la, hC.lw, by omega⟩
  rw [show 37 - (37 - bk) = bk by omega]
  exact h2
set_option maxHeartbeats 4000000 in
set_option maxRecDepth 100000 in
theorem c_K_book {l : Launch} {Z : EE} (hst : l.stackTraces = false) {h : PH} {la lw bk : Nat} (hC : CL h la lw bk) {tf : Nat → Int32} (htf : hp_I h 2 = tf) {T : Nat → Nat} (hB : BT tf T) {tp : Nat} (htp : hp_F h 1 1 = .int (nI tp)) (ht6 : tp ≤ 600) {s0 : BKt} (hS : BookAt h (37 - bk) s0) (n : Nat) (hnt : n ≤ tp) (hn5 : n ≤ 100) {a9 : Nat} {s9 : BKt} (hr : bkL T n 9 (0, s0.2.1, s0.2.2) 0 = .inr (a9, s9)) : CC l Z m_X10_book 8 0 0 [.ref 0, .int (nI n)] h (RQ (some (.int (nI s9.1))) (fun h9 => Same (lawX (37 - bk)) (bookY (37 - bk)) h h9 ∧ CL h9 la lw (37 - bk) ∧ BookAt h9 (37 - bk) s9 ∧ hp_F h9 1 1 = .int (nI 0) ∧ hp_F h9 1 5 = .int (-1))) := by
  refine ee_entry hst (by decide +kernel) rfl rfl (by simp [Value.category]) (Nat.le_of_ble_eq_true rfl) ?_
  refine ww_lv (lv2 := [.ref 0, .int (nI n), UU]) rfl ?_
  have hla := hC.la
  have hlw := hC.lw
  have hbk := hC.bk
  have hR : RdK (hp_sF h 1 1 (.int (nI 0))) tf := ⟨hC.K1, hC.K2, hp_F_nj (by decide) hC.R1_0, htf⟩
  have hS1 := hS.s11 (a := 1) (j := 1) (v := .int (nI 0)) (by omega)
  have hb : BoK (hp_sF h 1 1 (.int (nI 0))) (37 - bk) := ⟨hS1.1, hS1.2.1, hS1.2.2.1, hS1.2.2.2.1, hS1.2.2.2.2.1, by omega⟩
  have hW0 : hp_K h bk = (1, 3) := by rcases hbk with e | e; rw [e]; exact hC.K17; rw [e]; exact hC.K20
  refine ww_aload_n dX10_book_0 rfl rfl ?_
  refine ww_iload_n dX10_book_1 rfl rfl ?_
  refine ww_iconst (v := nI 0) dX10_book_2 (by decide) ?_
  refine ww_aload_n dX10_book_3 rfl rfl ?_
  refine ww_get 0 dX10_book_4 (hC.K0) rfl (by decide) inX10 wg_264 (hC.R0_0) ?_
  refine ww_getN 1 dX10_book_7 (hC.K1) rfl (by decide) inX5 wn_40 htp ?_
  refine ww_bipush (v := nI 100) dX10_book_10 (by decide) ?_
  refine ww_cSr (M := m_X10_book) (pc := 12) (v := .int (nI (min tp 100))) (h1 := h) (st := [.int (nI 0), .int (nI n), .ref 0]) (d := 8) (bc := 0) (bs := 0) (c_minN hst tp 100 (by omega) (by omega) h) vv_J9_min_7cf53 dX10_book_12 wg_603 rfl rfl rfl (Nat.le_of_ble_eq_true rfl) (Nat.le_of_ble_eq_true rfl) (Nat.le_of_ble_eq_true rfl) (Nat.le_of_ble_eq_true rfl) ?_
  refine ww_cV0 (M := m_X10_book) (pc := 15) (h1 := h) (st := []) (d := 8) (bc := 0) (bs := 0) (c_within_t hst (nI n) (nI 0) (nI (min tp 100)) (nI_le (by omega) (by omega)) (nI_le (by omega) (by omega)) _) vv_X10_within dX10_book_15 wg_410 (hC.K0) rfl rfl rfl rfl (Nat.le_of_ble_eq_true rfl) (Nat.le_of_ble_eq_true rfl) (Nat.le_of_ble_eq_true rfl) (Nat.le_of_ble_eq_true rfl) ?_
  refine ww_aload_n dX10_book_18 rfl rfl ?_
  refine ww_get 0 dX10_book_19 (hC.K0) rfl (by decide) inX10 wg_264 (hC.R0_0) ?_
  refine ww_iload_n dX10_book_22 rfl rfl ?_
  refine ww_cV0 (M := m_X10_book) (pc := 23) (h1 := rdS (hp_sF h 1 1 (.int (nI 0))) n 0 0 (-1)) (st := []) (d := 8) (bc := 0) (bs := 0) (c_Rd_open hst (tf := tf) ⟨hC.K1, hC.K2, hC.R1_0, htf⟩ n) vv_X5_open dX10_book_23 wg_481 (hC.K1) rfl rfl rfl rfl (Nat.le_of_ble_eq_true rfl) (Nat.le_of_ble_eq_true rfl) (Nat.le_of_ble_eq_true rfl) (Nat.le_of_ble_eq_true rfl) ?_
  refine ww_aload_n dX10_book_26 rfl rfl ?_
  refine ww_get 6 dX10_book_27 (hC.K0) rfl (by decide) inX10 wg_270 (rdS_o _ _ _ _ (by omega) (hp_F_na (by omega) hC.D6)) ?_
  refine ww_aload_n dX10_book_30 rfl rfl ?_
  refine ww_get 0 dX10_book_31 (hC.K0) rfl (by decide) inX10 wg_264 (rdS_o _ _ _ _ (by omega) (hp_F_na (by omega) (hC.R0_0))) ?_
  refine ww_cVq (M := m_X10_book) (pc := 34) (v := .int (nI 1)) (st := []) (d := 8) (bc := 0) (bs := 0) (c_Bo_readK_r hst hC htf hB htp ht6 hS n hnt hn5 hr) vv_X1_read dX10_book_34 wg_754 hS.1 rfl rfl rfl rfl (Nat.le_of_ble_eq_true rfl) (Nat.le_of_ble_eq_true rfl) (Nat.le_of_ble_eq_true rfl) (Nat.le_of_ble_eq_true rfl) (fun hq qq => ?_)
  obtain ⟨sq, qL, q11, q15⟩ := qq
  refine ww_if_neN (tgt := 48) dX10_book_37 (by decide) (by omega) (fun c37 => ?_) (fun c37 => ?_)
  · refine ww_aload_n dX10_book_48 rfl rfl ?_
    refine ww_get 5 dX10_book_49 ((sq.2.1 _).trans (hC.K0)) rfl (by decide) inX10 wg_269 ((sq.2.2.1 _ _ (bookF_no (by omega) (by omega))).trans hC.D5) ?_
    refine ww_sta_n (lv2 := [.ref 0, .int (nI n), .ref bk]) dX10_book_52 rfl rfl (by decide) rfl ?_
    refine ww_aload_n dX10_book_53 rfl rfl ?_
    refine ww_aload_n dX10_book_54 rfl rfl ?_
    refine ww_get 6 dX10_book_55 ((sq.2.1 _).trans (hC.K0)) rfl (by decide) inX10 wg_270 ((sq.2.2.1 _ _ (bookF_no (by omega) (by omega))).trans hC.D6) ?_
    refine ww_put tyX10 5 dX10_book_58 ((sq.2.1 _).trans (hC.K0)) rfl (by decide) inX10 tyX10_ok nmX10 wg_269 rfl (ee_na_ref (Or.inl ⟨_, rfl⟩)) ?_
    refine ww_aload_n dX10_book_61 rfl rfl ?_
    refine ww_aload_n dX10_book_62 rfl rfl ?_
    refine ww_put tyX10 6 dX10_book_63 ((sq.2.1 _).trans (hC.K0)) rfl (by decide) inX10 tyX10_ok nmX10 wg_270 rfl (ee_na_ref (Or.inl ⟨_, rfl⟩)) ?_
    refine ww_aload_n dX10_book_66 rfl rfl ?_
    refine ww_get 5 dX10_book_67 ((sq.2.1 _).trans (hC.K0)) rfl (by decide) inX10 wg_269 (hp_F_nj (by decide) (hp_F_eq _ _ _ _)) ?_
    refine ww_getN 2 dX10_book_70 ((sq.2.1 _).trans hS.1) rfl (by decide) inX1 wn_119 (hp_F_nj (by decide) (hp_F_nj (by decide) qL.2.2.2.2.2.1)) ?_
    exact ww_iret dX10_book_73 rfl ⟨rfl, Same.sF (Same.sF (sq.mono (fun _ e => e) (fun _ _ e => bookF_Y e)) (bookY_0 (by decide))) (bookY_0 (by decide)), CL.book hC (Same.sF (Same.sF (sq.mono (fun _ e => e) (fun _ _ e => bookF_Y e)) (bookY_0 (by decide))) (bookY_0 (by decide))) (hp_F_nj (by decide) (hp_F_eq _ _ _ _)) (hp_F_eq _ _ _ _), (qL.s11 (by omega)).s11 (by omega), (hp_F_nj (by decide) (hp_F_nj (by decide) q11)), (hp_F_nj (by decide) (hp_F_na (by omega) q15))⟩
  · exact absurd c37 (by decide)
set_option maxHeartbeats 4000000 in
set_option maxRecDepth 100000 in
theorem c_K_book_l {l : Launch} {Z : EE} (hst : l.stackTraces = false) {h : PH} {la lw bk : Nat} (hC : CL h la lw bk) {tf : Nat → Int32} (htf : hp_I h 2 = tf) {T : Nat → Nat} (hB : BT tf T) {tp : Nat} (htp : hp_F h 1 1 = .int (nI tp)) (ht6 : tp ≤ 600) {s0 : BKt} (hS : BookAt h (37 - bk) s0) (n : Nat) (hnt : n ≤ tp) (hn5 : n ≤ 100) {k9 q9 : Nat} (hr : bkL T n 9 (0, s0.2.1, s0.2.2) 0 = .inl (k9, q9)) : CC l Z m_X10_book 8 0 0 [.ref 0, .int (nI n)] h (RQ (some (.int (nI k9 - nI 10))) (fun h9 => Same (lawX (37 - bk)) (bookF (37 - bk)) h h9 ∧ (∃ s9 : BKt, BookAt h9 (37 - bk) s9) ∧ hp_F h9 1 1 = .int (nI 0) ∧ hp_F h9 1 5 = .int (nI q9))) := by
  refine ee_entry hst (by decide +kernel) rfl rfl (by simp [Value.category]) (Nat.le_of_ble_eq_true rfl) ?_
  refine ww_lv (lv2 := [.ref 0, .int (nI n), UU]) rfl ?_
  have hla := hC.la
  have hlw := hC.lw
  have hbk := hC.bk
  have hR : RdK (hp_sF h 1 1 (.int (nI 0))) tf := ⟨hC.K1, hC.K2, hp_F_nj (by decide) hC.R1_0, htf⟩
  have hS1 := hS.s11 (a := 1) (j := 1) (v := .int (nI 0)) (by omega)
  have hb : BoK (hp_sF h 1 1 (.int (nI 0))) (37 - bk) := ⟨hS1.1, hS1.2.1, hS1.2.2.1, hS1.2.2.2.1, hS1.2.2.2.2.1, by omega⟩
  have hW0 : hp_K h bk = (1, 3) := by rcases hbk with e | e; rw [e]; exact hC.K17; rw [e]; exact hC.K20
  refine ww_aload_n dX10_book_0 rfl rfl ?_
  refine ww_iload_n dX10_book_1 rfl rfl ?_
  refine ww_iconst (v := nI 0) dX10_book_2 (by decide) ?_
  refine ww_aload_n dX10_book_3 rfl rfl ?_
  refine ww_get 0 dX10_book_4 (hC.K0) rfl (by decide) inX10 wg_264 (hC.R0_0) ?_
  refine ww_getN 1 dX10_book_7 (hC.K1) rfl (by decide) inX5 wn_40 htp ?_
  refine ww_bipush (v := nI 100) dX10_book_10 (by decide) ?_
  refine ww_cSr (M := m_X10_book) (pc := 12) (v := .int (nI (min tp 100))) (h1 := h) (st := [.int (nI 0), .int (nI n), .ref 0]) (d := 8) (bc := 0) (bs := 0) (c_minN hst tp 100 (by omega) (by omega) h) vv_J9_min_7cf53 dX10_book_12 wg_603 rfl rfl rfl (Nat.le_of_ble_eq_true rfl) (Nat.le_of_ble_eq_true rfl) (Nat.le_of_ble_eq_true rfl) (Nat.le_of_ble_eq_true rfl) ?_
  refine ww_cV0 (M := m_X10_book) (pc := 15) (h1 := h) (st := []) (d := 8) (bc := 0) (bs := 0) (c_within_t hst (nI n) (nI 0) (nI (min tp 100)) (nI_le (by omega) (by omega)) (nI_le (by omega) (by omega)) _) vv_X10_within dX10_book_15 wg_410 (hC.K0) rfl rfl rfl rfl (Nat.le_of_ble_eq_true rfl) (Nat.le_of_ble_eq_true rfl) (Nat.le_of_ble_eq_true rfl) (Nat.le_of_ble_eq_true rfl) ?_
  refine ww_aload_n dX10_book_18 rfl rfl ?_
  refine ww_get 0 dX10_book_19 (hC.K0) rfl (by decide) inX10 wg_264 (hC.R0_0) ?_
  refine ww_iload_n dX10_book_22 rfl rfl ?_
  refine ww_cV0 (M := m_X10_book) (pc := 23) (h1 := rdS (hp_sF h 1 1 (.int (nI 0))) n 0 0 (-1)) (st := []) (d := 8) (bc := 0) (bs := 0) (c_Rd_open hst (tf := tf) ⟨hC.K1, hC.K2, hC.R1_0, htf⟩ n) vv_X5_open dX10_book_23 wg_481 (hC.K1) rfl rfl rfl rfl (Nat.le_of_ble_eq_true rfl) (Nat.le_of_ble_eq_true rfl) (Nat.le_of_ble_eq_true rfl) (Nat.le_of_ble_eq_true rfl) ?_
  refine ww_aload_n dX10_book_26 rfl rfl ?_
  refine ww_get 6 dX10_book_27 (hC.K0) rfl (by decide) inX10 wg_270 (rdS_o _ _ _ _ (by omega) (hp_F_na (by omega) hC.D6)) ?_
  refine ww_aload_n dX10_book_30 rfl rfl ?_
  refine ww_get 0 dX10_book_31 (hC.K0) rfl (by decide) inX10 wg_264 (rdS_o _ _ _ _ (by omega) (hp_F_na (by omega) (hC.R0_0))) ?_
  refine ww_cVq (M := m_X10_book) (pc := 34) (v := .int (nI 0)) (st := []) (d := 8) (bc := 0) (bs := 0) (c_Bo_readK_l hst hC htf hB htp ht6 hS n hnt hn5 hr) vv_X1_read dX10_book_34 wg_754 hS.1 rfl rfl rfl rfl (Nat.le_of_ble_eq_true rfl) (Nat.le_of_ble_eq_true rfl) (Nat.le_of_ble_eq_true rfl) (Nat.le_of_ble_eq_true rfl) (fun hq qq => ?_)
  obtain ⟨sq, qL, q11, q14, q15⟩ := qq
  refine ww_if_neN (tgt := 48) dX10_book_37 (by decide) (by omega) (fun c37 => ?_) (fun c37 => ?_)
  · exact absurd c37 (by decide)
  · refine ww_aload_n dX10_book_40 rfl rfl ?_
    refine ww_get 0 dX10_book_41 ((sq.2.1 _).trans (hC.K0)) rfl (by decide) inX10 wg_264 ((sq.2.2.1 _ _ (bookF_no (by omega) (by omega))).trans (hC.R0_0)) ?_
    refine ww_cVr (M := m_X10_book) (pc := 44) (v := .int (nI k9 - nI 10)) (h1 := hq) (st := []) (d := 8) (bc := 0) (bs := 0) (c_Rd_answerK hst ((sq.2.1 _).trans hC.K1) q14) vv_X5_answer dX10_book_44 wg_584 ((sq.2.1 _).trans (hC.K1)) rfl rfl rfl rfl (Nat.le_of_ble_eq_true rfl) (Nat.le_of_ble_eq_true rfl) (Nat.le_of_ble_eq_true rfl) (Nat.le_of_ble_eq_true rfl) ?_
    exact ww_iret dX10_book_47 rfl ⟨rfl, sq, qL, q11, q15⟩
set_option maxHeartbeats 4000000 in
set_option maxRecDepth 100000 in
theorem c_K_book_no {l : Launch} {Z : EE} (hst : l.stackTraces = false) {h : PH} {la lw bk : Nat} (hC : CL h la lw bk) {tp : Nat} (htp : hp_F h 1 1 = .int (nI tp)) (ht6 : tp ≤ 600) {wr : Int32} (hwr : hp_F h 0 13 = .int wr) (n : Int32) (hout : ¬ (nI 0 ≤ n ∧ n ≤ nI (min tp 100))) : CC l Z m_X10_book 7 1 6 [.ref 0, .int n] h (TH iaX (hp_sF h 0 13 (.int (wr + nI 1)))) := by
  refine ee_entry hst (by decide +kernel) rfl rfl (by simp [Value.category]) (Nat.le_of_ble_eq_true rfl) ?_
  refine ww_lv (lv2 := [.ref 0, .int n, UU]) rfl ?_
  refine ww_aload_n dX10_book_0 rfl rfl ?_
  refine ww_iload_n dX10_book_1 rfl rfl ?_
  refine ww_iconst (v := nI 0) dX10_book_2 (by decide) ?_
  refine ww_aload_n dX10_book_3 rfl rfl ?_
  refine ww_get 0 dX10_book_4 (hC.K0) rfl (by decide) inX10 wg_264 (hC.R0_0) ?_
  refine ww_getN 1 dX10_book_7 (hC.K1) rfl (by decide) inX5 wn_40 htp ?_
  refine ww_bipush (v := nI 100) dX10_book_10 (by decide) ?_
  refine ww_cSr (M := m_X10_book) (pc := 12) (v := .int (nI (min tp 100))) (h1 := h) (st := [.int (nI 0), .int n, .ref 0]) (d := 7) (bc := 1) (bs := 6) (c_minN hst tp 100 (by omega) (by omega) h) vv_J9_min_7cf53 dX10_book_12 wg_603 rfl rfl rfl (Nat.le_of_ble_eq_true rfl) (Nat.le_of_ble_eq_true rfl) (Nat.le_of_ble_eq_true rfl) (Nat.le_of_ble_eq_true rfl) ?_
  exact ww_cVt (M := m_X10_book) (pc := 15) (st := []) (d := 7) (bc := 0) (bs := 0) (c_within_f hst hC.K0 hwr n (nI 0) (nI (min tp 100)) hout) vv_X10_within dX10_book_15 wg_410 (hC.K0) rfl rfl rfl rfl (Nat.le_of_ble_eq_true rfl) (Nat.le_of_ble_eq_true rfl) (Nat.le_of_ble_eq_true rfl) (Nat.le_of_ble_eq_true rfl) ⟨rfl, rfl⟩
