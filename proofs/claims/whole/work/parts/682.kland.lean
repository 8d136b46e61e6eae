set_option maxHeartbeats 4000000 in
set_option maxRecDepth 100000 in
theorem c_Rd_answerK {l : Launch} {Z : EE} (hst : l.stackTraces = false) {h : PH} (hk : hp_K h 1 = (5, 6)) {k : Nat} (h4 : hp_F h 1 4 = .int (nI k)) : CC l Z m_X5_answer 0 0 0 [.ref 1] h (RT (some (.int (nI k - nI 10))) h) := by
  refine ee_entry hst (by decide +kernel) rfl rfl (by simp [Value.category]) (Nat.le_of_ble_eq_true rfl) ?_
  refine ww_lv (lv2 := [.ref 1]) rfl ?_
  refine ww_aload_n dX5_answer_0 rfl rfl ?_
  refine ww_get 4 dX5_answer_1 hk rfl (by decide) inX5 wg_47 h4 ?_
  refine ww_bipush (v := nI 10) dX5_answer_4 (by decide) ?_
  refine ww_isub dX5_answer_6 ?_
  exact ww_iret dX5_answer_7 rfl ⟨rfl, rfl⟩
set_option maxHeartbeats 4000000 in
set_option maxRecDepth 100000 in
theorem c_K_land_l {l : Launch} {Z : EE} (hst : l.stackTraces = false) {h : PH} {la lw bk : Nat} (hC : CL h la lw bk) {tf : Nat → Int32} (htf : hp_I h 2 = tf) {T : Nat → Nat} (hB : BT tf T) {tp : Nat} (htp : hp_F h 1 1 = .int (nI tp)) (ht6 : tp ≤ 600) {np0 du0 : Nat} {f0 : Nat → Int32} (hS : LandAt h (8 - la) np0 du0 f0) (hz : RowZ f0) (n : Nat) (hnt : n ≤ tp) {k9 q9 : Nat} (hr : ldS T n 61 0 em0 0 = .inl (k9, q9)) : CC l Z m_X10_land 9 0 0 [.ref 0, .int (nI n)] h (RQ (some (.int (nI k9 - nI 10))) (fun h9 => Same (landX (8 - la)) (landF (8 - la)) h h9 ∧ (∃ s9 : LSt, LsI s9 ∧ LandAt h9 (8 - la) s9.1 s9.2.1 s9.2.2) ∧ hp_F h9 1 1 = .int (nI 0) ∧ hp_F h9 1 5 = .int (nI q9))) := by
  refine ee_entry hst (by decide +kernel) rfl rfl (by simp [Value.category]) (Nat.le_of_ble_eq_true rfl) ?_
  refine ww_lv (lv2 := [.ref 0, .int (nI n), UU]) rfl ?_
  have hla := hC.la
  have hlw := hC.lw
  have hbk := hC.bk
  have hR : RdK (hp_sF h 1 1 (.int (nI 0))) tf := ⟨hC.K1, hC.K2, hp_F_nj (by decide) hC.R1_0, htf⟩
  have hb : LnK (hp_sF h 1 1 (.int (nI 0))) (8 - la) := ⟨hS.1, hS.2.1, hp_F_na (by omega) hS.2.2.1, by omega⟩
  have hW0 : hp_K h lw = (3, 5) := by rcases hlw with e | e; rw [e]; exact hC.K7; rw [e]; exact hC.K12
  have hB0 : hp_K h bk = (1, 3) := by rcases hbk with e | e; rw [e]; exact hC.K17; rw [e]; exact hC.K20
  have hLa : hp_K h la = (2, 3) := by rcases hla with e | e; rw [e]; exact hC.K3; rw [e]; exact hC.K5
  refine ww_aload_n dX10_land_0 rfl rfl ?_
  refine ww_iload_n dX10_land_1 rfl rfl ?_
  refine ww_iconst (v := nI 0) dX10_land_2 (by decide) ?_
  refine ww_aload_n dX10_land_3 rfl rfl ?_
  refine ww_get 0 dX10_land_4 (hC.K0) rfl (by decide) inX10 wg_264 (hC.R0_0) ?_
  refine ww_getN 1 dX10_land_7 (hC.K1) rfl (by decide) inX5 wn_40 htp ?_
  refine ww_cV0 (M := m_X10_land) (pc := 10) (h1 := h) (st := []) (d := 9) (bc := 0) (bs := 0) (c_within_t hst (nI n) (nI 0) (nI tp) (nI_le (by omega) (by omega)) (nI_le (by omega) (by omega)) _) vv_X10_within dX10_land_10 wg_410 (hC.K0) rfl rfl rfl rfl (Nat.le_of_ble_eq_true rfl) (Nat.le_of_ble_eq_true rfl) (Nat.le_of_ble_eq_true rfl) (Nat.le_of_ble_eq_true rfl) ?_
  refine ww_aload_n dX10_land_13 rfl rfl ?_
  refine ww_get 0 dX10_land_14 (hC.K0) rfl (by decide) inX10 wg_264 (hC.R0_0) ?_
  refine ww_iload_n dX10_land_17 rfl rfl ?_
  refine ww_cV0 (M := m_X10_land) (pc := 18) (h1 := rdS (hp_sF h 1 1 (.int (nI 0))) n 0 0 (-1)) (st := []) (d := 9) (bc := 0) (bs := 0) (c_Rd_open hst (tf := tf) ⟨hC.K1, hC.K2, hC.R1_0, htf⟩ n) vv_X5_open dX10_land_18 wg_481 (hC.K1) rfl rfl rfl rfl (Nat.le_of_ble_eq_true rfl) (Nat.le_of_ble_eq_true rfl) (Nat.le_of_ble_eq_true rfl) (Nat.le_of_ble_eq_true rfl) ?_
  refine ww_aload_n dX10_land_21 rfl rfl ?_
  refine ww_get 2 dX10_land_22 (hC.K0) rfl (by decide) inX10 wg_266 (rdS_o _ _ _ _ (by omega) (hp_F_na (by omega) hC.D2)) ?_
  refine ww_aload_n dX10_land_25 rfl rfl ?_
  refine ww_get 0 dX10_land_26 (hC.K0) rfl (by decide) inX10 wg_264 (rdS_o _ _ _ _ (by omega) (hp_F_na (by omega) (hC.R0_0))) ?_
  refine ww_cVq (M := m_X10_land) (pc := 29) (v := .int (nI 0)) (st := []) (d := 9) (bc := 0) (bs := 0) (c_Ln_readK_l hst hC htf hB htp ht6 hS hz n hnt hr) vv_X2_read dX10_land_29 wg_485 hS.1 rfl rfl rfl rfl (Nat.le_of_ble_eq_true rfl) (Nat.le_of_ble_eq_true rfl) (Nat.le_of_ble_eq_true rfl) (Nat.le_of_ble_eq_true rfl) (fun hq qq => ?_)
  obtain ⟨sq, qL, q11, q14, q15⟩ := qq
  refine ww_if_neN (tgt := 43) dX10_land_32 (by decide) (by omega) (fun c32 => ?_) (fun c32 => ?_)
  · exact absurd c32 (by decide)
  · refine ww_aload_n dX10_land_35 rfl rfl ?_
    refine ww_get 0 dX10_land_36 ((sq.2.1 _).trans (hC.K0)) rfl (by decide) inX10 wg_264 ((sq.2.2.1 _ _ (landF_no (by omega) (by omega))).trans (hC.R0_0)) ?_
    refine ww_cVr (M := m_X10_land) (pc := 39) (v := .int (nI k9 - nI 10)) (h1 := hq) (st := []) (d := 9) (bc := 0) (bs := 0) (c_Rd_answerK hst ((sq.2.1 _).trans hC.K1) q14) vv_X5_answer dX10_land_39 wg_584 ((sq.2.1 _).trans (hC.K1)) rfl rfl rfl rfl (Nat.le_of_ble_eq_true rfl) (Nat.le_of_ble_eq_true rfl) (Nat.le_of_ble_eq_true rfl) (Nat.le_of_ble_eq_true rfl) ?_
    exact ww_iret dX10_land_42 rfl ⟨rfl, sq, qL, q11, q15⟩
set_option maxHeartbeats 4000000 in
set_option maxRecDepth 100000 in
theorem c_K_land_no {l : Launch} {Z : EE} (hst : l.stackTraces = false) {h : PH} {la lw bk : Nat} (hC : CL h la lw bk) {tp : Nat} (htp : hp_F h 1 1 = .int (nI tp)) {wr : Int32} (hwr : hp_F h 0 13 = .int wr) (n : Int32) (hout : ¬ (nI 0 ≤ n ∧ n ≤ nI tp)) : CC l Z m_X10_land 7 1 6 [.ref 0, .int n] h (TH iaX (hp_sF h 0 13 (.int (wr + nI 1)))) := by
  refine ee_entry hst (by decide +kernel) rfl rfl (by simp [Value.category]) (Nat.le_of_ble_eq_true rfl) ?_
  refine ww_lv (lv2 := [.ref 0, .int n, UU]) rfl ?_
  refine ww_aload_n dX10_land_0 rfl rfl ?_
  refine ww_iload_n dX10_land_1 rfl rfl ?_
  refine ww_iconst (v := nI 0) dX10_land_2 (by decide) ?_
  refine ww_aload_n dX10_land_3 rfl rfl ?_
  refine ww_get 0 dX10_land_4 (hC.K0) rfl (by decide) inX10 wg_264 (hC.R0_0) ?_
  refine ww_getN 1 dX10_land_7 (hC.K1) rfl (by decide) inX5 wn_40 htp ?_
  exact ww_cVt (M := m_X10_land) (pc := 10) (st := []) (d := 7) (bc := 0) (bs := 0) (c_within_f hst hC.K0 hwr n (nI 0) (nI tp) hout) vv_X10_within dX10_land_10 wg_410 (hC.K0) rfl rfl rfl rfl (Nat.le_of_ble_eq_true rfl) (Nat.le_of_ble_eq_true rfl) (Nat.le_of_ble_eq_true rfl) (Nat.le_of_ble_eq_true rfl) ⟨rfl, rfl⟩
