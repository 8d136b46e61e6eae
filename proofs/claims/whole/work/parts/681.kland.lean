set_option maxHeartbeats 4000000 in
set_option maxRecDepth 100000 in
theorem c_K_land {l : Launch} {Z : EE} (hst : l.stackTraces = false) {h : PH} {la lw bk : Nat} (hC : CL h la lw bk) {tf : Nat → Int32} (htf : hp_I h 2 = tf) {T : Nat → Nat} (hB : BT tf T) {tp : Nat} (htp : hp_F h 1 1 = .int (nI tp)) (ht6 : tp ≤ 600) {np0 du0 : Nat} {f0 : Nat → Int32} (hS : LandAt h (8 - la) np0 du0 f0) (hz : RowZ f0) (n : Nat) (hnt : n ≤ tp) {a9 : Nat} {s9 : LSt} (hr : ldS T n 61 0 em0 0 = .inr (a9, s9)) : CC l Z m_X10_land 9 0 0 [.ref 0, .int (nI n)] h (RQ (some (.int (nI s9.1))) (fun h9 => Same (landX (8 - la)) (landY (8 - la) lw bk) h h9 ∧ CL h9 (8 - la) lw bk ∧ LandAt h9 (8 - la) s9.1 s9.2.1 s9.2.2 ∧ hp_F h9 lw 4 = .int (nI 0) ∧ hp_F h9 bk 2 = .int (nI 0) ∧ hp_F h9 0 8 = .null ∧ hp_F h9 0 10 = .int (nI 0) ∧ hp_F h9 0 11 = .int (nI 0) ∧ hp_F h9 1 1 = .int (nI 0) ∧ hp_F h9 1 5 = .int (-1))) := by
  refine ee_entry hst (by decide +kernel) rfl rfl (by simp [Value.category]) (Nat.le_of_ble_eq_true rfl) ?_
  refine ww_lv (lv2 := [.ref 0, .int (nI n), UU]) rfl ?_
  have hla := hC.la
  have hlw := hC.lw
  have hbk := hC.bk
  have hR : RdK (hp_sF h 1 1 (.int (nI 0))) tf := ⟨hC.K1, hC.K2, hp_F_nj (by decide) hC.R1_0, htf⟩
  have hb : LnK (hp_sF h 1 1 (.int (nI 0))) (8 - la) := ⟨hS.1, hS.2.1, hp_F_na (by omega) hS.2.2.1, by omega⟩
  have hW0 : hp_K h lw = (3, 5) := by rcases hlw with e | e; rw [e]; exact hC.K7; rw [e]; exact hC.K12
  have hB0 : hp_K h bk = (1, 3) := by rcases hbk with e | e; rw [e]; exact hC.K17; rw [e]; exact hC.K20
  have hLa : hp_K h la = (2, 3) := by rcases hla with e | e; rw [e]; exact hC.K3; rw [e]; exact hC.K5
  refine ww_aload_n dX10_land_0 rfl rfl ?_
  refine ww_iload_n dX10_land_1 rfl rfl ?_
  refine ww_iconst (v := nI 0) dX10_land_2 (by decide) ?_
  refine ww_aload_n dX10_land_3 rfl rfl ?_
  refine ww_get 0 dX10_land_4 (hC.K0) rfl (by decide) inX10 wg_264 (hC.R0_0) ?_
  refine ww_getN 1 dX10_land_7 (hC.K1) rfl (by decide) inX5 wn_40 htp ?_
  refine ww_cV0 (M := m_X10_land) (pc := 10) (h1 := h) (st := []) (d := 9) (bc := 0) (bs := 0) (c_within_t hst (nI n) (nI 0) (nI tp) (nI_le (by omega) (by omega)) (nI_le (by omega) (by omega)) _) vv_X10_within dX10_land_10 wg_410 (hC.K0) rfl rfl rfl rfl (Nat.le_of_ble_eq_true rfl) (Nat.le_of_ble_eq_true rfl) (Nat.le_of_ble_eq_true rfl) (Nat.le_of_ble_eq_true rfl) ?_
  refine ww_aload_n dX10_land_13 rfl rfl ?_
  refine ww_get 0 dX10_land_14 (hC.K0) rfl (by decide) inX10 wg_264 (hC.R0_0) ?_
  refine ww_iload_n dX10_land_17 rfl rfl ?_
  refine ww_cV0 (M := m_X10_land) (pc := 18) (h1 := rdS (hp_sF h 1 1 (.int (nI 0))) n 0 0 (-1)) (st := []) (d := 9) (bc := 0) (bs := 0) (c_Rd_open hst (tf := tf) ⟨hC.K1, hC.K2, hC.R1_0, htf⟩ n) vv_X5_open dX10_land_18 wg_481 (hC.K1) rfl rfl rfl rfl (Nat.le_of_ble_eq_true rfl) (Nat.le_of_ble_eq_true rfl) (Nat.le_of_ble_eq_true rfl) (Nat.le_of_ble_eq_true rfl) ?_
  refine ww_aload_n dX10_land_21 rfl rfl ?_
  refine ww_get 2 dX10_land_22 (hC.K0) rfl (by decide) inX10 wg_266 (rdS_o _ _ _ _ (by omega) (hp_F_na (by omega) hC.D2)) ?_
  refine ww_aload_n dX10_land_25 rfl rfl ?_
  refine ww_get 0 dX10_land_26 (hC.K0) rfl (by decide) inX10 wg_264 (rdS_o _ _ _ _ (by omega) (hp_F_na (by omega) (hC.R0_0))) ?_
  refine ww_cVq (M := m_X10_land) (pc := 29) (v := .int (nI 1)) (st := []) (d := 9) (bc := 0) (bs := 0) (c_Ln_readK_r hst hC htf hB htp ht6 hS hz n hnt hr) vv_X2_read dX10_land_29 wg_485 hS.1 rfl rfl rfl rfl (Nat.le_of_ble_eq_true rfl) (Nat.le_of_ble_eq_true rfl) (Nat.le_of_ble_eq_true rfl) (Nat.le_of_ble_eq_true rfl) (fun hq qq => ?_)
  obtain ⟨sq, qL, q11, q15⟩ := qq
  refine ww_if_neN (tgt := 43) dX10_land_32 (by decide) (by omega) (fun c32 => ?_) (fun c32 => ?_)
  · refine ww_aload_n dX10_land_43 rfl rfl ?_
    refine ww_get 1 dX10_land_44 ((sq.2.1 _).trans (hC.K0)) rfl (by decide) inX10 wg_265 ((sq.2.2.1 _ _ (landF_no (by omega) (by omega))).trans hC.D1) ?_
    refine ww_sta_n (lv2 := [.ref 0, .int (nI n), .ref la]) dX10_land_47 rfl rfl (by decide) rfl ?_
    refine ww_aload_n dX10_land_48 rfl rfl ?_
    refine ww_aload_n dX10_land_49 rfl rfl ?_
    refine ww_get 2 dX10_land_50 ((sq.2.1 _).trans (hC.K0)) rfl (by decide) inX10 wg_266 ((sq.2.2.1 _ _ (landF_no (by omega) (by omega))).trans hC.D2) ?_
    refine ww_put tyX10 1 dX10_land_53 ((sq.2.1 _).trans (hC.K0)) rfl (by decide) inX10 tyX10_ok nmX10 wg_265 rfl (ee_na_ref (Or.inl ⟨_, rfl⟩)) ?_
    refine ww_aload_n dX10_land_56 rfl rfl ?_
    refine ww_aload_n dX10_land_57 rfl rfl ?_
    refine ww_put tyX10 2 dX10_land_58 ((sq.2.1 _).trans (hC.K0)) rfl (by decide) inX10 tyX10_ok nmX10 wg_266 rfl (ee_na_ref (Or.inl ⟨_, rfl⟩)) ?_
    refine ww_aload_n dX10_land_61 rfl rfl ?_
    refine ww_get 3 dX10_land_62 ((sq.2.1 _).trans (hC.K0)) rfl (by decide) inX10 wg_267 (hp_F_nj (by decide) (hp_F_nj (by decide) ((sq.2.2.1 _ _ (landF_no (by omega) (by omega))).trans hC.D3))) ?_
    refine ww_cV0 (M := m_X10_land) (pc := 65) (h1 := hp_sF (hp_sF (hp_sF hq 0 1 (.ref (8 - la))) 0 2 (.ref la)) lw 4 (.int (nI 0))) (st := []) (d := 9) (bc := 0) (bs := 0) (c_Law_forget hst (h := hp_sF (hp_sF hq 0 1 (.ref (8 - la))) 0 2 (.ref la)) ((sq.2.1 _).trans hW0)) vv_X3_forget dX10_land_65 wg_588 ((sq.2.1 _).trans hW0) rfl rfl rfl rfl (Nat.le_of_ble_eq_true rfl) (Nat.le_of_ble_eq_true rfl) (Nat.le_of_ble_eq_true rfl) (Nat.le_of_ble_eq_true rfl) ?_
    refine ww_aload_n dX10_land_68 rfl rfl ?_
    refine ww_get 5 dX10_land_69 ((sq.2.1 _).trans (hC.K0)) rfl (by decide) inX10 wg_269 (hp_F_nj (by decide) (hp_F_nj (by decide) (hp_F_nj (by decide) ((sq.2.2.1 _ _ (landF_no (by omega) (by omega))).trans hC.D5)))) ?_
    refine ww_cV0 (M := m_X10_land) (pc := 72) (h1 := hp_sF (hp_sF (hp_sF (hp_sF hq 0 1 (.ref (8 - la))) 0 2 (.ref la)) lw 4 (.int (nI 0))) bk 2 (.int (nI 0))) (st := []) (d := 9) (bc := 0) (bs := 0) (c_Book_forget hst (h := hp_sF (hp_sF (hp_sF hq 0 1 (.ref (8 - la))) 0 2 (.ref la)) lw 4 (.int (nI 0))) ((sq.2.1 _).trans hB0)) vv_X1_forget dX10_land_72 wg_592 ((sq.2.1 _).trans hB0) rfl rfl rfl rfl (Nat.le_of_ble_eq_true rfl) (Nat.le_of_ble_eq_true rfl) (Nat.le_of_ble_eq_true rfl) (Nat.le_of_ble_eq_true rfl) ?_
    refine ww_aload_n dX10_land_75 rfl rfl ?_
    refine ww_null dX10_land_76 ?_
    refine ww_put tyX10 8 dX10_land_77 ((sq.2.1 _).trans (hC.K0)) rfl (by decide) inX10 tyX10_ok nmX10 wg_272 rfl (ee_na_null (Or.inl ⟨_, rfl⟩)) ?_
    refine ww_aload_n dX10_land_80 rfl rfl ?_
    refine ww_iconst (v := nI 0) dX10_land_81 (by decide) ?_
    have hd0 : hp_F (hp_sF (hp_sF (hp_sF (hp_sF (hp_sF hq 0 1 (.ref (8 - la))) 0 2 (.ref la)) lw 4 (.int (nI 0))) bk 2 (.int (nI 0))) 0 8 (.null)) (8 - la) 0 = .ref (8 - la + 1) := (hp_F_nj (by decide) (hp_F_nj (by decide) (hp_F_nj (by decide) (hp_F_nj (by decide) (hp_F_nj (by decide) qL.2.2.1)))))
    have hd1 : hp_F (hp_sF (hp_sF (hp_sF (hp_sF (hp_sF hq 0 1 (.ref (8 - la))) 0 2 (.ref la)) lw 4 (.int (nI 0))) bk 2 (.int (nI 0))) 0 8 (.null)) 0 1 = .ref (8 - la) := (hp_F_nj (by decide) (hp_F_nj (by decide) (hp_F_nj (by decide) (hp_F_nj (by decide) (hp_F_eq _ _ _ _)))))
    have hd2 : hp_F (hp_sF (hp_sF (hp_sF (hp_sF (hp_sF hq 0 1 (.ref (8 - la))) 0 2 (.ref la)) lw 4 (.int (nI 0))) bk 2 (.int (nI 0))) 0 8 (.null)) (8 - la) 1 = .int (nI s9.1) := (hp_F_nj (by decide) (hp_F_nj (by decide) (hp_F_nj (by decide) (hp_F_nj (by decide) (hp_F_na (by omega) qL.2.2.2.1)))))
    have hd3 : hp_F (hp_sF (hp_sF (hp_sF (hp_sF (hp_sF hq 0 1 (.ref (8 - la))) 0 2 (.ref la)) lw 4 (.int (nI 0))) bk 2 (.int (nI 0))) 0 8 (.null)) 0 2 = .ref la := (hp_F_nj (by decide) (hp_F_na (by omega) (hp_F_nj (by decide) (hp_F_eq _ _ _ _))))
    have hd4 : hp_F (hp_sF (hp_sF (hp_sF (hp_sF (hp_sF hq 0 1 (.ref (8 - la))) 0 2 (.ref la)) lw 4 (.int (nI 0))) bk 2 (.int (nI 0))) 0 8 (.null)) 0 8 = .null := (hp_F_eq _ _ _ _)
    have hd5 : hp_F (hp_sF (hp_sF (hp_sF (hp_sF (hp_sF hq 0 1 (.ref (8 - la))) 0 2 (.ref la)) lw 4 (.int (nI 0))) bk 2 (.int (nI 0))) 0 8 (.null)) lw 4 = .int (nI 0) := (hp_F_nj (by decide) (hp_F_nj (by decide) (hp_F_eq _ _ _ _)))
    have hd6 : hp_F (hp_sF (hp_sF (hp_sF (hp_sF (hp_sF hq 0 1 (.ref (8 - la))) 0 2 (.ref la)) lw 4 (.int (nI 0))) bk 2 (.int (nI 0))) 0 8 (.null)) bk 2 = .int (nI 0) := (hp_F_nj (by decide) (hp_F_eq _ _ _ _))
    have hd7 : hp_F (hp_sF (hp_sF (hp_sF (hp_sF (hp_sF hq 0 1 (.ref (8 - la))) 0 2 (.ref la)) lw 4 (.int (nI 0))) bk 2 (.int (nI 0))) 0 8 (.null)) (8 - la) 2 = .int (nI s9.2.1) := (hp_F_nj (by decide) (hp_F_na (by omega) (hp_F_nj (by decide) (hp_F_na (by omega) (hp_F_nj (by decide) qL.2.2.2.2.1)))))
    have hd8 : hp_F (hp_sF (hp_sF (hp_sF (hp_sF (hp_sF hq 0 1 (.ref (8 - la))) 0 2 (.ref la)) lw 4 (.int (nI 0))) bk 2 (.int (nI 0))) 0 8 (.null)) 1 1 = .int (nI 0) := (hp_F_nj (by decide) (hp_F_nj (by decide) (hp_F_nj (by decide) (hp_F_nj (by decide) (hp_F_na (by omega) q11)))))
    have hd9 : hp_F (hp_sF (hp_sF (hp_sF (hp_sF (hp_sF hq 0 1 (.ref (8 - la))) 0 2 (.ref la)) lw 4 (.int (nI 0))) bk 2 (.int (nI 0))) 0 8 (.null)) 1 5 = .int (-1) := (hp_F_nj (by decide) (hp_F_nj (by decide) (hp_F_nj (by decide) (hp_F_nj (by decide) (hp_F_nj (by decide) q15)))))
    have hsm : Same (landX (8 - la)) (landY (8 - la) lw bk) h (hp_sF (hp_sF (hp_sF (hp_sF (hp_sF hq 0 1 (.ref (8 - la))) 0 2 (.ref la)) lw 4 (.int (nI 0))) bk 2 (.int (nI 0))) 0 8 (.null)) := Same.sF (Same.sF (Same.sF (Same.sF (Same.sF (sq.mono (fun _ e => e) (fun _ _ e => landF_Y e)) (landY_0 (by decide))) (landY_0 (by decide))) landY_l) landY_k) (landY_0 (by decide))
    have hC9 : CL (hp_sF (hp_sF (hp_sF (hp_sF (hp_sF hq 0 1 (.ref (8 - la))) 0 2 (.ref la)) lw 4 (.int (nI 0))) bk 2 (.int (nI 0))) 0 8 (.null)) (8 - la) lw bk := CL.land hC hsm hd1 hd3
    have hIi : hp_I (hp_sF (hp_sF (hp_sF (hp_sF (hp_sF hq 0 1 (.ref (8 - la))) 0 2 (.ref la)) lw 4 (.int (nI 0))) bk 2 (.int (nI 0))) 0 8 (.null)) (8 - la + 1) = s9.2.2 := qL.2.2.2.2.2.1
    refine ww_cVq0 (M := m_X10_land) (pc := 82) (st := []) (d := 9) (bc := 0) (bs := 0) (c_K_drop hst hC9 0 (by decide)) vv_X10_dropImages dX10_land_82 wg_390 ((sq.2.1 _).trans (hC.K0)) rfl rfl rfl rfl (Nat.le_of_ble_eq_true rfl) (Nat.le_of_ble_eq_true rfl) (Nat.le_of_ble_eq_true rfl) (Nat.le_of_ble_eq_true rfl) (fun hd qd => ?_)
    obtain ⟨sd, qd2, qd3⟩ := qd
    refine ww_aload_n dX10_land_85 rfl rfl ?_
    refine ww_iconst (v := nI 0) dX10_land_86 (by decide) ?_
    refine ww_pfI tyX10 11 dX10_land_87 ((sd.2.1 _).trans ((sq.2.1 _).trans hC.K0)) rfl (by decide) inX10 tyX10_ok nmX10 wg_275 rfl rfl ?_
    refine ww_aload_n dX10_land_90 rfl rfl ?_
    refine ww_get 1 dX10_land_91 ((sd.2.1 _).trans ((sq.2.1 _).trans hC.K0)) rfl (by decide) inX10 wg_265 (hp_F_nj (by decide) ((sd.2.2.1 _ _ (by omega)).trans hd1)) ?_
    refine ww_getN 1 dX10_land_94 ((sd.2.1 _).trans ((sq.2.1 _).trans hS.1)) rfl (by decide) inX2 wn_77 (hp_F_nj (by decide) ((sd.2.2.1 _ _ (by omega)).trans hd2)) ?_
    exact ww_iret dX10_land_97 rfl ⟨rfl, Same.sF (hsm.tr (sd.mono (fun _ e => e.elim) (fun a j e => e.elim (fun e => landY_28a e.1) (fun e => landY_0a e.1 (by omega))))) (landY_0 (by decide)), (hC9.sd sd).s11, ⟨(sd.2.1 _).trans qL.1, (sd.2.1 _).trans qL.2.1, (hp_F_na (by omega) ((sd.2.2.1 _ _ (by omega)).trans hd0)), (hp_F_na (by omega) ((sd.2.2.1 _ _ (by omega)).trans hd2)), (hp_F_na (by omega) ((sd.2.2.1 _ _ (by omega)).trans hd7)), (sd.2.2.2.1 _ (fun e => e)).trans hIi, qL.2.2.2.2.2.2⟩, (hp_F_na (by omega) ((sd.2.2.1 _ _ (by omega)).trans hd5)), (hp_F_na (by omega) ((sd.2.2.1 _ _ (by omega)).trans hd6)), (hp_F_nj (by decide) ((sd.2.2.1 _ _ (by omega)).trans hd4)), (hp_F_nj (by decide) qd3), (hp_F_eq _ _ _ _), (hp_F_na (by omega) ((sd.2.2.1 _ _ (by omega)).trans hd8)), (hp_F_na (by omega) ((sd.2.2.1 _ _ (by omega)).trans hd9))⟩
  · exact absurd c32 (by decide)
