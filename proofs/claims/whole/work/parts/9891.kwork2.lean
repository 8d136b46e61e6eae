/-! ===== a work is read, and performed, in the class ===== -/
theorem afS_id {h : PH} {W : AF} (hA : AfR h W) : afS h W = h := by
  obtain ⟨-, b1, b2, b3, b4, b5⟩ := hA
  refine hp_ext rfl (fun _ => rfl) (fun x j => ?_) (fun x => ?_) (fun _ => rfl)
  · rw [afS_F]
    by_cases e : x = 23 ∧ j = 4
    · rw [if_pos e, e.1, e.2, b1]
    · rw [if_neg e]
  · rw [afS_I]
    by_cases e7 : x = 27
    · rw [if_pos e7, e7, b5]
    · rw [if_neg e7]
      by_cases e6 : x = 26
      · rw [if_pos e6, e6, b4]
      · rw [if_neg e6]
        by_cases e5 : x = 25
        · rw [if_pos e5, e5, b3]
        · rw [if_neg e5]
          by_cases e4 : x = 24
          · rw [if_pos e4, e4, b2]
          · rw [if_neg e4]
def afX : Nat → Prop := fun c => c = 24 ∨ c = 25 ∨ c = 26 ∨ c = 27
def afY : Nat → Nat → Prop := fun a j => (a = 1 ∧ 1 ≤ j) ∨ (a = 23 ∧ j = 4)
theorem Same.af {X : Nat → Prop} {Y : Nat → Nat → Prop} {h h1 : PH} (a : Same X Y h h1) (hX : ∀ c, afX c → X c) (hY : Y 23 4) (W : AF) : Same X Y h (afS h1 W) := by
  unfold afS
  exact ((((a.sI (hX 24 (Or.inl rfl))).sI (hX 25 (Or.inr (Or.inl rfl)))).sI (hX 26 (Or.inr (Or.inr (Or.inl rfl))))).sI (hX 27 (Or.inr (Or.inr (Or.inr rfl))))).sF hY
theorem afR_rd {h : PH} (hK : AfK h) (W : AF) (n a k : Nat) (pl : Int32) : AfR (rdS (afS h W) n a k pl) W := by
  obtain ⟨a1, a2, a3, a4, a5, a6, a7, a8, a9⟩ := hK
  exact ⟨⟨a1, a2, a3, a4, a5, rdS_o _ _ _ _ (by decide) (afS_j (by decide) a6), rdS_o _ _ _ _ (by decide) (afS_j (by decide) a7), rdS_o _ _ _ _ (by decide) (afS_j (by decide) a8), rdS_o _ _ _ _ (by decide) (afS_j (by decide) a9)⟩, rdS_o _ _ _ _ (by decide) (afS_4 h W), afS_r0 h W, afS_r1 h W, afS_r2 h W, afS_r3 h W⟩
set_option maxHeartbeats 4000000 in
set_option maxRecDepth 100000 in
theorem c_Af_read_r {l : Launch} {Z : EE} (hst : l.stackTraces = false) {h : PH} {tf : Nat → Int32} (hR : RdK h tf) {T : Nat → Nat} (hB : BT tf T) {n : Nat} (hn : n ≤ 600) (hf : AfK h) (hn5 : n ≤ 150) {np : Nat} (hnp : np ≤ 6) (W : AF) {b9 : Nat} {V9 : AF} (hr : wkS np T n (0, W.2.1, W.2.2.1, W.2.2.2.1, W.2.2.2.2) = .inr (b9, V9)) : CC l Z m_X0_read 26 0 0 [.ref 23, .ref 1, .int (nI np)] (rdS (afS h W) n 0 0 (-1)) (RT (some (.int (nI 1))) (rdS (afS h V9) n n 0 (-1))) := by
  refine ee_entry hst (by decide +kernel) rfl rfl (by simp [Value.category]) (Nat.le_of_ble_eq_true rfl) ?_
  refine ww_lv (lv2 := [.ref 23, .ref 1, .int (nI np)]) rfl ?_
  refine ww_aload_n dX0_read_0 rfl rfl ?_
  refine ww_iconst (v := nI 0) dX0_read_1 (by decide) ?_
  refine ww_pfI tyX0 4 dX0_read_2 hf.1 rfl (by decide) inX0 tyX0_ok nmX0 wg_137 rfl rfl ?_
  refine ww_hp (h2 := rdS (afS h ((0, W.2.1, W.2.2.1, W.2.2.2.1, W.2.2.2.2))) n 0 0 (-1)) (af_s4 _ _ _ _ _ _ _) ?_
  refine ww_aload_n dX0_read_5 rfl rfl ?_
  refine ww_aload_n dX0_read_6 rfl rfl ?_
  refine ww_iload_n dX0_read_7 rfl rfl ?_
  refine ww_iconst (v := nI 0) dX0_read_8 (by decide) ?_
  have hg := stK_G np T n 6 0 (0, W.2.1, W.2.2.1, W.2.2.2.1, W.2.2.2.2) (Nat.zero_le _)
  refine ww_cVq0 (M := m_X0_read) (pc := 9) (st := []) (d := 26) (bc := 0) (bs := 0) (c_Af_K hst hR hB hn hf hn5 hnp 6 0 rfl 0 (0, W.2.1, W.2.2.1, W.2.2.2.1, W.2.2.2.2) (Nat.zero_le _) (by show 4 * 0 ≤ 0; omega)) vv_X0_readSteps dX0_read_9 wg_649 hf.1 rfl rfl rfl rfl (by omega) (Nat.le_of_ble_eq_true rfl) (Nat.le_of_ble_eq_true rfl) (Nat.le_of_ble_eq_true rfl) (fun ho qo => ?_)
  rcases hr1 : stK np T n 6 0 (0, W.2.1, W.2.2.1, W.2.2.2.1, W.2.2.2.2) with ⟨k1, q1⟩ | ⟨a1, W1⟩
  · rw [hr1] at qo
    obtain ⟨W1, hW1, rfl⟩ := qo
    have hf1 := hg.l hr1
    refine ww_aload_n dX0_read_12 rfl rfl ?_
    refine ww_cVr (M := m_X0_read) (pc := 13) (v := .int (nI 0)) (h1 := rdS (afS h W1) n n k1 (nI q1)) (st := []) (d := 26) (bc := 0) (bs := 0) (c_Rd_finish_f hst (hR.af W1) hB hn k1 (by omega) (by omega) (nI q1)) vv_X5_finish dX0_read_13 wg_671 ((hR.af W1).1) rfl rfl rfl rfl (Nat.le_of_ble_eq_true rfl) (Nat.le_of_ble_eq_true rfl) (Nat.le_of_ble_eq_true rfl) (Nat.le_of_ble_eq_true rfl) ?_
    exact ww_zret dX0_read_16 rfl (by first | rfl | exact nar_bI _) (by exfalso; unfold wkS at hr; rw [hr1, bS_l] at hr; cases hr)
  · rw [hr1] at qo
    have qo : _ = _ := qo
    subst qo
    have hf1 := hg.r hr1
    refine ww_aload_n dX0_read_12 rfl rfl ?_
    have hsl := sk_le (T := T) (show a1 ≤ n by omega)
    by_cases hl : sk T n a1 < n
    · refine ww_cVr (M := m_X0_read) (pc := 13) (v := .int (nI 0)) (h1 := rdS (afS h W1) n n 1 (nI (sk T n a1))) (st := []) (d := 26) (bc := 0) (bs := 0) (c_Rd_finish_n hst (hR.af W1) hB hn a1 (by omega) hl) vv_X5_finish dX0_read_13 wg_671 ((hR.af W1).1) rfl rfl rfl rfl (Nat.le_of_ble_eq_true rfl) (Nat.le_of_ble_eq_true rfl) (Nat.le_of_ble_eq_true rfl) (Nat.le_of_ble_eq_true rfl) ?_
      exact ww_zret dX0_read_16 rfl (by first | rfl | exact nar_bI _) (by exfalso; unfold wkS at hr; rw [hr1, bS_r, if_pos hl] at hr; cases hr)
    · refine ww_cVr (M := m_X0_read) (pc := 13) (v := .int (nI 1)) (h1 := rdS (afS h W1) n n 0 (-1)) (st := []) (d := 26) (bc := 0) (bs := 0) (c_Rd_finish_t hst (hR.af W1) hB hn a1 (by omega) (by omega)) vv_X5_finish dX0_read_13 wg_671 ((hR.af W1).1) rfl rfl rfl rfl (Nat.le_of_ble_eq_true rfl) (Nat.le_of_ble_eq_true rfl) (Nat.le_of_ble_eq_true rfl) (Nat.le_of_ble_eq_true rfl) ?_
      exact ww_zret dX0_read_16 rfl (by first | rfl | exact nar_bI _) ⟨rfl, (by unfold wkS at hr; rw [hr1, bS_r, if_neg hl] at hr; cases hr; rfl)⟩
set_option maxHeartbeats 4000000 in
set_option maxRecDepth 100000 in
theorem c_Af_read_l {l : Launch} {Z : EE} (hst : l.stackTraces = false) {h : PH} {tf : Nat → Int32} (hR : RdK h tf) {T : Nat → Nat} (hB : BT tf T) {n : Nat} (hn : n ≤ 600) (hf : AfK h) (hn5 : n ≤ 150) {np : Nat} (hnp : np ≤ 6) (W : AF) {k9 q9 : Nat} (hr : wkS np T n (0, W.2.1, W.2.2.1, W.2.2.2.1, W.2.2.2.2) = .inl (k9, q9)) : CC l Z m_X0_read 26 0 0 [.ref 23, .ref 1, .int (nI np)] (rdS (afS h W) n 0 0 (-1)) (RQ (some (.int (nI 0))) (fun h9 => ∃ M : AF, M.1 ≤ 38 ∧ h9 = rdS (afS h M) n n k9 (nI q9))) := by
  refine ee_entry hst (by decide +kernel) rfl rfl (by simp [Value.category]) (Nat.le_of_ble_eq_true rfl) ?_
  refine ww_lv (lv2 := [.ref 23, .ref 1, .int (nI np)]) rfl ?_
  refine ww_aload_n dX0_read_0 rfl rfl ?_
  refine ww_iconst (v := nI 0) dX0_read_1 (by decide) ?_
  refine ww_pfI tyX0 4 dX0_read_2 hf.1 rfl (by decide) inX0 tyX0_ok nmX0 wg_137 rfl rfl ?_
  refine ww_hp (h2 := rdS (afS h ((0, W.2.1, W.2.2.1, W.2.2.2.1, W.2.2.2.2))) n 0 0 (-1)) (af_s4 _ _ _ _ _ _ _) ?_
  refine ww_aload_n dX0_read_5 rfl rfl ?_
  refine ww_aload_n dX0_read_6 rfl rfl ?_
  refine ww_iload_n dX0_read_7 rfl rfl ?_
  refine ww_iconst (v := nI 0) dX0_read_8 (by decide) ?_
  have hg := stK_G np T n 6 0 (0, W.2.1, W.2.2.1, W.2.2.2.1, W.2.2.2.2) (Nat.zero_le _)
  refine ww_cVq0 (M := m_X0_read) (pc := 9) (st := []) (d := 26) (bc := 0) (bs := 0) (c_Af_K hst hR hB hn hf hn5 hnp 6 0 rfl 0 (0, W.2.1, W.2.2.1, W.2.2.2.1, W.2.2.2.2) (Nat.zero_le _) (by show 4 * 0 ≤ 0; omega)) vv_X0_readSteps dX0_read_9 wg_649 hf.1 rfl rfl rfl rfl (by omega) (Nat.le_of_ble_eq_true rfl) (Nat.le_of_ble_eq_true rfl) (Nat.le_of_ble_eq_true rfl) (fun ho qo => ?_)
  rcases hr1 : stK np T n 6 0 (0, W.2.1, W.2.2.1, W.2.2.2.1, W.2.2.2.2) with ⟨k1, q1⟩ | ⟨a1, W1⟩
  · rw [hr1] at qo
    obtain ⟨W1, hW1, rfl⟩ := qo
    have hf1 := hg.l hr1
    refine ww_aload_n dX0_read_12 rfl rfl ?_
    refine ww_cVr (M := m_X0_read) (pc := 13) (v := .int (nI 0)) (h1 := rdS (afS h W1) n n k1 (nI q1)) (st := []) (d := 26) (bc := 0) (bs := 0) (c_Rd_finish_f hst (hR.af W1) hB hn k1 (by omega) (by omega) (nI q1)) vv_X5_finish dX0_read_13 wg_671 ((hR.af W1).1) rfl rfl rfl rfl (Nat.le_of_ble_eq_true rfl) (Nat.le_of_ble_eq_true rfl) (Nat.le_of_ble_eq_true rfl) (Nat.le_of_ble_eq_true rfl) ?_
    exact ww_zret dX0_read_16 rfl (by first | rfl | exact nar_bI _) ⟨rfl, (by unfold wkS at hr; rw [hr1, bS_l] at hr; cases hr; exact ⟨_, (by omega), rfl⟩)⟩
  · rw [hr1] at qo
    have qo : _ = _ := qo
    subst qo
    have hf1 := hg.r hr1
    refine ww_aload_n dX0_read_12 rfl rfl ?_
    have hsl := sk_le (T := T) (show a1 ≤ n by omega)
    by_cases hl : sk T n a1 < n
    · refine ww_cVr (M := m_X0_read) (pc := 13) (v := .int (nI 0)) (h1 := rdS (afS h W1) n n 1 (nI (sk T n a1))) (st := []) (d := 26) (bc := 0) (bs := 0) (c_Rd_finish_n hst (hR.af W1) hB hn a1 (by omega) hl) vv_X5_finish dX0_read_13 wg_671 ((hR.af W1).1) rfl rfl rfl rfl (Nat.le_of_ble_eq_true rfl) (Nat.le_of_ble_eq_true rfl) (Nat.le_of_ble_eq_true rfl) (Nat.le_of_ble_eq_true rfl) ?_
      exact ww_zret dX0_read_16 rfl (by first | rfl | exact nar_bI _) ⟨rfl, (by unfold wkS at hr; rw [hr1, bS_r, if_pos hl] at hr; cases hr; exact ⟨_, (by omega), rfl⟩)⟩
    · refine ww_cVr (M := m_X0_read) (pc := 13) (v := .int (nI 1)) (h1 := rdS (afS h W1) n n 0 (-1)) (st := []) (d := 26) (bc := 0) (bs := 0) (c_Rd_finish_t hst (hR.af W1) hB hn a1 (by omega) (by omega)) vv_X5_finish dX0_read_13 wg_671 ((hR.af W1).1) rfl rfl rfl rfl (Nat.le_of_ble_eq_true rfl) (Nat.le_of_ble_eq_true rfl) (Nat.le_of_ble_eq_true rfl) (Nat.le_of_ble_eq_true rfl) ?_
      exact ww_zret dX0_read_16 rfl (by first | rfl | exact nar_bI _) (by exfalso; unfold wkS at hr; rw [hr1, bS_r, if_neg hl] at hr; cases hr)
theorem c_Af_readK_r {l : Launch} {Z : EE} (hst : l.stackTraces = false) {h : PH} {la lw bk : Nat} (hC : CL h la lw bk) {tf : Nat → Int32} (htf : hp_I h 2 = tf) {T : Nat → Nat} (hB : BT tf T) {tp : Nat} (htp : hp_F h 1 1 = .int (nI tp)) (ht6 : tp ≤ 600) {W : AF} (hA : AfR h W) (n : Nat) (hnt : n ≤ tp) (hn5 : n ≤ 150) {np : Nat} (hnp : np ≤ 6) {b9 : Nat} {V9 : AF} (hr : wkS np T n (0, W.2.1, W.2.2.1, W.2.2.2.1, W.2.2.2.2) = .inr (b9, V9)) : CC l Z m_X0_read 26 0 0 [.ref 23, .ref 1, .int (nI np)] (rdS (hp_sF h 1 1 (.int (nI 0))) n 0 0 (-1)) (RQ (some (.int (nI 1))) (fun g => Same afX afY h g ∧ AfR g V9 ∧ hp_F g 1 1 = .int (nI 0) ∧ hp_F g 1 5 = .int (-1))) := by
  have hR : RdK (hp_sF h 1 1 (.int (nI 0))) tf := ⟨hC.K1, hC.K2, hp_F_nj (by decide) hC.R1_0, htf⟩
  have hA1 : AfR (hp_sF h 1 1 (.int (nI 0))) W := hA.same (X := fun _ => False) (Y := fun a j => a = 1 ∧ j = 1) (Same.rf.sF ⟨rfl, rfl⟩) (fun _ _ _ e => e) (fun j _ e => by omega)
  have h9 := c_Af_read_r (Z := Z) hst hR hB (by omega) hA1.1 hn5 hnp W hr
  rw [afS_id hA1] at h9
  refine cc_post (fun r h' hp => ?_) h9
  obtain ⟨e1, rfl⟩ := hp
  exact ⟨e1, Same.rd (Same.af (Same.sF Same.rf (show afY 1 1 from Or.inl ⟨rfl, by omega⟩)) (fun _ e => e) (show afY 23 4 from Or.inr ⟨rfl, rfl⟩) V9) (fun j hj => Or.inl ⟨rfl, hj⟩) n n 0 (-1), afR_rd hA1.1 V9 _ _ _ _, rdS_j _ _ _ _ (by decide) (afS_o (by decide) (hp_F_eq _ _ _ _)), rdS_5 _ _ _ _ _⟩
theorem c_Af_readK_l {l : Launch} {Z : EE} (hst : l.stackTraces = false) {h : PH} {la lw bk : Nat} (hC : CL h la lw bk) {tf : Nat → Int32} (htf : hp_I h 2 = tf) {T : Nat → Nat} (hB : BT tf T) {tp : Nat} (htp : hp_F h 1 1 = .int (nI tp)) (ht6 : tp ≤ 600) {W : AF} (hA : AfR h W) (n : Nat) (hnt : n ≤ tp) (hn5 : n ≤ 150) {np : Nat} (hnp : np ≤ 6) {k9 q9 : Nat} (hr : wkS np T n (0, W.2.1, W.2.2.1, W.2.2.2.1, W.2.2.2.2) = .inl (k9, q9)) : CC l Z m_X0_read 26 0 0 [.ref 23, .ref 1, .int (nI np)] (rdS (hp_sF h 1 1 (.int (nI 0))) n 0 0 (-1)) (RQ (some (.int (nI 0))) (fun g => Same afX afY h g ∧ (∃ V9 : AF, AfR g V9) ∧ hp_F g 1 1 = .int (nI 0) ∧ hp_F g 1 4 = .int (nI k9) ∧ hp_F g 1 5 = .int (nI q9))) := by
  have hR : RdK (hp_sF h 1 1 (.int (nI 0))) tf := ⟨hC.K1, hC.K2, hp_F_nj (by decide) hC.R1_0, htf⟩
  have hA1 : AfR (hp_sF h 1 1 (.int (nI 0))) W := hA.same (X := fun _ => False) (Y := fun a j => a = 1 ∧ j = 1) (Same.rf.sF ⟨rfl, rfl⟩) (fun _ _ _ e => e) (fun j _ e => by omega)
  have h9 := c_Af_read_l (Z := Z) hst hR hB (by omega) hA1.1 hn5 hnp W hr
  rw [afS_id hA1] at h9
  refine cc_post (fun r h' hp => ?_) h9
  obtain ⟨e1, V9, hM, rfl⟩ := hp
  exact ⟨e1, Same.rd (Same.af (Same.sF Same.rf (show afY 1 1 from Or.inl ⟨rfl, by omega⟩)) (fun _ e => e) (show afY 23 4 from Or.inr ⟨rfl, rfl⟩) V9) (fun j hj => Or.inl ⟨rfl, hj⟩) n n k9 (nI q9), ⟨V9, afR_rd hA1.1 V9 _ _ _ _⟩, rdS_j _ _ _ _ (by decide) (afS_o (by decide) (hp_F_eq _ _ _ _)), rdS_4 _ _ _ _ _, rdS_5 _ _ _ _ _⟩
set_option maxHeartbeats 4000000 in
set_option maxRecDepth 100000 in
theorem c_Pf {l : Launch} {Z : EE} (hst : l.stackTraces = false) {h : PH} {la lw np du sz : Nat} {kf vf : Nat → Int32} {W : AF} (hla : la = 3 ∨ la = 5) (hlw : lw = 7 ∨ lw = 12) (h6 : np ≤ 6) (hok : LawOK kf vf sz) (hW8 : W.1 ≤ 38) {f : Nat → Int32} (hL : LandAt h la np du f) (hW : LawAt h lw sz kf vf) (hA : AfR h W) (hu : RowOK f np) (hw : WfK np W 6 0 W.1) : CC l Z m_X0_perform 18 0 0 [.ref 23, .ref la, .ref lw] h (RQ none (fun h9 => PfA la lw np du sz kf vf W (pfK W (onX sz kf vf W) 6 0 W.1 (0, 0, 0, f)) h9 ∧ Same (pfX la lw) pfY h h9)) := by
  refine ee_entry hst (by decide +kernel) rfl rfl (by simp [Value.category]) (Nat.le_of_ble_eq_true rfl) ?_
  refine ww_lv (lv2 := [.ref 23, .ref la, .ref lw]) rfl ?_
  refine ww_aload_n dX0_perform_0 rfl rfl ?_
  refine ww_iconst (v := nI 0) dX0_perform_1 (by decide) ?_
  refine ww_pfI tyX0 5 dX0_perform_2 hA.1.1 rfl (by decide) inX0 tyX0_ok nmX0 wg_138 rfl rfl ?_
  refine ww_aload_n dX0_perform_5 rfl rfl ?_
  refine ww_iconst (v := nI 0) dX0_perform_6 (by decide) ?_
  refine ww_pfI tyX0 6 dX0_perform_7 hA.1.1 rfl (by decide) inX0 tyX0_ok nmX0 wg_140 rfl rfl ?_
  refine ww_aload_n dX0_perform_10 rfl rfl ?_
  refine ww_iconst (v := nI 0) dX0_perform_11 (by decide) ?_
  refine ww_pfI tyX0 7 dX0_perform_12 hA.1.1 rfl (by decide) inX0 tyX0_ok nmX0 wg_142 rfl rfl ?_
  refine ww_aload_n dX0_perform_15 rfl rfl ?_
  refine ww_iconst (v := nI 0) dX0_perform_16 (by decide) ?_
  refine ww_aload_n dX0_perform_17 rfl rfl ?_
  refine ww_get 4 dX0_perform_18 hA.1.1 rfl (by decide) inX0 wg_137 (hp_F_nj (by decide) (hp_F_nj (by decide) (hp_F_nj (by decide) hA.2.1))) ?_
  refine ww_aload_n dX0_perform_21 rfl rfl ?_
  refine ww_aload_n dX0_perform_22 rfl rfl ?_
  refine ww_iconst (v := nI 0) dX0_perform_23 (by decide) ?_
  have hS0 : Same (pfX la lw) pfY h (hp_sF (hp_sF (hp_sF h 23 5 (.int (nI 0))) 23 6 (.int (nI 0))) 23 7 (.int (nI 0))) := ((Same.rf.sF (show pfY 23 5 from ⟨rfl, Or.inl rfl⟩)).sF (show pfY 23 6 from ⟨rfl, Or.inr (Or.inl rfl)⟩)).sF (show pfY 23 7 from ⟨rfl, Or.inr (Or.inr rfl)⟩)
  have hP0 : PfA la lw np du sz kf vf W (0, 0, 0, f) (hp_sF (hp_sF (hp_sF h 23 5 (.int (nI 0))) 23 6 (.int (nI 0))) 23 7 (.int (nI 0))) := ⟨hL.same (X := fun _ => False) (Y := pfY) (((Same.rf.sF ⟨rfl, Or.inl rfl⟩).sF ⟨rfl, Or.inr (Or.inl rfl)⟩).sF ⟨rfl, Or.inr (Or.inr rfl)⟩) (fun e => e) (fun j e => by unfold pfY at e; omega), hW.pf hS0 (fun e => by unfold pfX at e; omega) (fun e => by unfold pfX at e; omega) (fun j e => by unfold pfY at e; omega), hA.same hS0 (fun c _ _ e => by unfold pfX at e; omega) (fun j hj e => by unfold pfY at e; omega), hp_F_nj (by decide) (hp_F_nj (by decide) (hp_F_eq _ _ _ _)), hp_F_nj (by decide) (hp_F_eq _ _ _ _), hp_F_eq _ _ _ _⟩
  refine ww_cVq0 (M := m_X0_perform) (pc := 24) (st := []) (d := 18) (bc := 0) (bs := 0) (c_Pf_K hst hla hlw h6 hok hW8 6 0 rfl 0 W.1 (Nat.le_refl _) hw (0, 0, 0, f) _ hP0 ⟨hu, Nat.zero_le _, Nat.le_refl _⟩) vv_X0_performFrom dX0_perform_24 wg_676 hA.1.1 rfl rfl rfl rfl (by omega) (Nat.le_of_ble_eq_true rfl) (Nat.le_of_ble_eq_true rfl) (Nat.le_of_ble_eq_true rfl) (fun hq1 qq1 => ?_)
  exact ww_vret dX0_perform_27 rfl ⟨rfl, qq1.1, hS0.tr qq1.2⟩
