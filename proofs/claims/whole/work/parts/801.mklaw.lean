set_option maxHeartbeats 4000000 in
set_option maxRecDepth 100000 in
theorem c_M_law {l : Launch} {Z : EE} (hst : l.stackTraces = false) {h : PH} {m : Nat} (hM : ModS h m) {tf : Nat → Int32} (htf : hp_I h (m + 2) = tf) {T : Nat → Nat} (hB : BT tf T) {tp : Nat} (htp : hp_F h m 2 = .int (nI tp)) (ht6 : tp ≤ 600) {bk : Int32} (hbk : hp_F h m 6 = .int bk) (n : Nat) (hnt : n ≤ tp) (hn5 : n ≤ 150) (kf0 vf0 : Nat → Int32) {a9 : Nat} {M9 : LWt} (hr : lawS T n (0, kf0, vf0) = .inr (a9, M9)) : CC l Z m_X11_law 33 0 0 [.ref m, .int (nI n)] h (RQ (some (.int (nI 1))) (fun h9 => Same (SXl m) (fun a j => SYt m a j ∨ (a = m ∧ j = 23)) h h9 ∧ LawM h9 m M9.1 M9.2.1 M9.2.2 ∧ hp_F h9 m 0 = .int (nI 0) ∧ hp_F h9 m 2 = .int (nI 0) ∧ FtI h9 m (-1))) := by
  refine ee_entry hst (by decide +kernel) rfl rfl (by simp [Value.category]) (Nat.le_of_ble_eq_true rfl) ?_
  refine ww_lv (lv2 := [.ref m, .int (nI n), UU]) rfl ?_
  refine ww_aload_n dX11_law_0 rfl rfl ?_
  refine ww_iconst (v := nI 0) dX11_law_1 (by decide) ?_
  refine ww_pfI tyX11 0 dX11_law_2 hM.K0 rfl (by decide) inX11 tyX11_ok nmX11 wg_1240 rfl rfl ?_
  refine ww_aload_n dX11_law_5 rfl rfl ?_
  refine ww_iload_n dX11_law_6 rfl rfl ?_
  refine ww_if_ltN (tgt := 29) dX11_law_7 (by decide) (by omega) ?_
  refine ww_iload_n dX11_law_10 rfl rfl ?_
  refine ww_aload_n dX11_law_11 rfl rfl ?_
  refine ww_get 2 dX11_law_12 hM.K0 rfl (by decide) inX11 wg_1242 (hp_F_nj (by decide) htp) ?_
  refine ww_icmp_gtN (tgt := 29) dX11_law_15 (by decide) (by omega) (by omega) (fun c15 => ?_) (fun c15 => ?_)
  · exfalso; omega
  · refine ww_iload_n dX11_law_18 rfl rfl ?_
    refine ww_sipush (v := nI 150) dX11_law_19 (by decide) ?_
    refine ww_icmp_gtN (tgt := 29) dX11_law_22 (by decide) (by omega) (by omega) (fun c22 => ?_) (fun c22 => ?_)
    · exfalso; omega
    · refine ww_iconst (v := nI 1) dX11_law_25 (by decide) ?_
      refine ww_goto (tgt := 30) dX11_law_26 (by decide) ?_
      refine ww_iconst (v := nI 1) dX11_law_30 (by decide) ?_
      refine ww_iconst (v := nI 1) dX11_law_31 (by decide) ?_
      refine ww_cVr (M := m_X11_law) (pc := 32) (v := .int (nI 1)) (h1 := hp_sF h m 0 (.int (nI 0))) (st := []) (d := 33) (bc := 0) (bs := 0) (c_M_may_t hst (h := hp_sF h m 0 (.int (nI 0))) (hM.sF (by decide)) (hp_F_eq _ _ _ _) (nI 1) (nI 1)) vv_X11_may dX11_law_32 wg_1413 hM.K0 rfl rfl rfl rfl (Nat.le_of_ble_eq_true rfl) (Nat.le_of_ble_eq_true rfl) (Nat.le_of_ble_eq_true rfl) (Nat.le_of_ble_eq_true rfl) ?_
      refine ww_if_neN (tgt := 40) dX11_law_35 (by decide) (by omega) (fun c35 => ?_) (fun c35 => ?_)
      · refine ww_aload_n dX11_law_40 rfl rfl ?_
        refine ww_iload_n dX11_law_41 rfl rfl ?_
        refine ww_cV0 (M := m_X11_law) (pc := 42) (h1 := mrS (bgS h m) m n 0 (-1) bk 0) (st := []) (d := 33) (bc := 0) (bs := 0) (c_MR_begins hst (h := hp_sF h m 0 (.int (nI 0))) (hM.sF (by decide)) n (hp_F_nj (by decide) hbk)) vv_X11_begins dX11_law_42 wg_1417 hM.K0 rfl rfl rfl rfl (Nat.le_of_ble_eq_true rfl) (Nat.le_of_ble_eq_true rfl) (Nat.le_of_ble_eq_true rfl) (Nat.le_of_ble_eq_true rfl) ?_
        refine ww_post (fun r h9 hp => ?_) (l_ML_law_r hst (bgS_M hM) htf hB (by omega) bk hn5 kf0 vf0 hr)
        obtain ⟨e1, s1, f1, f2⟩ := hp
        exact ⟨e1, (bgS_s.mono (fun _ e => Or.inl e) (fun _ _ e => Or.inl e)).tr (s1.mono (fun _ e => e) (fun _ _ e => e.imp STY_t id)), f1, (s1.2.2.1 _ _ (fun e => by unfold SYl STY at e; omega)).trans (bgS_0 h m), (s1.2.2.1 _ _ (fun e => by unfold SYl STY at e; omega)).trans (bgS_2 h m), f2⟩
      · exact absurd c35 (by decide)
set_option maxHeartbeats 4000000 in
set_option maxRecDepth 100000 in
theorem c_M_law_l {l : Launch} {Z : EE} (hst : l.stackTraces = false) {h : PH} {m : Nat} (hM : ModS h m) {tf : Nat → Int32} (htf : hp_I h (m + 2) = tf) {T : Nat → Nat} (hB : BT tf T) {tp : Nat} (htp : hp_F h m 2 = .int (nI tp)) (ht6 : tp ≤ 600) {bk : Int32} (hbk : hp_F h m 6 = .int bk) (n : Nat) (hnt : n ≤ tp) (hn5 : n ≤ 150) (kf0 vf0 : Nat → Int32) {k9 q9 : Nat} (hr : lawS T n (0, kf0, vf0) = .inl (k9, q9)) : CC l Z m_X11_law 33 0 0 [.ref m, .int (nI n)] h (RQ (some (.int (nI k9 - nI 10))) (fun h9 => Same (SX m) (SYt m) h h9 ∧ hp_F h9 m 0 = .int (nI 0) ∧ hp_F h9 m 2 = .int (nI 0) ∧ FtI h9 m (nI q9))) := by
  refine ee_entry hst (by decide +kernel) rfl rfl (by simp [Value.category]) (Nat.le_of_ble_eq_true rfl) ?_
  refine ww_lv (lv2 := [.ref m, .int (nI n), UU]) rfl ?_
  refine ww_aload_n dX11_law_0 rfl rfl ?_
  refine ww_iconst (v := nI 0) dX11_law_1 (by decide) ?_
  refine ww_pfI tyX11 0 dX11_law_2 hM.K0 rfl (by decide) inX11 tyX11_ok nmX11 wg_1240 rfl rfl ?_
  refine ww_aload_n dX11_law_5 rfl rfl ?_
  refine ww_iload_n dX11_law_6 rfl rfl ?_
  refine ww_if_ltN (tgt := 29) dX11_law_7 (by decide) (by omega) ?_
  refine ww_iload_n dX11_law_10 rfl rfl ?_
  refine ww_aload_n dX11_law_11 rfl rfl ?_
  refine ww_get 2 dX11_law_12 hM.K0 rfl (by decide) inX11 wg_1242 (hp_F_nj (by decide) htp) ?_
  refine ww_icmp_gtN (tgt := 29) dX11_law_15 (by decide) (by omega) (by omega) (fun c15 => ?_) (fun c15 => ?_)
  · exfalso; omega
  · refine ww_iload_n dX11_law_18 rfl rfl ?_
    refine ww_sipush (v := nI 150) dX11_law_19 (by decide) ?_
    refine ww_icmp_gtN (tgt := 29) dX11_law_22 (by decide) (by omega) (by omega) (fun c22 => ?_) (fun c22 => ?_)
    · exfalso; omega
    · refine ww_iconst (v := nI 1) dX11_law_25 (by decide) ?_
      refine ww_goto (tgt := 30) dX11_law_26 (by decide) ?_
      refine ww_iconst (v := nI 1) dX11_law_30 (by decide) ?_
      refine ww_iconst (v := nI 1) dX11_law_31 (by decide) ?_
      refine ww_cVr (M := m_X11_law) (pc := 32) (v := .int (nI 1)) (h1 := hp_sF h m 0 (.int (nI 0))) (st := []) (d := 33) (bc := 0) (bs := 0) (c_M_may_t hst (h := hp_sF h m 0 (.int (nI 0))) (hM.sF (by decide)) (hp_F_eq _ _ _ _) (nI 1) (nI 1)) vv_X11_may dX11_law_32 wg_1413 hM.K0 rfl rfl rfl rfl (Nat.le_of_ble_eq_true rfl) (Nat.le_of_ble_eq_true rfl) (Nat.le_of_ble_eq_true rfl) (Nat.le_of_ble_eq_true rfl) ?_
      refine ww_if_neN (tgt := 40) dX11_law_35 (by decide) (by omega) (fun c35 => ?_) (fun c35 => ?_)
      · refine ww_aload_n dX11_law_40 rfl rfl ?_
        refine ww_iload_n dX11_law_41 rfl rfl ?_
        refine ww_cV0 (M := m_X11_law) (pc := 42) (h1 := mrS (bgS h m) m n 0 (-1) bk 0) (st := []) (d := 33) (bc := 0) (bs := 0) (c_MR_begins hst (h := hp_sF h m 0 (.int (nI 0))) (hM.sF (by decide)) n (hp_F_nj (by decide) hbk)) vv_X11_begins dX11_law_42 wg_1417 hM.K0 rfl rfl rfl rfl (Nat.le_of_ble_eq_true rfl) (Nat.le_of_ble_eq_true rfl) (Nat.le_of_ble_eq_true rfl) (Nat.le_of_ble_eq_true rfl) ?_
        refine ww_post (fun r h9 hp => ?_) (l_ML_law_l hst (bgS_M hM) htf hB (by omega) bk hn5 kf0 vf0 hr)
        obtain ⟨e1, s1, f2⟩ := hp
        exact ⟨e1, bgS_s.tr (s1.mono (fun _ e => e) (fun _ _ e => STY_t e)), (s1.2.2.1 _ _ (fun e => by unfold STY at e; omega)).trans (bgS_0 h m), (s1.2.2.1 _ _ (fun e => by unfold STY at e; omega)).trans (bgS_2 h m), f2⟩
      · exact absurd c35 (by decide)
theorem min_le {x : Int32} {a b : Nat} (h1 : x ≤ nI a) (h2 : x ≤ nI b) : x ≤ nI (min a b) := by
  rcases Nat.le_total a b with e | e
  · rw [Nat.min_eq_left e]; exact h1
  · rw [Nat.min_eq_right e]; exact h2
set_option maxHeartbeats 4000000 in
set_option maxRecDepth 100000 in
theorem c_M_law_no {l : Launch} {Z : EE} (hst : l.stackTraces = false) {h : PH} {m : Nat} (hM : ModS h m) {tp : Nat} (htp : hp_F h m 2 = .int (nI tp)) (ht6 : tp ≤ 600) (n : Int32) (hout : ¬ (nI 0 ≤ n ∧ n ≤ nI (min tp 150))) : CC l Z m_X11_law 33 0 0 [.ref m, .int n] h (MNo 1 1 m h) := by
  refine ee_entry hst (by decide +kernel) rfl rfl (by simp [Value.category]) (Nat.le_of_ble_eq_true rfl) ?_
  refine ww_lv (lv2 := [.ref m, .int n, UU]) rfl ?_
  refine ww_aload_n dX11_law_0 rfl rfl ?_
  refine ww_iconst (v := nI 0) dX11_law_1 (by decide) ?_
  refine ww_pfI tyX11 0 dX11_law_2 hM.K0 rfl (by decide) inX11 tyX11_ok nmX11 wg_1240 rfl rfl ?_
  refine ww_aload_n dX11_law_5 rfl rfl ?_
  refine ww_iload_n dX11_law_6 rfl rfl ?_
  refine ww_if_lt (tgt := 29) dX11_law_7 (by decide) (fun c7 => ?_) (fun c7 => ?_)
  · refine ww_iconst (v := nI 0) dX11_law_29 (by decide) ?_
    refine ww_iconst (v := nI 1) dX11_law_30 (by decide) ?_
    refine ww_iconst (v := nI 1) dX11_law_31 (by decide) ?_
    refine ww_cVr (M := m_X11_law) (pc := 32) (v := .int (nI 0)) (h1 := hp_sI (hp_sF (hp_sF h m 0 (.int (nI 0))) m 0 (.int (nI 1))) (m + 1) (upd (hp_I (hp_sF h m 0 (.int (nI 0))) (m + 1)) 1 (hp_I (hp_sF h m 0 (.int (nI 0))) (m + 1) 1 + nI 1))) (st := []) (d := 33) (bc := 0) (bs := 0) (c_M_may_f hst (h := hp_sF h m 0 (.int (nI 0))) (hM.sF (by decide)) (hp_F_eq _ _ _ _) 1 1 (by decide) (by decide) (by decide)) vv_X11_may dX11_law_32 wg_1413 hM.K0 rfl rfl rfl rfl (Nat.le_of_ble_eq_true rfl) (Nat.le_of_ble_eq_true rfl) (Nat.le_of_ble_eq_true rfl) (Nat.le_of_ble_eq_true rfl) ?_
    refine ww_if_neN (tgt := 40) dX11_law_35 (by decide) (by omega) (fun c35 => ?_) (fun c35 => ?_)
    · exact absurd c35 (by decide)
    · refine ww_iconst (v := nI 0) dX11_law_38 (by decide) ?_
      exact ww_iret dX11_law_39 rfl ⟨rfl, (((Same.rf.sF (SY0 m)).sF (SY0 m)).sI (Or.inr rfl)), (hp_F_sI (hp_F_eq _ _ _ _)), by rw [hp_I_eq]; rfl⟩
  · refine ww_iload_n dX11_law_10 rfl rfl ?_
    refine ww_aload_n dX11_law_11 rfl rfl ?_
    refine ww_get 2 dX11_law_12 hM.K0 rfl (by decide) inX11 wg_1242 (hp_F_nj (by decide) htp) ?_
    refine ww_icmp_gt (tgt := 29) dX11_law_15 (by decide) (fun c15 => ?_) (fun c15 => ?_)
    · refine ww_iconst (v := nI 0) dX11_law_29 (by decide) ?_
      refine ww_iconst (v := nI 1) dX11_law_30 (by decide) ?_
      refine ww_iconst (v := nI 1) dX11_law_31 (by decide) ?_
      refine ww_cVr (M := m_X11_law) (pc := 32) (v := .int (nI 0)) (h1 := hp_sI (hp_sF (hp_sF h m 0 (.int (nI 0))) m 0 (.int (nI 1))) (m + 1) (upd (hp_I (hp_sF h m 0 (.int (nI 0))) (m + 1)) 1 (hp_I (hp_sF h m 0 (.int (nI 0))) (m + 1) 1 + nI 1))) (st := []) (d := 33) (bc := 0) (bs := 0) (c_M_may_f hst (h := hp_sF h m 0 (.int (nI 0))) (hM.sF (by decide)) (hp_F_eq _ _ _ _) 1 1 (by decide) (by decide) (by decide)) vv_X11_may dX11_law_32 wg_1413 hM.K0 rfl rfl rfl rfl (Nat.le_of_ble_eq_true rfl) (Nat.le_of_ble_eq_true rfl) (Nat.le_of_ble_eq_true rfl) (Nat.le_of_ble_eq_true rfl) ?_
      refine ww_if_neN (tgt := 40) dX11_law_35 (by decide) (by omega) (fun c35 => ?_) (fun c35 => ?_)
      · exact absurd c35 (by decide)
      · refine ww_iconst (v := nI 0) dX11_law_38 (by decide) ?_
        exact ww_iret dX11_law_39 rfl ⟨rfl, (((Same.rf.sF (SY0 m)).sF (SY0 m)).sI (Or.inr rfl)), (hp_F_sI (hp_F_eq _ _ _ _)), by rw [hp_I_eq]; rfl⟩
    · refine ww_iload_n dX11_law_18 rfl rfl ?_
      refine ww_sipush (v := nI 150) dX11_law_19 (by decide) ?_
      refine ww_icmp_gt (tgt := 29) dX11_law_22 (by decide) (fun c22 => ?_) (fun c22 => ?_)
      · refine ww_iconst (v := nI 0) dX11_law_29 (by decide) ?_
        refine ww_iconst (v := nI 1) dX11_law_30 (by decide) ?_
        refine ww_iconst (v := nI 1) dX11_law_31 (by decide) ?_
        refine ww_cVr (M := m_X11_law) (pc := 32) (v := .int (nI 0)) (h1 := hp_sI (hp_sF (hp_sF h m 0 (.int (nI 0))) m 0 (.int (nI 1))) (m + 1) (upd (hp_I (hp_sF h m 0 (.int (nI 0))) (m + 1)) 1 (hp_I (hp_sF h m 0 (.int (nI 0))) (m + 1) 1 + nI 1))) (st := []) (d := 33) (bc := 0) (bs := 0) (c_M_may_f hst (h := hp_sF h m 0 (.int (nI 0))) (hM.sF (by decide)) (hp_F_eq _ _ _ _) 1 1 (by decide) (by decide) (by decide)) vv_X11_may dX11_law_32 wg_1413 hM.K0 rfl rfl rfl rfl (Nat.le_of_ble_eq_true rfl) (Nat.le_of_ble_eq_true rfl) (Nat.le_of_ble_eq_true rfl) (Nat.le_of_ble_eq_true rfl) ?_
        refine ww_if_neN (tgt := 40) dX11_law_35 (by decide) (by omega) (fun c35 => ?_) (fun c35 => ?_)
        · exact absurd c35 (by decide)
        · refine ww_iconst (v := nI 0) dX11_law_38 (by decide) ?_
          exact ww_iret dX11_law_39 rfl ⟨rfl, (((Same.rf.sF (SY0 m)).sF (SY0 m)).sI (Or.inr rfl)), (hp_F_sI (hp_F_eq _ _ _ _)), by rw [hp_I_eq]; rfl⟩
      · exact absurd ⟨Int32.not_lt.mp c7, min_le (Int32.not_lt.mp c15) (Int32.not_lt.mp c22)⟩ hout
