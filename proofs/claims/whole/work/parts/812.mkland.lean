theorem clS_q {T : Nat → Nat} {n t : Nat} {s : LSt} {a k q : Nat} (ha : a ≤ n) (h : clS T n t s a = .inl (k, q)) : q ≤ n := by
  unfold clS at h
  rcases h1 : wrdS wLand T n a with ⟨k1, q1⟩ | ⟨a1, w⟩
  · rw [h1, bS_l] at h; cases h; exact wrdS_lq ha h1
  · rw [h1, bS_r] at h
    have e1 := wrdS_lt wLand_ne ha h1
    split at h
    · cases h; exact sk_le ha
    · split at h
      · rcases h2 : figS T n 0 1000 a1 with ⟨k2, q2⟩ | ⟨a2, v2⟩
        · rw [h2, bS_l] at h; cases h; exact figS_lq (by omega) h2
        · rw [h2, bS_r] at h
          have e2 := figS_r (by omega) h2
          rcases h3 : sgnS T n 59 a2 with ⟨k3, q3⟩ | ⟨a3, v3⟩
          · rw [h3, bS_l] at h; cases h; exact sgnS_lq (by omega) h3
          · rw [h3, bS_r] at h; cases h
      · split at h
        · rcases h2 : figS T n 0 61 a1 with ⟨k2, q2⟩ | ⟨a2, v2⟩
          · rw [h2, bS_l] at h; cases h; exact figS_lq (by omega) h2
          · rw [h2, bS_r] at h
            have e2 := figS_r (by omega) h2
            rcases h3 : figS T n 0 s.1 a2 with ⟨k3, q3⟩ | ⟨a3, v3⟩
            · rw [h3, bS_l] at h; cases h; exact figS_lq (by omega) h3
            · rw [h3, bS_r] at h
              have e3 := figS_r (by omega) h3
              rcases h4 : figS T n 0 41 a3 with ⟨k4, q4⟩ | ⟨a4, v4⟩
              · rw [h4, bS_l] at h; cases h; exact figS_lq (by omega) h4
              · rw [h4, bS_r] at h
                have e4 := figS_r (by omega) h4
                rcases h5 : sgnS T n 59 a4 with ⟨k5, q5⟩ | ⟨a5, v5⟩
                · rw [h5, bS_l] at h; cases h; exact sgnS_lq (by omega) h5
                · rw [h5, bS_r] at h; cases h
        · rcases h2 : figS T n 0 21 a1 with ⟨k2, q2⟩ | ⟨a2, v2⟩
          · rw [h2, bS_l] at h; cases h; exact figS_lq (by omega) h2
          · rw [h2, bS_r] at h
            have e2 := figS_r (by omega) h2
            rcases h3 : sgnS T n 59 a2 with ⟨k3, q3⟩ | ⟨a3, v3⟩
            · rw [h3, bS_l] at h; cases h; exact sgnS_lq (by omega) h3
            · rw [h3, bS_r] at h; cases h
theorem ldS_q {T : Nat → Nat} {n : Nat} : ∀ (c t : Nat) (s : LSt) (a : Nat), LsG s → a ≤ n → ∀ k q, ldS T n c t s a = .inl (k, q) → q ≤ n
  | 0, t, s, a, hg, ha, k, q, h => by cases h
  | c + 1, t, s, a, hg, ha, k, q, h => by
    have hk := sk_le (T := T) ha
    by_cases hl : sk T n a < n
    · rw [ldS_i hl] at h
      rcases h1 : clS T n t s (sk T n a) with ⟨k1, q1⟩ | ⟨a1, s1⟩
      · rw [h1, bS_l] at h; cases h; exact clS_q hk h1
      · rw [h1, bS_r] at h
        obtain ⟨e1, e2, e3, e4⟩ := clS_G hg hk h1
        exact ldS_q c (t + 1) s1 a1 e1 e3 k q h
    · rw [ldS_e hl] at h; cases h
set_option maxHeartbeats 4000000 in
set_option maxRecDepth 100000 in
theorem c_M_land {l : Launch} {Z : EE} (hst : l.stackTraces = false) {h : PH} {m : Nat} (hM : ModS h m) {tf : Nat → Int32} (htf : hp_I h (m + 2) = tf) {T : Nat → Nat} (hB : BT tf T) {tp : Nat} (htp : hp_F h m 2 = .int (nI tp)) (ht6 : tp ≤ 600) {bk : Int32} (hbk : hp_F h m 6 = .int bk) (n : Nat) (hnt : n ≤ tp) {a9 : Nat} {s9 : LSt} (hr : ldS T n 61 0 em0 0 = .inr (a9, s9)) : CC l Z m_X11_land 6 0 0 [.ref m, .int (nI n)] h (RQ (some (.int (nI s9.1))) (fun h9 => Same (fun c => SX m c ∨ c = m + 14) (fun a j => SYt m a j ∨ setY m a j) h h9 ∧ hp_F h9 m 15 = .int (nI s9.1) ∧ hp_F h9 m 16 = .int (nI s9.2.1) ∧ hp_F h9 m 23 = .int (nI 0) ∧ hp_F h9 m 38 = .int (nI 0) ∧ hp_F h9 m 28 = .int (nI 0) ∧ hp_F h9 m 52 = .int (nI 0) ∧ hp_F h9 m 29 = .int (nI 0) ∧ EqR (hp_I h9 (m + 14)) s9.2.2 ∧ hp_F h9 m 0 = .int (nI 0) ∧ hp_F h9 m 2 = .int (nI 0) ∧ FtI h9 m (-1))) := by
  refine ee_entry hst (by decide +kernel) rfl rfl (by simp [Value.category]) (Nat.le_of_ble_eq_true rfl) ?_
  refine ww_lv (lv2 := [.ref m, .int (nI n), UU, UU]) rfl ?_
  refine ww_aload_n dX11_land_0 rfl rfl ?_
  refine ww_iconst (v := nI 0) dX11_land_1 (by decide) ?_
  refine ww_pfI tyX11 0 dX11_land_2 hM.K0 rfl (by decide) inX11 tyX11_ok nmX11 wg_1240 rfl rfl ?_
  refine ww_aload_n dX11_land_5 rfl rfl ?_
  refine ww_iload_n dX11_land_6 rfl rfl ?_
  refine ww_if_ltN (tgt := 22) dX11_land_7 (by decide) (by omega) ?_
  refine ww_iload_n dX11_land_10 rfl rfl ?_
  refine ww_aload_n dX11_land_11 rfl rfl ?_
  refine ww_get 2 dX11_land_12 hM.K0 rfl (by decide) inX11 wg_1242 (hp_F_nj (by decide) htp) ?_
  refine ww_icmp_gtN (tgt := 22) dX11_land_15 (by decide) (by omega) (by omega) (fun c15 => ?_) (fun c15 => ?_)
  · exfalso; omega
  · refine ww_iconst (v := nI 1) dX11_land_18 (by decide) ?_
    refine ww_goto (tgt := 23) dX11_land_19 (by decide) ?_
    refine ww_iconst (v := nI 1) dX11_land_23 (by decide) ?_
    refine ww_iconst (v := nI 1) dX11_land_24 (by decide) ?_
    refine ww_cVr (M := m_X11_land) (pc := 25) (v := .int (nI 1)) (h1 := hp_sF h m 0 (.int (nI 0))) (st := []) (d := 6) (bc := 0) (bs := 0) (c_M_may_t hst (h := hp_sF h m 0 (.int (nI 0))) (hM.sF (by decide)) (hp_F_eq _ _ _ _) (nI 1) (nI 1)) vv_X11_may dX11_land_25 wg_1413 hM.K0 rfl rfl rfl rfl (Nat.le_of_ble_eq_true rfl) (Nat.le_of_ble_eq_true rfl) (Nat.le_of_ble_eq_true rfl) (Nat.le_of_ble_eq_true rfl) ?_
    refine ww_if_neN (tgt := 33) dX11_land_28 (by decide) (by omega) (fun c28 => ?_) (fun c28 => ?_)
    · refine ww_aload_n dX11_land_33 rfl rfl ?_
      refine ww_iload_n dX11_land_34 rfl rfl ?_
      refine ww_cV0 (M := m_X11_land) (pc := 35) (h1 := mrS (bgS h m) m n 0 (-1) bk 0) (st := []) (d := 6) (bc := 0) (bs := 0) (c_MR_begins hst (h := hp_sF h m 0 (.int (nI 0))) (hM.sF (by decide)) n (hp_F_nj (by decide) hbk)) vv_X11_begins dX11_land_35 wg_1417 hM.K0 rfl rfl rfl rfl (Nat.le_of_ble_eq_true rfl) (Nat.le_of_ble_eq_true rfl) (Nat.le_of_ble_eq_true rfl) (Nat.le_of_ble_eq_true rfl) ?_
      refine ww_post (fun r h9 hp => ?_) (l_ML_landT_r hst (bgS_M hM) htf hB (by omega) bk hr)
      obtain ⟨e1, s1, f15, f16, f23, f38, f28, f52, f29, fI, f8⟩ := hp
      exact ⟨e1, (bgS_s.mono (fun _ e => Or.inl e) (fun _ _ e => Or.inl e)).tr (s1.mono (fun _ e => e) (fun _ _ e => e.imp STY_t id)), f15, f16, f23, f38, f28, f52, f29, fI, (s1.2.2.1 _ _ (fun e => by unfold STY setY at e; omega)).trans (bgS_0 h m), (s1.2.2.1 _ _ (fun e => by unfold STY setY at e; omega)).trans (bgS_2 h m), f8⟩
    · exact absurd c28 (by decide)
set_option maxHeartbeats 4000000 in
set_option maxRecDepth 100000 in
theorem c_M_land_l {l : Launch} {Z : EE} (hst : l.stackTraces = false) {h : PH} {m : Nat} (hM : ModS h m) {tf : Nat → Int32} (htf : hp_I h (m + 2) = tf) {T : Nat → Nat} (hB : BT tf T) {tp : Nat} (htp : hp_F h m 2 = .int (nI tp)) (ht6 : tp ≤ 600) {bk : Int32} (hbk : hp_F h m 6 = .int bk) (n : Nat) (hnt : n ≤ tp) {k9 q9 : Nat} (hr : ldS T n 61 0 em0 0 = .inl (k9, q9)) : CC l Z m_X11_land 6 0 0 [.ref m, .int (nI n)] h (RQ (some (.int (nI k9 - nI 10))) (fun h9 => Same (SX m) (SYt m) h h9 ∧ hp_F h9 m 0 = .int (nI 0) ∧ hp_F h9 m 2 = .int (nI 0) ∧ FtI h9 m (nI q9))) := by
  refine ee_entry hst (by decide +kernel) rfl rfl (by simp [Value.category]) (Nat.le_of_ble_eq_true rfl) ?_
  refine ww_lv (lv2 := [.ref m, .int (nI n), UU, UU]) rfl ?_
  refine ww_aload_n dX11_land_0 rfl rfl ?_
  refine ww_iconst (v := nI 0) dX11_land_1 (by decide) ?_
  refine ww_pfI tyX11 0 dX11_land_2 hM.K0 rfl (by decide) inX11 tyX11_ok nmX11 wg_1240 rfl rfl ?_
  refine ww_aload_n dX11_land_5 rfl rfl ?_
  refine ww_iload_n dX11_land_6 rfl rfl ?_
  refine ww_if_ltN (tgt := 22) dX11_land_7 (by decide) (by omega) ?_
  refine ww_iload_n dX11_land_10 rfl rfl ?_
  refine ww_aload_n dX11_land_11 rfl rfl ?_
  refine ww_get 2 dX11_land_12 hM.K0 rfl (by decide) inX11 wg_1242 (hp_F_nj (by decide) htp) ?_
  refine ww_icmp_gtN (tgt := 22) dX11_land_15 (by decide) (by omega) (by omega) (fun c15 => ?_) (fun c15 => ?_)
  · exfalso; omega
  · refine ww_iconst (v := nI 1) dX11_land_18 (by decide) ?_
    refine ww_goto (tgt := 23) dX11_land_19 (by decide) ?_
    refine ww_iconst (v := nI 1) dX11_land_23 (by decide) ?_
    refine ww_iconst (v := nI 1) dX11_land_24 (by decide) ?_
    refine ww_cVr (M := m_X11_land) (pc := 25) (v := .int (nI 1)) (h1 := hp_sF h m 0 (.int (nI 0))) (st := []) (d := 6) (bc := 0) (bs := 0) (c_M_may_t hst (h := hp_sF h m 0 (.int (nI 0))) (hM.sF (by decide)) (hp_F_eq _ _ _ _) (nI 1) (nI 1)) vv_X11_may dX11_land_25 wg_1413 hM.K0 rfl rfl rfl rfl (Nat.le_of_ble_eq_true rfl) (Nat.le_of_ble_eq_true rfl) (Nat.le_of_ble_eq_true rfl) (Nat.le_of_ble_eq_true rfl) ?_
    refine ww_if_neN (tgt := 33) dX11_land_28 (by decide) (by omega) (fun c28 => ?_) (fun c28 => ?_)
    · refine ww_aload_n dX11_land_33 rfl rfl ?_
      refine ww_iload_n dX11_land_34 rfl rfl ?_
      refine ww_cV0 (M := m_X11_land) (pc := 35) (h1 := mrS (bgS h m) m n 0 (-1) bk 0) (st := []) (d := 6) (bc := 0) (bs := 0) (c_MR_begins hst (h := hp_sF h m 0 (.int (nI 0))) (hM.sF (by decide)) n (hp_F_nj (by decide) hbk)) vv_X11_begins dX11_land_35 wg_1417 hM.K0 rfl rfl rfl rfl (Nat.le_of_ble_eq_true rfl) (Nat.le_of_ble_eq_true rfl) (Nat.le_of_ble_eq_true rfl) (Nat.le_of_ble_eq_true rfl) ?_
      refine ww_post (fun r h9 hp => ?_) (l_ML_landT_l hst (bgS_M hM) htf hB (by omega) bk hr (ldS_q 61 0 em0 0 em0_G (by omega) k9 q9 hr))
      obtain ⟨e1, s1, f2⟩ := hp
      exact ⟨e1, bgS_s.tr (s1.mono (fun _ e => e) (fun _ _ e => STY_t e)), (s1.2.2.1 _ _ (fun e => by unfold STY at e; omega)).trans (bgS_0 h m), (s1.2.2.1 _ _ (fun e => by unfold STY at e; omega)).trans (bgS_2 h m), f2⟩
    · exact absurd c28 (by decide)
set_option maxHeartbeats 4000000 in
set_option maxRecDepth 100000 in
theorem c_M_land_no {l : Launch} {Z : EE} (hst : l.stackTraces = false) {h : PH} {m : Nat} (hM : ModS h m) {tp : Nat} (htp : hp_F h m 2 = .int (nI tp)) (n : Int32) (hout : ¬ (nI 0 ≤ n ∧ n ≤ nI tp)) : CC l Z m_X11_land 6 0 0 [.ref m, .int n] h (MNo 1 1 m h) := by
  refine ee_entry hst (by decide +kernel) rfl rfl (by simp [Value.category]) (Nat.le_of_ble_eq_true rfl) ?_
  refine ww_lv (lv2 := [.ref m, .int n, UU, UU]) rfl ?_
  refine ww_aload_n dX11_land_0 rfl rfl ?_
  refine ww_iconst (v := nI 0) dX11_land_1 (by decide) ?_
  refine ww_pfI tyX11 0 dX11_land_2 hM.K0 rfl (by decide) inX11 tyX11_ok nmX11 wg_1240 rfl rfl ?_
  refine ww_aload_n dX11_land_5 rfl rfl ?_
  refine ww_iload_n dX11_land_6 rfl rfl ?_
  refine ww_if_lt (tgt := 22) dX11_land_7 (by decide) (fun c7 => ?_) (fun c7 => ?_)
  · refine ww_iconst (v := nI 0) dX11_land_22 (by decide) ?_
    refine ww_iconst (v := nI 1) dX11_land_23 (by decide) ?_
    refine ww_iconst (v := nI 1) dX11_land_24 (by decide) ?_
    refine ww_cVr (M := m_X11_land) (pc := 25) (v := .int (nI 0)) (h1 := hp_sI (hp_sF (hp_sF h m 0 (.int (nI 0))) m 0 (.int (nI 1))) (m + 1) (upd (hp_I (hp_sF h m 0 (.int (nI 0))) (m + 1)) 1 (hp_I (hp_sF h m 0 (.int (nI 0))) (m + 1) 1 + nI 1))) (st := []) (d := 6) (bc := 0) (bs := 0) (c_M_may_f hst (h := hp_sF h m 0 (.int (nI 0))) (hM.sF (by decide)) (hp_F_eq _ _ _ _) 1 1 (by decide) (by decide) (by decide)) vv_X11_may dX11_land_25 wg_1413 hM.K0 rfl rfl rfl rfl (Nat.le_of_ble_eq_true rfl) (Nat.le_of_ble_eq_true rfl) (Nat.le_of_ble_eq_true rfl) (Nat.le_of_ble_eq_true rfl) ?_
    refine ww_if_neN (tgt := 33) dX11_land_28 (by decide) (by omega) (fun c28 => ?_) (fun c28 => ?_)
    · exact absurd c28 (by decide)
    · refine ww_iconst (v := nI 0) dX11_land_31 (by decide) ?_
      exact ww_iret dX11_land_32 rfl ⟨rfl, (((Same.rf.sF (SY0 m)).sF (SY0 m)).sI (Or.inr rfl)), (hp_F_sI (hp_F_eq _ _ _ _)), by rw [hp_I_eq]; rfl⟩
  · refine ww_iload_n dX11_land_10 rfl rfl ?_
    refine ww_aload_n dX11_land_11 rfl rfl ?_
    refine ww_get 2 dX11_land_12 hM.K0 rfl (by decide) inX11 wg_1242 (hp_F_nj (by decide) htp) ?_
    refine ww_icmp_gt (tgt := 22) dX11_land_15 (by decide) (fun c15 => ?_) (fun c15 => ?_)
    · refine ww_iconst (v := nI 0) dX11_land_22 (by decide) ?_
      refine ww_iconst (v := nI 1) dX11_land_23 (by decide) ?_
      refine ww_iconst (v := nI 1) dX11_land_24 (by decide) ?_
      refine ww_cVr (M := m_X11_land) (pc := 25) (v := .int (nI 0)) (h1 := hp_sI (hp_sF (hp_sF h m 0 (.int (nI 0))) m 0 (.int (nI 1))) (m + 1) (upd (hp_I (hp_sF h m 0 (.int (nI 0))) (m + 1)) 1 (hp_I (hp_sF h m 0 (.int (nI 0))) (m + 1) 1 + nI 1))) (st := []) (d := 6) (bc := 0) (bs := 0) (c_M_may_f hst (h := hp_sF h m 0 (.int (nI 0))) (hM.sF (by decide)) (hp_F_eq _ _ _ _) 1 1 (by decide) (by decide) (by decide)) vv_X11_may dX11_land_25 wg_1413 hM.K0 rfl rfl rfl rfl (Nat.le_of_ble_eq_true rfl) (Nat.le_of_ble_eq_true rfl) (Nat.le_of_ble_eq_true rfl) (Nat.le_of_ble_eq_true rfl) ?_
      refine ww_if_neN (tgt := 33) dX11_land_28 (by decide) (by omega) (fun c28 => ?_) (fun c28 => ?_)
      · exact absurd c28 (by decide)
      · refine ww_iconst (v := nI 0) dX11_land_31 (by decide) ?_
        exact ww_iret dX11_land_32 rfl ⟨rfl, (((Same.rf.sF (SY0 m)).sF (SY0 m)).sI (Or.inr rfl)), (hp_F_sI (hp_F_eq _ _ _ _)), by rw [hp_I_eq]; rfl⟩
    · exact absurd ⟨Int32.not_lt.mp c7, Int32.not_lt.mp c15⟩ hout
