/-! ===== the reference's out: its beginning and its answer ===== -/
theorem ouN_0 {f : Nat → Int32} {k : Nat} (h : f (61 + k) = 0) : nI 0 = nI (ouN f k) := by
  unfold ouN ouO; rw [if_pos (show f (61 + k) = nI 0 from h), if_pos rfl]
theorem ouN_1 {f : Nat → Int32} {k : Nat} (h : ¬ f (61 + k) = 0) : nI 100000 = nI (ouN f k) := by
  unfold ouN ouO; rw [if_neg (show ¬ f (61 + k) = nI 0 from h), if_neg (by decide)]
set_option maxHeartbeats 4000000 in
set_option maxRecDepth 100000 in
theorem l_M_oul {l : Launch} {Z : EE} (hst : l.stackTraces = false) {h : PH} {m : Nat} {f : Nat → Int32} {n : Nat} (hn : n ≤ 60) : ∀ (j k : Nat) (h2 : PH), k + j = 61 → ModS h2 m → hp_I h2 (m + 14) = f → (∀ i, i < k → hp_I h2 (m + 20) i = nI (ouN f i)) → Same (SX m) (SY m) h h2 → hp_F h2 m 0 = .int (nI 0) → WW l Z m_X11_out 6 0 0 18 [.ref m, .int (nI n), .int (nI k), UU, UU, UU, UU] [] h2 (MOk (if (ouQ f).1 n = spFAR then -1 else nI ((ouQ f).1 n)) m h) := by
  intro j
  induction j with
  | zero =>
    intro k h2 hj hM hf hr hS ht
    have hk9 : k = 61 := by omega
    subst hk9
    refine ww_iload_n dX11_out_18 rfl rfl ?_
    refine ww_bipush (v := nI 61) dX11_out_19 (by decide) ?_
    refine ww_icmp_geN (tgt := 55) dX11_out_21 (by decide) (by omega) (by omega) (fun c21 => ?_) (fun c21 => ?_)
    · refine ww_iconst (v := nI 1) dX11_out_55 (by decide) ?_
      refine ww_sti_n (lv2 := [.ref m, .int (nI n), .int (nI 1), UU, UU, UU, UU]) dX11_out_56 rfl rfl (by decide) rfl ?_
      refine l_M_so hst (h := h2) (own := ouN f) (fun n _ => ouN_le f n) n _ (ouN f) h2 (Nat.lt_succ_self _) ⟨hM, fun i hi => hr i (by omega)⟩ ⟨fun _ _ => Nat.le_refl _, fun _ _ => Or.inl rfl⟩ Same.rf (fun v9 h9 a9 f9 s9 => ?_)
      have ha9 := ou_ans f9 hn
      have hS9 : Same (SX m) (SY m) h h9 := hS.tr (s9.mono (fun c hc => hc ▸ SX20 m) (fun _ _ e => e.elim))
      have ht9 : hp_F h9 m 0 = .int (nI 0) := (s9.2.2.1 _ _ (fun e => e)).trans ht
      refine ww_aload_n dX11_out_175 rfl rfl ?_
      refine ww_get 40 dX11_out_176 a9.1.K0 rfl (by decide) inX11 wg_1280 a9.1.F20 ?_
      refine ww_iload_n dX11_out_179 rfl rfl ?_
      refine ww_ialdF dX11_out_180 a9.1.K20 rfl (by omega) (by omega) ?_
      refine ww_sk (st2 := [.int (nI (v9 n))]) (by rw [a9.2 n (by omega)]) ?_
      refine ww_ldcw (v := nI 100000) dX11_out_181 wg_1656 ?_
      refine ww_icmp_ltN (tgt := 191) dX11_out_184 (by decide) (by omega) (by omega) (fun c184 => ?_) (fun c184 => ?_)
      · refine ww_aload_n dX11_out_191 rfl rfl ?_
        refine ww_get 40 dX11_out_192 a9.1.K0 rfl (by decide) inX11 wg_1280 a9.1.F20 ?_
        refine ww_iload_n dX11_out_195 rfl rfl ?_
        refine ww_ialdF dX11_out_196 a9.1.K20 rfl (by omega) (by omega) ?_
        refine ww_sk (st2 := [.int (nI (v9 n))]) (by rw [a9.2 n (by omega)]) ?_
        exact ww_iret dX11_out_197 rfl ⟨by rw [← ha9.2, if_pos (by omega)], hS9, ht9⟩
      · refine ww_iconst (v := -1) dX11_out_187 (by decide) ?_
        refine ww_goto (tgt := 197) dX11_out_188 (by decide) ?_
        exact ww_iret dX11_out_197 rfl ⟨by rw [← ha9.2, if_neg (by omega)], hS9, ht9⟩
    · exfalso; omega
  | succ j ih =>
    intro k h2 hj hM hf hr hS ht
    refine ww_iload_n dX11_out_18 rfl rfl ?_
    refine ww_bipush (v := nI 61) dX11_out_19 (by decide) ?_
    refine ww_icmp_geN (tgt := 55) dX11_out_21 (by decide) (by omega) (by omega) (fun c21 => ?_) (fun c21 => ?_)
    · exfalso; omega
    · refine ww_aload_n dX11_out_24 rfl rfl ?_
      refine ww_get 40 dX11_out_25 hM.K0 rfl (by decide) inX11 wg_1280 hM.F20 ?_
      refine ww_iload_n dX11_out_28 rfl rfl ?_
      refine ww_aload_n dX11_out_29 rfl rfl ?_
      refine ww_get 33 dX11_out_30 hM.K0 rfl (by decide) inX11 wg_1273 hM.F14 ?_
      refine ww_bipush (v := nI 61) dX11_out_33 (by decide) ?_
      refine ww_iload_n dX11_out_35 rfl rfl ?_
      refine ww_iaddN dX11_out_36 ?_
      refine ww_ialdF dX11_out_37 hM.K14 hf (by omega) (by omega) ?_
      refine ww_if_ne (tgt := 45) dX11_out_38 (by decide) (fun c38 => ?_) (fun c38 => ?_)
      · refine ww_ldcw (v := nI 100000) dX11_out_45 wg_1656 ?_
        refine ww_iastF dX11_out_48 hM.K20 rfl (by omega) (by omega) ?_
        refine ww_incN (c := 1) (lv2 := [.ref m, .int (nI n), .int (nI (k + 1)), UU, UU, UU, UU]) dX11_out_49 rfl rfl rfl (by decide) rfl ?_
        refine ww_goto (tgt := 18) dX11_out_52 (by decide) ?_
        refine ih (k + 1) _ (by omega) hM ((hp_I_nx (by omega) hf)) (fun i hi => ?_) (hS.sI (SX20 m)) ht
        rw [hp_I_eq]
        by_cases e : i = k
        · rw [e]; simp only [upd, if_true]; exact ouN_1 c38
        · simp only [upd, e, if_false]; exact hr i (by omega)
      · refine ww_iconst (v := nI 0) dX11_out_41 (by decide) ?_
        refine ww_goto (tgt := 48) dX11_out_42 (by decide) ?_
        refine ww_iastF dX11_out_48 hM.K20 rfl (by omega) (by omega) ?_
        refine ww_incN (c := 1) (lv2 := [.ref m, .int (nI n), .int (nI (k + 1)), UU, UU, UU, UU]) dX11_out_49 rfl rfl rfl (by decide) rfl ?_
        refine ww_goto (tgt := 18) dX11_out_52 (by decide) ?_
        refine ih (k + 1) _ (by omega) hM ((hp_I_nx (by omega) hf)) (fun i hi => ?_) (hS.sI (SX20 m)) ht
        rw [hp_I_eq]
        by_cases e : i = k
        · rw [e]; simp only [upd, if_true]; exact ouN_0 c38
        · simp only [upd, e, if_false]; exact hr i (by omega)
set_option maxHeartbeats 4000000 in
set_option maxRecDepth 100000 in
theorem c_M_out {l : Launch} {Z : EE} (hst : l.stackTraces = false) {h : PH} {m : Nat} (hM : ModS h m) {f : Nat → Int32} (hf : hp_I h (m + 14) = f) (n : Nat) (hn : n ≤ 60) : CC l Z m_X11_out 6 0 0 [.ref m, .int (nI n)] h (MOk (if (ouQ f).1 n = spFAR then -1 else nI ((ouQ f).1 n)) m h) := by
  refine ee_entry hst (by decide +kernel) rfl rfl (by simp [Value.category]) (Nat.le_of_ble_eq_true rfl) ?_
  refine ww_lv (lv2 := [.ref m, .int (nI n), UU, UU, UU, UU, UU]) rfl ?_
  refine ww_aload_n dX11_out_0 rfl rfl ?_
  refine ww_iconst (v := nI 0) dX11_out_1 (by decide) ?_
  refine ww_pfI tyX11 0 dX11_out_2 hM.K0 rfl (by decide) inX11 tyX11_ok nmX11 wg_1240 rfl rfl ?_
  refine ww_aload_n dX11_out_5 rfl rfl ?_
  refine ww_iload_n dX11_out_6 rfl rfl ?_
  refine ww_iconst (v := nI 1) dX11_out_7 (by decide) ?_
  refine ww_cVr (M := m_X11_out) (pc := 8) (v := .int (nI 1)) (h1 := hp_sF h m 0 (.int (nI 0))) (st := []) (d := 6) (bc := 0) (bs := 0) (c_M_isThere_t hst (h := hp_sF h m 0 (.int (nI 0))) (ModS.sF hM (by decide)) (hp_F_eq _ _ _ _) n hn) vv_X11_isThere dX11_out_8 wg_1620 hM.K0 rfl rfl rfl rfl (Nat.le_of_ble_eq_true rfl) (Nat.le_of_ble_eq_true rfl) (Nat.le_of_ble_eq_true rfl) (Nat.le_of_ble_eq_true rfl) ?_
  refine ww_if_neN (tgt := 16) dX11_out_11 (by decide) (by omega) (fun c11 => ?_) (fun c11 => ?_)
  · refine ww_iconst (v := nI 0) dX11_out_16 (by decide) ?_
    refine ww_sti_n (lv2 := [.ref m, .int (nI n), .int (nI 0), UU, UU, UU, UU]) dX11_out_17 rfl rfl (by decide) rfl ?_
    exact l_M_oul hst hn 61 0 _ rfl (ModS.sF hM (by decide)) hf (fun i hi => absurd hi (Nat.not_lt_zero i)) (Same.rf.sF (SY0 m)) (hp_F_eq _ _ _ _)
  · exfalso; omega
set_option maxHeartbeats 4000000 in
set_option maxRecDepth 100000 in
theorem c_M_out_no {l : Launch} {Z : EE} (hst : l.stackTraces = false) {h : PH} {m : Nat} (hM : ModS h m) (n : Int32) (hout : outR 0 60 n) : CC l Z m_X11_out 6 0 0 [.ref m, .int n] h (MNo 1 0 m h) := by
  refine ee_entry hst (by decide +kernel) rfl rfl (by simp [Value.category]) (Nat.le_of_ble_eq_true rfl) ?_
  refine ww_lv (lv2 := [.ref m, .int n, UU, UU, UU, UU, UU]) rfl ?_
  refine ww_aload_n dX11_out_0 rfl rfl ?_
  refine ww_iconst (v := nI 0) dX11_out_1 (by decide) ?_
  refine ww_pfI tyX11 0 dX11_out_2 hM.K0 rfl (by decide) inX11 tyX11_ok nmX11 wg_1240 rfl rfl ?_
  refine ww_aload_n dX11_out_5 rfl rfl ?_
  refine ww_iload_n dX11_out_6 rfl rfl ?_
  refine ww_iconst (v := nI 1) dX11_out_7 (by decide) ?_
  refine ww_cVr (M := m_X11_out) (pc := 8) (v := .int (nI 0)) (h1 := hp_sI (hp_sF (hp_sF h m 0 (.int (nI 0))) m 0 (.int (nI 1))) (m + 1) (upd (hp_I (hp_sF h m 0 (.int (nI 0))) (m + 1)) 0 (hp_I (hp_sF h m 0 (.int (nI 0))) (m + 1) 0 + nI 1))) (st := []) (d := 6) (bc := 0) (bs := 0) (c_M_isThere_f hst (h := hp_sF h m 0 (.int (nI 0))) (ModS.sF hM (by decide)) (hp_F_eq _ _ _ _) n hout) vv_X11_isThere dX11_out_8 wg_1620 hM.K0 rfl rfl rfl rfl (Nat.le_of_ble_eq_true rfl) (Nat.le_of_ble_eq_true rfl) (Nat.le_of_ble_eq_true rfl) (Nat.le_of_ble_eq_true rfl) ?_
  refine ww_if_neN (tgt := 16) dX11_out_11 (by decide) (by omega) (fun c11 => ?_) (fun c11 => ?_)
  · exfalso; omega
  · refine ww_iconst (v := nI 0) dX11_out_14 (by decide) ?_
    exact ww_iret dX11_out_15 rfl ⟨rfl, (((Same.rf.sF (SY0 m)).sF (SY0 m)).sI (Or.inr rfl)), (hp_F_sI (hp_F_eq _ _ _ _)), by rw [hp_I_eq]; rfl⟩
