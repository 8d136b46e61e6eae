/-! ===== the reference's saying ===== -/
theorem sy_lf (f : Nat → Int32) (sz : Nat) (kf vf : Nat → Int32) (du : Nat) {n : Nat} (hn : n ≤ 60) : lg_cmp (lI (syL f sz kf vf du n) - lI (syL f sz kf vf du n) / 1000000 * 1000000) 1 = lg_cmp (lI ((syQ f sz kf vf du).2 n)) (lI 1) := by
  have h2 := syL_lt f sz kf vf du hn
  rw [lI_rem1 (by omega), syL_m f sz kf vf du hn]; rfl
set_option maxHeartbeats 4000000 in
set_option maxRecDepth 100000 in
theorem c_M_saying0_l {l : Launch} {Z : EE} (hst : l.stackTraces = false) {h : PH} {m : Nat} (hM : ModS h m) {f : Nat → Int32} (hf : hp_I h (m + 14) = f) {g : Nat → Int32} (hs : hp_I h (m + 15) = g) {sz : Nat} {kf vf : Nat → Int32} (hQ : LawM h m sz kf vf) (hok : LawOK kf vf sz) {du : Nat} (hdu : hp_F h m 16 = .int (nI du)) (hd : du ≤ 20) (n : Nat) (hn : n ≤ 60) (hl : (syQ f sz kf vf du).1 n = syO f sz kf vf n) : CC l Z m_X11_saying 6 0 0 [.ref m, .int (nI n), .int (nI 0)] h (MOk (wayV (sayS (syO f sz kf vf) (syQ f sz kf vf du) du n) 0) m h) := by
  refine ee_entry hst (by decide +kernel) rfl rfl (by simp [Value.category]) (Nat.le_of_ble_eq_true rfl) ?_
  refine ww_lv (lv2 := [.ref m, .int (nI n), .int (nI 0), UU, UU, UU]) rfl ?_
  have hq9 := syQ_le f sz kf vf du hn
  have hlf := sy_leaf1 f sz kf vf du hn
  refine ww_aload_n dX11_saying_0 rfl rfl ?_
  refine ww_iconst (v := nI 0) dX11_saying_1 (by decide) ?_
  refine ww_pfI tyX11 0 dX11_saying_2 hM.K0 rfl (by decide) inX11 tyX11_ok nmX11 wg_1240 rfl rfl ?_
  refine ww_aload_n dX11_saying_5 rfl rfl ?_
  refine ww_iload_n dX11_saying_6 rfl rfl ?_
  refine ww_iconst (v := nI 1) dX11_saying_7 (by decide) ?_
  refine ww_cVr (M := m_X11_saying) (pc := 8) (v := .int (nI 1)) (h1 := hp_sF h m 0 (.int (nI 0))) (st := []) (d := 6) (bc := 0) (bs := 0) (c_M_isThere_t hst (h := hp_sF h m 0 (.int (nI 0))) (ModS.sF hM (by decide)) (hp_F_eq _ _ _ _) n hn) vv_X11_isThere dX11_saying_8 wg_1620 hM.K0 rfl rfl rfl rfl (Nat.le_of_ble_eq_true rfl) (Nat.le_of_ble_eq_true rfl) (Nat.le_of_ble_eq_true rfl) (Nat.le_of_ble_eq_true rfl) ?_
  refine ww_if_eqN (tgt := 29) dX11_saying_11 (by decide) (by omega) (fun c11 => ?_) (fun c11 => ?_)
  · exfalso; omega
  · refine ww_aload_n dX11_saying_14 rfl rfl ?_
    refine ww_iload_n dX11_saying_15 rfl rfl ?_
    refine ww_iconst (v := nI 0) dX11_saying_16 (by decide) ?_
    refine ww_iconst (v := nI 2) dX11_saying_17 (by decide) ?_
    refine ww_cSr (M := m_X11_saying) (pc := 18) (v := .int (nI 1)) (h1 := hp_sF h m 0 (.int (nI 0))) (st := [.ref m]) (d := 6) (bc := 0) (bs := 0) (c_M_within_t hst (nI 0) (nI 0) (nI 2) (by decide) (by decide) _) vv_X11_within dX11_saying_18 wg_1601 rfl rfl rfl (Nat.le_of_ble_eq_true rfl) (Nat.le_of_ble_eq_true rfl) (Nat.le_of_ble_eq_true rfl) (Nat.le_of_ble_eq_true rfl) ?_
    refine ww_iconst (v := nI 2) dX11_saying_21 (by decide) ?_
    refine ww_iconst (v := nI 1) dX11_saying_22 (by decide) ?_
    refine ww_cVr (M := m_X11_saying) (pc := 23) (v := .int (nI 1)) (h1 := hp_sF h m 0 (.int (nI 0))) (st := []) (d := 6) (bc := 0) (bs := 0) (c_M_may_t hst (h := hp_sF h m 0 (.int (nI 0))) (ModS.sF hM (by decide)) (hp_F_eq _ _ _ _) (nI 2) (nI 1)) vv_X11_may dX11_saying_23 wg_1413 hM.K0 rfl rfl rfl rfl (Nat.le_of_ble_eq_true rfl) (Nat.le_of_ble_eq_true rfl) (Nat.le_of_ble_eq_true rfl) (Nat.le_of_ble_eq_true rfl) ?_
    refine ww_if_neN (tgt := 31) dX11_saying_26 (by decide) (by omega) (fun c26 => ?_) (fun c26 => ?_)
    · refine ww_aload_n dX11_saying_31 rfl rfl ?_
      have hQ0 : LawM (hp_sF h m 0 (.int (nI 0))) m sz kf vf := hQ.same (Same.rf.sF (SY0 m)) (SX_no (by decide)) (SX_no (by decide)) (SY_no (by decide))
      refine ww_cVq0 (M := m_X11_saying) (pc := 32) (st := []) (d := 6) (bc := 0) (bs := 0) (c_M_laySaid hst (h := hp_sF h m 0 (.int (nI 0))) (ModS.sF hM (by decide)) hf hs hQ0 hok (hp_F_nj (by decide) hdu) hd (hp_F_eq _ _ _ _)) vv_X11_laySaid dX11_saying_32 wg_1636 hM.K0 rfl rfl rfl rfl (Nat.le_of_ble_eq_true rfl) (Nat.le_of_ble_eq_true rfl) (Nat.le_of_ble_eq_true rfl) (Nat.le_of_ble_eq_true rfl) (fun hq1 qq1 => ?_)
      have hI1 : MI m sz kf vf (cpF f g 190) h hq1 := ⟨qq1.1.1, qq1.1.2.1, qq1.1.2.2.1, (Same.rf.sF (SY0 m)).tr qq1.1.2.2.2.1, qq1.1.2.2.2.2⟩
      have hr1 := qq1.2.2
      have hdu1 := qq1.2.1
      generalize hge : cpF f g 190 = g9 at hI1
      have hg9 : ∀ i, i < 190 → g9 i = f i := fun i hi => by rw [← hge]; exact cpF_in hi
      refine ww_aload_n dX11_saying_35 rfl rfl ?_
      refine ww_get 39 dX11_saying_36 hI1.1.K0 rfl (by decide) inX11 wg_1279 hI1.1.F19 ?_
      refine ww_iload_n dX11_saying_39 rfl rfl ?_
      refine ww_laldF dX11_saying_40 hI1.1.K19 rfl (by omega) (by omega) ?_
      refine ww_sk (st2 := [.long (lI (syL f sz kf vf du n))]) (by rw [hr1 n (by omega)]) ?_
      refine ww_ldc2 (v := 1000000) dX11_saying_41 wg_1640 ?_
      refine ww_lrem dX11_saying_44 (by decide) ?_
      refine ww_lconst (v := 1) dX11_saying_45 (by decide) ?_
      refine ww_lcmp dX11_saying_46 ?_
      refine ww_sk (st2 := [.int (nI 0)]) (by rw [sy_lf f sz kf vf du hn, lcmp_eqN (by omega) (hlf.mpr hl), nI_0]) ?_
      refine ww_if_neN (tgt := 60) dX11_saying_47 (by decide) (by omega) (fun c47 => ?_) (fun c47 => ?_)
      · exfalso; omega
      · refine ww_iload_n dX11_saying_50 rfl rfl ?_
        refine ww_if_neN (tgt := 58) dX11_saying_51 (by decide) (by omega) (fun c51 => ?_) (fun c51 => ?_)
        · exfalso; omega
        · refine ww_iconst (v := nI 0) dX11_saying_54 (by decide) ?_
          refine ww_goto (tgt := 59) dX11_saying_55 (by decide) ?_
          exact ww_iret dX11_saying_59 rfl ⟨by rw [show (sayS (syO f sz kf vf) (syQ f sz kf vf du) du n) = none from if_pos hl]; rfl, hI1.2.2.2.1, hI1.2.2.2.2⟩
    · exfalso; omega
set_option maxHeartbeats 4000000 in
set_option maxRecDepth 100000 in
theorem c_M_saying0_w {l : Launch} {Z : EE} (hst : l.stackTraces = false) {h : PH} {m : Nat} (hM : ModS h m) {f : Nat → Int32} (hf : hp_I h (m + 14) = f) {g : Nat → Int32} (hs : hp_I h (m + 15) = g) {sz : Nat} {kf vf : Nat → Int32} (hQ : LawM h m sz kf vf) (hok : LawOK kf vf sz) {du : Nat} (hdu : hp_F h m 16 = .int (nI du)) (hd : du ≤ 20) (n : Nat) (hn : n ≤ 60) (hl : (syQ f sz kf vf du).1 n ≠ syO f sz kf vf n) : CC l Z m_X11_saying 6 0 0 [.ref m, .int (nI n), .int (nI 0)] h (MOk (wayV (sayS (syO f sz kf vf) (syQ f sz kf vf du) du n) 0) m h) := by
  refine ee_entry hst (by decide +kernel) rfl rfl (by simp [Value.category]) (Nat.le_of_ble_eq_true rfl) ?_
  refine ww_lv (lv2 := [.ref m, .int (nI n), .int (nI 0), UU, UU, UU]) rfl ?_
  have hq9 := syQ_le f sz kf vf du hn
  have hlf := sy_leaf1 f sz kf vf du hn
  refine ww_aload_n dX11_saying_0 rfl rfl ?_
  refine ww_iconst (v := nI 0) dX11_saying_1 (by decide) ?_
  refine ww_pfI tyX11 0 dX11_saying_2 hM.K0 rfl (by decide) inX11 tyX11_ok nmX11 wg_1240 rfl rfl ?_
  refine ww_aload_n dX11_saying_5 rfl rfl ?_
  refine ww_iload_n dX11_saying_6 rfl rfl ?_
  refine ww_iconst (v := nI 1) dX11_saying_7 (by decide) ?_
  refine ww_cVr (M := m_X11_saying) (pc := 8) (v := .int (nI 1)) (h1 := hp_sF h m 0 (.int (nI 0))) (st := []) (d := 6) (bc := 0) (bs := 0) (c_M_isThere_t hst (h := hp_sF h m 0 (.int (nI 0))) (ModS.sF hM (by decide)) (hp_F_eq _ _ _ _) n hn) vv_X11_isThere dX11_saying_8 wg_1620 hM.K0 rfl rfl rfl rfl (Nat.le_of_ble_eq_true rfl) (Nat.le_of_ble_eq_true rfl) (Nat.le_of_ble_eq_true rfl) (Nat.le_of_ble_eq_true rfl) ?_
  refine ww_if_eqN (tgt := 29) dX11_saying_11 (by decide) (by omega) (fun c11 => ?_) (fun c11 => ?_)
  · exfalso; omega
  · refine ww_aload_n dX11_saying_14 rfl rfl ?_
    refine ww_iload_n dX11_saying_15 rfl rfl ?_
    refine ww_iconst (v := nI 0) dX11_saying_16 (by decide) ?_
    refine ww_iconst (v := nI 2) dX11_saying_17 (by decide) ?_
    refine ww_cSr (M := m_X11_saying) (pc := 18) (v := .int (nI 1)) (h1 := hp_sF h m 0 (.int (nI 0))) (st := [.ref m]) (d := 6) (bc := 0) (bs := 0) (c_M_within_t hst (nI 0) (nI 0) (nI 2) (by decide) (by decide) _) vv_X11_within dX11_saying_18 wg_1601 rfl rfl rfl (Nat.le_of_ble_eq_true rfl) (Nat.le_of_ble_eq_true rfl) (Nat.le_of_ble_eq_true rfl) (Nat.le_of_ble_eq_true rfl) ?_
    refine ww_iconst (v := nI 2) dX11_saying_21 (by decide) ?_
    refine ww_iconst (v := nI 1) dX11_saying_22 (by decide) ?_
    refine ww_cVr (M := m_X11_saying) (pc := 23) (v := .int (nI 1)) (h1 := hp_sF h m 0 (.int (nI 0))) (st := []) (d := 6) (bc := 0) (bs := 0) (c_M_may_t hst (h := hp_sF h m 0 (.int (nI 0))) (ModS.sF hM (by decide)) (hp_F_eq _ _ _ _) (nI 2) (nI 1)) vv_X11_may dX11_saying_23 wg_1413 hM.K0 rfl rfl rfl rfl (Nat.le_of_ble_eq_true rfl) (Nat.le_of_ble_eq_true rfl) (Nat.le_of_ble_eq_true rfl) (Nat.le_of_ble_eq_true rfl) ?_
    refine ww_if_neN (tgt := 31) dX11_saying_26 (by decide) (by omega) (fun c26 => ?_) (fun c26 => ?_)
    · refine ww_aload_n dX11_saying_31 rfl rfl ?_
      have hQ0 : LawM (hp_sF h m 0 (.int (nI 0))) m sz kf vf := hQ.same (Same.rf.sF (SY0 m)) (SX_no (by decide)) (SX_no (by decide)) (SY_no (by decide))
      refine ww_cVq0 (M := m_X11_saying) (pc := 32) (st := []) (d := 6) (bc := 0) (bs := 0) (c_M_laySaid hst (h := hp_sF h m 0 (.int (nI 0))) (ModS.sF hM (by decide)) hf hs hQ0 hok (hp_F_nj (by decide) hdu) hd (hp_F_eq _ _ _ _)) vv_X11_laySaid dX11_saying_32 wg_1636 hM.K0 rfl rfl rfl rfl (Nat.le_of_ble_eq_true rfl) (Nat.le_of_ble_eq_true rfl) (Nat.le_of_ble_eq_true rfl) (Nat.le_of_ble_eq_true rfl) (fun hq1 qq1 => ?_)
      have hI1 : MI m sz kf vf (cpF f g 190) h hq1 := ⟨qq1.1.1, qq1.1.2.1, qq1.1.2.2.1, (Same.rf.sF (SY0 m)).tr qq1.1.2.2.2.1, qq1.1.2.2.2.2⟩
      have hr1 := qq1.2.2
      have hdu1 := qq1.2.1
      generalize hge : cpF f g 190 = g9 at hI1
      have hg9 : ∀ i, i < 190 → g9 i = f i := fun i hi => by rw [← hge]; exact cpF_in hi
      refine ww_aload_n dX11_saying_35 rfl rfl ?_
      refine ww_get 39 dX11_saying_36 hI1.1.K0 rfl (by decide) inX11 wg_1279 hI1.1.F19 ?_
      refine ww_iload_n dX11_saying_39 rfl rfl ?_
      refine ww_laldF dX11_saying_40 hI1.1.K19 rfl (by omega) (by omega) ?_
      refine ww_sk (st2 := [.long (lI (syL f sz kf vf du n))]) (by rw [hr1 n (by omega)]) ?_
      refine ww_ldc2 (v := 1000000) dX11_saying_41 wg_1640 ?_
      refine ww_lrem dX11_saying_44 (by decide) ?_
      refine ww_lconst (v := 1) dX11_saying_45 (by decide) ?_
      refine ww_lcmp dX11_saying_46 ?_
      refine ww_sk (st2 := [.int (lg_cmp (lI ((syQ f sz kf vf du).2 n)) (lI 1))]) (by rw [sy_lf f sz kf vf du hn]) ?_
      refine ww_if_ne (tgt := 60) dX11_saying_47 (by decide) (fun c47 => ?_) (fun c47 => ?_)
      · refine ww_iconst (v := nI 1) dX11_saying_60 (by decide) ?_
        refine ww_sti_n (lv2 := [.ref m, .int (nI n), .int (nI 0), .int (nI 1), UU, UU]) dX11_saying_61 rfl rfl (by decide) rfl ?_
        refine l_M_rfw hst (v := syL f sz kf vf du) ⟨hI1.1, hr1, hdu1⟩ hd (fun i hi => syL_lt f sz kf vf du hi) n hn 0 (by omega) 3 1 rfl (by omega) (fun e => ?_) (fun w9 a9 b9 e => ?_)
        · rw [rs_way hn hl] at e; exact absurd e (say_some hn hl)
        · rw [rs_way hn hl] at e
          exact ⟨by rw [e]; rfl, hI1.2.2.2.1, hI1.2.2.2.2⟩
      · exact absurd (by first | exact c47 | exact Classical.not_not.mp c47) (lcmp_neN (by omega) (by omega) (fun q => hl (hlf.mp q)))
    · exfalso; omega
set_option maxHeartbeats 4000000 in
set_option maxRecDepth 100000 in
theorem c_M_saying0 {l : Launch} {Z : EE} (hst : l.stackTraces = false) {h : PH} {m : Nat} (hM : ModS h m) {f : Nat → Int32} (hf : hp_I h (m + 14) = f) {g : Nat → Int32} (hs : hp_I h (m + 15) = g) {sz : Nat} {kf vf : Nat → Int32} (hQ : LawM h m sz kf vf) (hok : LawOK kf vf sz) {du : Nat} (hdu : hp_F h m 16 = .int (nI du)) (hd : du ≤ 20) (n : Nat) (hn : n ≤ 60) : CC l Z m_X11_saying 6 0 0 [.ref m, .int (nI n), .int (nI 0)] h (MOk (wayV (sayS (syO f sz kf vf) (syQ f sz kf vf du) du n) 0) m h) := by
  by_cases hl : (syQ f sz kf vf du).1 n = syO f sz kf vf n
  · exact c_M_saying0_l hst hM hf hs hQ hok hdu hd n hn hl
  · exact c_M_saying0_w hst hM hf hs hQ hok hdu hd n hn hl
set_option maxHeartbeats 4000000 in
set_option maxRecDepth 100000 in
theorem c_M_saying1_l {l : Launch} {Z : EE} (hst : l.stackTraces = false) {h : PH} {m : Nat} (hM : ModS h m) {f : Nat → Int32} (hf : hp_I h (m + 14) = f) {g : Nat → Int32} (hs : hp_I h (m + 15) = g) {sz : Nat} {kf vf : Nat → Int32} (hQ : LawM h m sz kf vf) (hok : LawOK kf vf sz) {du : Nat} (hdu : hp_F h m 16 = .int (nI du)) (hd : du ≤ 20) (n : Nat) (hn : n ≤ 60) (hl : (syQ f sz kf vf du).1 n = syO f sz kf vf n) : CC l Z m_X11_saying 6 0 0 [.ref m, .int (nI n), .int (nI 1)] h (MOk (wayV (sayS (syO f sz kf vf) (syQ f sz kf vf du) du n) 1) m h) := by
  refine ee_entry hst (by decide +kernel) rfl rfl (by simp [Value.category]) (Nat.le_of_ble_eq_true rfl) ?_
  refine ww_lv (lv2 := [.ref m, .int (nI n), .int (nI 1), UU, UU, UU]) rfl ?_
  have hq9 := syQ_le f sz kf vf du hn
  have hlf := sy_leaf1 f sz kf vf du hn
  refine ww_aload_n dX11_saying_0 rfl rfl ?_
  refine ww_iconst (v := nI 0) dX11_saying_1 (by decide) ?_
  refine ww_pfI tyX11 0 dX11_saying_2 hM.K0 rfl (by decide) inX11 tyX11_ok nmX11 wg_1240 rfl rfl ?_
  refine ww_aload_n dX11_saying_5 rfl rfl ?_
  refine ww_iload_n dX11_saying_6 rfl rfl ?_
  refine ww_iconst (v := nI 1) dX11_saying_7 (by decide) ?_
  refine ww_cVr (M := m_X11_saying) (pc := 8) (v := .int (nI 1)) (h1 := hp_sF h m 0 (.int (nI 0))) (st := []) (d := 6) (bc := 0) (bs := 0) (c_M_isThere_t hst (h := hp_sF h m 0 (.int (nI 0))) (ModS.sF hM (by decide)) (hp_F_eq _ _ _ _) n hn) vv_X11_isThere dX11_saying_8 wg_1620 hM.K0 rfl rfl rfl rfl (Nat.le_of_ble_eq_true rfl) (Nat.le_of_ble_eq_true rfl) (Nat.le_of_ble_eq_true rfl) (Nat.le_of_ble_eq_true rfl) ?_
  refine ww_if_eqN (tgt := 29) dX11_saying_11 (by decide) (by omega) (fun c11 => ?_) (fun c11 => ?_)
  · exfalso; omega
  · refine ww_aload_n dX11_saying_14 rfl rfl ?_
    refine ww_iload_n dX11_saying_15 rfl rfl ?_
    refine ww_iconst (v := nI 0) dX11_saying_16 (by decide) ?_
    refine ww_iconst (v := nI 2) dX11_saying_17 (by decide) ?_
    refine ww_cSr (M := m_X11_saying) (pc := 18) (v := .int (nI 1)) (h1 := hp_sF h m 0 (.int (nI 0))) (st := [.ref m]) (d := 6) (bc := 0) (bs := 0) (c_M_within_t hst (nI 1) (nI 0) (nI 2) (by decide) (by decide) _) vv_X11_within dX11_saying_18 wg_1601 rfl rfl rfl (Nat.le_of_ble_eq_true rfl) (Nat.le_of_ble_eq_true rfl) (Nat.le_of_ble_eq_true rfl) (Nat.le_of_ble_eq_true rfl) ?_
    refine ww_iconst (v := nI 2) dX11_saying_21 (by decide) ?_
    refine ww_iconst (v := nI 1) dX11_saying_22 (by decide) ?_
    refine ww_cVr (M := m_X11_saying) (pc := 23) (v := .int (nI 1)) (h1 := hp_sF h m 0 (.int (nI 0))) (st := []) (d := 6) (bc := 0) (bs := 0) (c_M_may_t hst (h := hp_sF h m 0 (.int (nI 0))) (ModS.sF hM (by decide)) (hp_F_eq _ _ _ _) (nI 2) (nI 1)) vv_X11_may dX11_saying_23 wg_1413 hM.K0 rfl rfl rfl rfl (Nat.le_of_ble_eq_true rfl) (Nat.le_of_ble_eq_true rfl) (Nat.le_of_ble_eq_true rfl) (Nat.le_of_ble_eq_true rfl) ?_
    refine ww_if_neN (tgt := 31) dX11_saying_26 (by decide) (by omega) (fun c26 => ?_) (fun c26 => ?_)
    · refine ww_aload_n dX11_saying_31 rfl rfl ?_
      have hQ0 : LawM (hp_sF h m 0 (.int (nI 0))) m sz kf vf := hQ.same (Same.rf.sF (SY0 m)) (SX_no (by decide)) (SX_no (by decide)) (SY_no (by decide))
      refine ww_cVq0 (M := m_X11_saying) (pc := 32) (st := []) (d := 6) (bc := 0) (bs := 0) (c_M_laySaid hst (h := hp_sF h m 0 (.int (nI 0))) (ModS.sF hM (by decide)) hf hs hQ0 hok (hp_F_nj (by decide) hdu) hd (hp_F_eq _ _ _ _)) vv_X11_laySaid dX11_saying_32 wg_1636 hM.K0 rfl rfl rfl rfl (Nat.le_of_ble_eq_true rfl) (Nat.le_of_ble_eq_true rfl) (Nat.le_of_ble_eq_true rfl) (Nat.le_of_ble_eq_true rfl) (fun hq1 qq1 => ?_)
      have hI1 : MI m sz kf vf (cpF f g 190) h hq1 := ⟨qq1.1.1, qq1.1.2.1, qq1.1.2.2.1, (Same.rf.sF (SY0 m)).tr qq1.1.2.2.2.1, qq1.1.2.2.2.2⟩
      have hr1 := qq1.2.2
      have hdu1 := qq1.2.1
      generalize hge : cpF f g 190 = g9 at hI1
      have hg9 : ∀ i, i < 190 → g9 i = f i := fun i hi => by rw [← hge]; exact cpF_in hi
      refine ww_aload_n dX11_saying_35 rfl rfl ?_
      refine ww_get 39 dX11_saying_36 hI1.1.K0 rfl (by decide) inX11 wg_1279 hI1.1.F19 ?_
      refine ww_iload_n dX11_saying_39 rfl rfl ?_
      refine ww_laldF dX11_saying_40 hI1.1.K19 rfl (by omega) (by omega) ?_
      refine ww_sk (st2 := [.long (lI (syL f sz kf vf du n))]) (by rw [hr1 n (by omega)]) ?_
      refine ww_ldc2 (v := 1000000) dX11_saying_41 wg_1640 ?_
      refine ww_lrem dX11_saying_44 (by decide) ?_
      refine ww_lconst (v := 1) dX11_saying_45 (by decide) ?_
      refine ww_lcmp dX11_saying_46 ?_
      refine ww_sk (st2 := [.int (nI 0)]) (by rw [sy_lf f sz kf vf du hn, lcmp_eqN (by omega) (hlf.mpr hl), nI_0]) ?_
      refine ww_if_neN (tgt := 60) dX11_saying_47 (by decide) (by omega) (fun c47 => ?_) (fun c47 => ?_)
      · exfalso; omega
      · refine ww_iload_n dX11_saying_50 rfl rfl ?_
        refine ww_if_neN (tgt := 58) dX11_saying_51 (by decide) (by omega) (fun c51 => ?_) (fun c51 => ?_)
        · refine ww_iconst (v := -1) dX11_saying_58 (by decide) ?_
          exact ww_iret dX11_saying_59 rfl ⟨by rw [show (sayS (syO f sz kf vf) (syQ f sz kf vf du) du n) = none from if_pos hl]; rfl, hI1.2.2.2.1, hI1.2.2.2.2⟩
        · exfalso; omega
    · exfalso; omega
set_option maxHeartbeats 4000000 in
set_option maxRecDepth 100000 in
theorem c_M_saying1_w {l : Launch} {Z : EE} (hst : l.stackTraces = false) {h : PH} {m : Nat} (hM : ModS h m) {f : Nat → Int32} (hf : hp_I h (m + 14) = f) {g : Nat → Int32} (hs : hp_I h (m + 15) = g) {sz : Nat} {kf vf : Nat → Int32} (hQ : LawM h m sz kf vf) (hok : LawOK kf vf sz) {du : Nat} (hdu : hp_F h m 16 = .int (nI du)) (hd : du ≤ 20) (n : Nat) (hn : n ≤ 60) (hl : (syQ f sz kf vf du).1 n ≠ syO f sz kf vf n) : CC l Z m_X11_saying 6 0 0 [.ref m, .int (nI n), .int (nI 1)] h (MOk (wayV (sayS (syO f sz kf vf) (syQ f sz kf vf du) du n) 1) m h) := by
  refine ee_entry hst (by decide +kernel) rfl rfl (by simp [Value.category]) (Nat.le_of_ble_eq_true rfl) ?_
  refine ww_lv (lv2 := [.ref m, .int (nI n), .int (nI 1), UU, UU, UU]) rfl ?_
  have hq9 := syQ_le f sz kf vf du hn
  have hlf := sy_leaf1 f sz kf vf du hn
  refine ww_aload_n dX11_saying_0 rfl rfl ?_
  refine ww_iconst (v := nI 0) dX11_saying_1 (by decide) ?_
  refine ww_pfI tyX11 0 dX11_saying_2 hM.K0 rfl (by decide) inX11 tyX11_ok nmX11 wg_1240 rfl rfl ?_
  refine ww_aload_n dX11_saying_5 rfl rfl ?_
  refine ww_iload_n dX11_saying_6 rfl rfl ?_
  refine ww_iconst (v := nI 1) dX11_saying_7 (by decide) ?_
  refine ww_cVr (M := m_X11_saying) (pc := 8) (v := .int (nI 1)) (h1 := hp_sF h m 0 (.int (nI 0))) (st := []) (d := 6) (bc := 0) (bs := 0) (c_M_isThere_t hst (h := hp_sF h m 0 (.int (nI 0))) (ModS.sF hM (by decide)) (hp_F_eq _ _ _ _) n hn) vv_X11_isThere dX11_saying_8 wg_1620 hM.K0 rfl rfl rfl rfl (Nat.le_of_ble_eq_true rfl) (Nat.le_of_ble_eq_true rfl) (Nat.le_of_ble_eq_true rfl) (Nat.le_of_ble_eq_true rfl) ?_
  refine ww_if_eqN (tgt := 29) dX11_saying_11 (by decide) (by omega) (fun c11 => ?_) (fun c11 => ?_)
  · exfalso; omega
  · refine ww_aload_n dX11_saying_14 rfl rfl ?_
    refine ww_iload_n dX11_saying_15 rfl rfl ?_
    refine ww_iconst (v := nI 0) dX11_saying_16 (by decide) ?_
    refine ww_iconst (v := nI 2) dX11_saying_17 (by decide) ?_
    refine ww_cSr (M := m_X11_saying) (pc := 18) (v := .int (nI 1)) (h1 := hp_sF h m 0 (.int (nI 0))) (st := [.ref m]) (d := 6) (bc := 0) (bs := 0) (c_M_within_t hst (nI 1) (nI 0) (nI 2) (by decide) (by decide) _) vv_X11_within dX11_saying_18 wg_1601 rfl rfl rfl (Nat.le_of_ble_eq_true rfl) (Nat.le_of_ble_eq_true rfl) (Nat.le_of_ble_eq_true rfl) (Nat.le_of_ble_eq_true rfl) ?_
    refine ww_iconst (v := nI 2) dX11_saying_21 (by decide) ?_
    refine ww_iconst (v := nI 1) dX11_saying_22 (by decide) ?_
    refine ww_cVr (M := m_X11_saying) (pc := 23) (v := .int (nI 1)) (h1 := hp_sF h m 0 (.int (nI 0))) (st := []) (d := 6) (bc := 0) (bs := 0) (c_M_may_t hst (h := hp_sF h m 0 (.int (nI 0))) (ModS.sF hM (by decide)) (hp_F_eq _ _ _ _) (nI 2) (nI 1)) vv_X11_may dX11_saying_23 wg_1413 hM.K0 rfl rfl rfl rfl (Nat.le_of_ble_eq_true rfl) (Nat.le_of_ble_eq_true rfl) (Nat.le_of_ble_eq_true rfl) (Nat.le_of_ble_eq_true rfl) ?_
    refine ww_if_neN (tgt := 31) dX11_saying_26 (by decide) (by omega) (fun c26 => ?_) (fun c26 => ?_)
    · refine ww_aload_n dX11_saying_31 rfl rfl ?_
      have hQ0 : LawM (hp_sF h m 0 (.int (nI 0))) m sz kf vf := hQ.same (Same.rf.sF (SY0 m)) (SX_no (by decide)) (SX_no (by decide)) (SY_no (by decide))
      refine ww_cVq0 (M := m_X11_saying) (pc := 32) (st := []) (d := 6) (bc := 0) (bs := 0) (c_M_laySaid hst (h := hp_sF h m 0 (.int (nI 0))) (ModS.sF hM (by decide)) hf hs hQ0 hok (hp_F_nj (by decide) hdu) hd (hp_F_eq _ _ _ _)) vv_X11_laySaid dX11_saying_32 wg_1636 hM.K0 rfl rfl rfl rfl (Nat.le_of_ble_eq_true rfl) (Nat.le_of_ble_eq_true rfl) (Nat.le_of_ble_eq_true rfl) (Nat.le_of_ble_eq_true rfl) (fun hq1 qq1 => ?_)
      have hI1 : MI m sz kf vf (cpF f g 190) h hq1 := ⟨qq1.1.1, qq1.1.2.1, qq1.1.2.2.1, (Same.rf.sF (SY0 m)).tr qq1.1.2.2.2.1, qq1.1.2.2.2.2⟩
      have hr1 := qq1.2.2
      have hdu1 := qq1.2.1
      generalize hge : cpF f g 190 = g9 at hI1
      have hg9 : ∀ i, i < 190 → g9 i = f i := fun i hi => by rw [← hge]; exact cpF_in hi
      refine ww_aload_n dX11_saying_35 rfl rfl ?_
      refine ww_get 39 dX11_saying_36 hI1.1.K0 rfl (by decide) inX11 wg_1279 hI1.1.F19 ?_
      refine ww_iload_n dX11_saying_39 rfl rfl ?_
      refine ww_laldF dX11_saying_40 hI1.1.K19 rfl (by omega) (by omega) ?_
      refine ww_sk (st2 := [.long (lI (syL f sz kf vf du n))]) (by rw [hr1 n (by omega)]) ?_
      refine ww_ldc2 (v := 1000000) dX11_saying_41 wg_1640 ?_
      refine ww_lrem dX11_saying_44 (by decide) ?_
      refine ww_lconst (v := 1) dX11_saying_45 (by decide) ?_
      refine ww_lcmp dX11_saying_46 ?_
      refine ww_sk (st2 := [.int (lg_cmp (lI ((syQ f sz kf vf du).2 n)) (lI 1))]) (by rw [sy_lf f sz kf vf du hn]) ?_
      refine ww_if_ne (tgt := 60) dX11_saying_47 (by decide) (fun c47 => ?_) (fun c47 => ?_)
      · refine ww_iconst (v := nI 1) dX11_saying_60 (by decide) ?_
        refine ww_sti_n (lv2 := [.ref m, .int (nI n), .int (nI 1), .int (nI 1), UU, UU]) dX11_saying_61 rfl rfl (by decide) rfl ?_
        refine l_M_rfw hst (v := syL f sz kf vf du) ⟨hI1.1, hr1, hdu1⟩ hd (fun i hi => syL_lt f sz kf vf du hi) n hn 1 (by omega) 3 1 rfl (by omega) (fun e => ?_) (fun w9 a9 b9 e => ?_)
        · rw [rs_way hn hl] at e; exact absurd e (say_some hn hl)
        · rw [rs_way hn hl] at e
          exact ⟨by rw [e]; rfl, hI1.2.2.2.1, hI1.2.2.2.2⟩
      · exact absurd (by first | exact c47 | exact Classical.not_not.mp c47) (lcmp_neN (by omega) (by omega) (fun q => hl (hlf.mp q)))
    · exfalso; omega
set_option maxHeartbeats 4000000 in
set_option maxRecDepth 100000 in
theorem c_M_saying1 {l : Launch} {Z : EE} (hst : l.stackTraces = false) {h : PH} {m : Nat} (hM : ModS h m) {f : Nat → Int32} (hf : hp_I h (m + 14) = f) {g : Nat → Int32} (hs : hp_I h (m + 15) = g) {sz : Nat} {kf vf : Nat → Int32} (hQ : LawM h m sz kf vf) (hok : LawOK kf vf sz) {du : Nat} (hdu : hp_F h m 16 = .int (nI du)) (hd : du ≤ 20) (n : Nat) (hn : n ≤ 60) : CC l Z m_X11_saying 6 0 0 [.ref m, .int (nI n), .int (nI 1)] h (MOk (wayV (sayS (syO f sz kf vf) (syQ f sz kf vf du) du n) 1) m h) := by
  by_cases hl : (syQ f sz kf vf du).1 n = syO f sz kf vf n
  · exact c_M_saying1_l hst hM hf hs hQ hok hdu hd n hn hl
  · exact c_M_saying1_w hst hM hf hs hQ hok hdu hd n hn hl
set_option maxHeartbeats 4000000 in
set_option maxRecDepth 100000 in
theorem c_M_saying2_l {l : Launch} {Z : EE} (hst : l.stackTraces = false) {h : PH} {m : Nat} (hM : ModS h m) {f : Nat → Int32} (hf : hp_I h (m + 14) = f) {g : Nat → Int32} (hs : hp_I h (m + 15) = g) {sz : Nat} {kf vf : Nat → Int32} (hQ : LawM h m sz kf vf) (hok : LawOK kf vf sz) {du : Nat} (hdu : hp_F h m 16 = .int (nI du)) (hd : du ≤ 20) (n : Nat) (hn : n ≤ 60) (hl : (syQ f sz kf vf du).1 n = syO f sz kf vf n) : CC l Z m_X11_saying 6 0 0 [.ref m, .int (nI n), .int (nI 2)] h (MOk (wayV (sayS (syO f sz kf vf) (syQ f sz kf vf du) du n) 2) m h) := by
  refine ee_entry hst (by decide +kernel) rfl rfl (by simp [Value.category]) (Nat.le_of_ble_eq_true rfl) ?_
  refine ww_lv (lv2 := [.ref m, .int (nI n), .int (nI 2), UU, UU, UU]) rfl ?_
  have hq9 := syQ_le f sz kf vf du hn
  have hlf := sy_leaf1 f sz kf vf du hn
  refine ww_aload_n dX11_saying_0 rfl rfl ?_
  refine ww_iconst (v := nI 0) dX11_saying_1 (by decide) ?_
  refine ww_pfI tyX11 0 dX11_saying_2 hM.K0 rfl (by decide) inX11 tyX11_ok nmX11 wg_1240 rfl rfl ?_
  refine ww_aload_n dX11_saying_5 rfl rfl ?_
  refine ww_iload_n dX11_saying_6 rfl rfl ?_
  refine ww_iconst (v := nI 1) dX11_saying_7 (by decide) ?_
  refine ww_cVr (M := m_X11_saying) (pc := 8) (v := .int (nI 1)) (h1 := hp_sF h m 0 (.int (nI 0))) (st := []) (d := 6) (bc := 0) (bs := 0) (c_M_isThere_t hst (h := hp_sF h m 0 (.int (nI 0))) (ModS.sF hM (by decide)) (hp_F_eq _ _ _ _) n hn) vv_X11_isThere dX11_saying_8 wg_1620 hM.K0 rfl rfl rfl rfl (Nat.le_of_ble_eq_true rfl) (Nat.le_of_ble_eq_true rfl) (Nat.le_of_ble_eq_true rfl) (Nat.le_of_ble_eq_true rfl) ?_
  refine ww_if_eqN (tgt := 29) dX11_saying_11 (by decide) (by omega) (fun c11 => ?_) (fun c11 => ?_)
  · exfalso; omega
  · refine ww_aload_n dX11_saying_14 rfl rfl ?_
    refine ww_iload_n dX11_saying_15 rfl rfl ?_
    refine ww_iconst (v := nI 0) dX11_saying_16 (by decide) ?_
    refine ww_iconst (v := nI 2) dX11_saying_17 (by decide) ?_
    refine ww_cSr (M := m_X11_saying) (pc := 18) (v := .int (nI 1)) (h1 := hp_sF h m 0 (.int (nI 0))) (st := [.ref m]) (d := 6) (bc := 0) (bs := 0) (c_M_within_t hst (nI 2) (nI 0) (nI 2) (by decide) (by decide) _) vv_X11_within dX11_saying_18 wg_1601 rfl rfl rfl (Nat.le_of_ble_eq_true rfl) (Nat.le_of_ble_eq_true rfl) (Nat.le_of_ble_eq_true rfl) (Nat.le_of_ble_eq_true rfl) ?_
    refine ww_iconst (v := nI 2) dX11_saying_21 (by decide) ?_
    refine ww_iconst (v := nI 1) dX11_saying_22 (by decide) ?_
    refine ww_cVr (M := m_X11_saying) (pc := 23) (v := .int (nI 1)) (h1 := hp_sF h m 0 (.int (nI 0))) (st := []) (d := 6) (bc := 0) (bs := 0) (c_M_may_t hst (h := hp_sF h m 0 (.int (nI 0))) (ModS.sF hM (by decide)) (hp_F_eq _ _ _ _) (nI 2) (nI 1)) vv_X11_may dX11_saying_23 wg_1413 hM.K0 rfl rfl rfl rfl (Nat.le_of_ble_eq_true rfl) (Nat.le_of_ble_eq_true rfl) (Nat.le_of_ble_eq_true rfl) (Nat.le_of_ble_eq_true rfl) ?_
    refine ww_if_neN (tgt := 31) dX11_saying_26 (by decide) (by omega) (fun c26 => ?_) (fun c26 => ?_)
    · refine ww_aload_n dX11_saying_31 rfl rfl ?_
      have hQ0 : LawM (hp_sF h m 0 (.int (nI 0))) m sz kf vf := hQ.same (Same.rf.sF (SY0 m)) (SX_no (by decide)) (SX_no (by decide)) (SY_no (by decide))
      refine ww_cVq0 (M := m_X11_saying) (pc := 32) (st := []) (d := 6) (bc := 0) (bs := 0) (c_M_laySaid hst (h := hp_sF h m 0 (.int (nI 0))) (ModS.sF hM (by decide)) hf hs hQ0 hok (hp_F_nj (by decide) hdu) hd (hp_F_eq _ _ _ _)) vv_X11_laySaid dX11_saying_32 wg_1636 hM.K0 rfl rfl rfl rfl (Nat.le_of_ble_eq_true rfl) (Nat.le_of_ble_eq_true rfl) (Nat.le_of_ble_eq_true rfl) (Nat.le_of_ble_eq_true rfl) (fun hq1 qq1 => ?_)
      have hI1 : MI m sz kf vf (cpF f g 190) h hq1 := ⟨qq1.1.1, qq1.1.2.1, qq1.1.2.2.1, (Same.rf.sF (SY0 m)).tr qq1.1.2.2.2.1, qq1.1.2.2.2.2⟩
      have hr1 := qq1.2.2
      have hdu1 := qq1.2.1
      generalize hge : cpF f g 190 = g9 at hI1
      have hg9 : ∀ i, i < 190 → g9 i = f i := fun i hi => by rw [← hge]; exact cpF_in hi
      refine ww_aload_n dX11_saying_35 rfl rfl ?_
      refine ww_get 39 dX11_saying_36 hI1.1.K0 rfl (by decide) inX11 wg_1279 hI1.1.F19 ?_
      refine ww_iload_n dX11_saying_39 rfl rfl ?_
      refine ww_laldF dX11_saying_40 hI1.1.K19 rfl (by omega) (by omega) ?_
      refine ww_sk (st2 := [.long (lI (syL f sz kf vf du n))]) (by rw [hr1 n (by omega)]) ?_
      refine ww_ldc2 (v := 1000000) dX11_saying_41 wg_1640 ?_
      refine ww_lrem dX11_saying_44 (by decide) ?_
      refine ww_lconst (v := 1) dX11_saying_45 (by decide) ?_
      refine ww_lcmp dX11_saying_46 ?_
      refine ww_sk (st2 := [.int (nI 0)]) (by rw [sy_lf f sz kf vf du hn, lcmp_eqN (by omega) (hlf.mpr hl), nI_0]) ?_
      refine ww_if_neN (tgt := 60) dX11_saying_47 (by decide) (by omega) (fun c47 => ?_) (fun c47 => ?_)
      · exfalso; omega
      · refine ww_iload_n dX11_saying_50 rfl rfl ?_
        refine ww_if_neN (tgt := 58) dX11_saying_51 (by decide) (by omega) (fun c51 => ?_) (fun c51 => ?_)
        · refine ww_iconst (v := -1) dX11_saying_58 (by decide) ?_
          exact ww_iret dX11_saying_59 rfl ⟨by rw [show (sayS (syO f sz kf vf) (syQ f sz kf vf du) du n) = none from if_pos hl]; rfl, hI1.2.2.2.1, hI1.2.2.2.2⟩
        · exfalso; omega
    · exfalso; omega
set_option maxHeartbeats 4000000 in
set_option maxRecDepth 100000 in
theorem c_M_saying2_w {l : Launch} {Z : EE} (hst : l.stackTraces = false) {h : PH} {m : Nat} (hM : ModS h m) {f : Nat → Int32} (hf : hp_I h (m + 14) = f) {g : Nat → Int32} (hs : hp_I h (m + 15) = g) {sz : Nat} {kf vf : Nat → Int32} (hQ : LawM h m sz kf vf) (hok : LawOK kf vf sz) {du : Nat} (hdu : hp_F h m 16 = .int (nI du)) (hd : du ≤ 20) (n : Nat) (hn : n ≤ 60) (hl : (syQ f sz kf vf du).1 n ≠ syO f sz kf vf n) : CC l Z m_X11_saying 6 0 0 [.ref m, .int (nI n), .int (nI 2)] h (MOk (wayV (sayS (syO f sz kf vf) (syQ f sz kf vf du) du n) 2) m h) := by
  refine ee_entry hst (by decide +kernel) rfl rfl (by simp [Value.category]) (Nat.le_of_ble_eq_true rfl) ?_
  refine ww_lv (lv2 := [.ref m, .int (nI n), .int (nI 2), UU, UU, UU]) rfl ?_
  have hq9 := syQ_le f sz kf vf du hn
  have hlf := sy_leaf1 f sz kf vf du hn
  refine ww_aload_n dX11_saying_0 rfl rfl ?_
  refine ww_iconst (v := nI 0) dX11_saying_1 (by decide) ?_
  refine ww_pfI tyX11 0 dX11_saying_2 hM.K0 rfl (by decide) inX11 tyX11_ok nmX11 wg_1240 rfl rfl ?_
  refine ww_aload_n dX11_saying_5 rfl rfl ?_
  refine ww_iload_n dX11_saying_6 rfl rfl ?_
  refine ww_iconst (v := nI 1) dX11_saying_7 (by decide) ?_
  refine ww_cVr (M := m_X11_saying) (pc := 8) (v := .int (nI 1)) (h1 := hp_sF h m 0 (.int (nI 0))) (st := []) (d := 6) (bc := 0) (bs := 0) (c_M_isThere_t hst (h := hp_sF h m 0 (.int (nI 0))) (ModS.sF hM (by decide)) (hp_F_eq _ _ _ _) n hn) vv_X11_isThere dX11_saying_8 wg_1620 hM.K0 rfl rfl rfl rfl (Nat.le_of_ble_eq_true rfl) (Nat.le_of_ble_eq_true rfl) (Nat.le_of_ble_eq_true rfl) (Nat.le_of_ble_eq_true rfl) ?_
  refine ww_if_eqN (tgt := 29) dX11_saying_11 (by decide) (by omega) (fun c11 => ?_) (fun c11 => ?_)
  · exfalso; omega
  · refine ww_aload_n dX11_saying_14 rfl rfl ?_
    refine ww_iload_n dX11_saying_15 rfl rfl ?_
    refine ww_iconst (v := nI 0) dX11_saying_16 (by decide) ?_
    refine ww_iconst (v := nI 2) dX11_saying_17 (by decide) ?_
    refine ww_cSr (M := m_X11_saying) (pc := 18) (v := .int (nI 1)) (h1 := hp_sF h m 0 (.int (nI 0))) (st := [.ref m]) (d := 6) (bc := 0) (bs := 0) (c_M_within_t hst (nI 2) (nI 0) (nI 2) (by decide) (by decide) _) vv_X11_within dX11_saying_18 wg_1601 rfl rfl rfl (Nat.le_of_ble_eq_true rfl) (Nat.le_of_ble_eq_true rfl) (Nat.le_of_ble_eq_true rfl) (Nat.le_of_ble_eq_true rfl) ?_
    refine ww_iconst (v := nI 2) dX11_saying_21 (by decide) ?_
    refine ww_iconst (v := nI 1) dX11_saying_22 (by decide) ?_
    refine ww_cVr (M := m_X11_saying) (pc := 23) (v := .int (nI 1)) (h1 := hp_sF h m 0 (.int (nI 0))) (st := []) (d := 6) (bc := 0) (bs := 0) (c_M_may_t hst (h := hp_sF h m 0 (.int (nI 0))) (ModS.sF hM (by decide)) (hp_F_eq _ _ _ _) (nI 2) (nI 1)) vv_X11_may dX11_saying_23 wg_1413 hM.K0 rfl rfl rfl rfl (Nat.le_of_ble_eq_true rfl) (Nat.le_of_ble_eq_true rfl) (Nat.le_of_ble_eq_true rfl) (Nat.le_of_ble_eq_true rfl) ?_
    refine ww_if_neN (tgt := 31) dX11_saying_26 (by decide) (by omega) (fun c26 => ?_) (fun c26 => ?_)
    · refine ww_aload_n dX11_saying_31 rfl rfl ?_
      have hQ0 : LawM (hp_sF h m 0 (.int (nI 0))) m sz kf vf := hQ.same (Same.rf.sF (SY0 m)) (SX_no (by decide)) (SX_no (by decide)) (SY_no (by decide))
      refine ww_cVq0 (M := m_X11_saying) (pc := 32) (st := []) (d := 6) (bc := 0) (bs := 0) (c_M_laySaid hst (h := hp_sF h m 0 (.int (nI 0))) (ModS.sF hM (by decide)) hf hs hQ0 hok (hp_F_nj (by decide) hdu) hd (hp_F_eq _ _ _ _)) vv_X11_laySaid dX11_saying_32 wg_1636 hM.K0 rfl rfl rfl rfl (Nat.le_of_ble_eq_true rfl) (Nat.le_of_ble_eq_true rfl) (Nat.le_of_ble_eq_true rfl) (Nat.le_of_ble_eq_true rfl) (fun hq1 qq1 => ?_)
      have hI1 : MI m sz kf vf (cpF f g 190) h hq1 := ⟨qq1.1.1, qq1.1.2.1, qq1.1.2.2.1, (Same.rf.sF (SY0 m)).tr qq1.1.2.2.2.1, qq1.1.2.2.2.2⟩
      have hr1 := qq1.2.2
      have hdu1 := qq1.2.1
      generalize hge : cpF f g 190 = g9 at hI1
      have hg9 : ∀ i, i < 190 → g9 i = f i := fun i hi => by rw [← hge]; exact cpF_in hi
      refine ww_aload_n dX11_saying_35 rfl rfl ?_
      refine ww_get 39 dX11_saying_36 hI1.1.K0 rfl (by decide) inX11 wg_1279 hI1.1.F19 ?_
      refine ww_iload_n dX11_saying_39 rfl rfl ?_
      refine ww_laldF dX11_saying_40 hI1.1.K19 rfl (by omega) (by omega) ?_
      refine ww_sk (st2 := [.long (lI (syL f sz kf vf du n))]) (by rw [hr1 n (by omega)]) ?_
      refine ww_ldc2 (v := 1000000) dX11_saying_41 wg_1640 ?_
      refine ww_lrem dX11_saying_44 (by decide) ?_
      refine ww_lconst (v := 1) dX11_saying_45 (by decide) ?_
      refine ww_lcmp dX11_saying_46 ?_
      refine ww_sk (st2 := [.int (lg_cmp (lI ((syQ f sz kf vf du).2 n)) (lI 1))]) (by rw [sy_lf f sz kf vf du hn]) ?_
      refine ww_if_ne (tgt := 60) dX11_saying_47 (by decide) (fun c47 => ?_) (fun c47 => ?_)
      · refine ww_iconst (v := nI 1) dX11_saying_60 (by decide) ?_
        refine ww_sti_n (lv2 := [.ref m, .int (nI n), .int (nI 2), .int (nI 1), UU, UU]) dX11_saying_61 rfl rfl (by decide) rfl ?_
        refine l_M_rfw hst (v := syL f sz kf vf du) ⟨hI1.1, hr1, hdu1⟩ hd (fun i hi => syL_lt f sz kf vf du hi) n hn 2 (by omega) 3 1 rfl (by omega) (fun e => ?_) (fun w9 a9 b9 e => ?_)
        · rw [rs_way hn hl] at e; exact absurd e (say_some hn hl)
        · rw [rs_way hn hl] at e
          exact ⟨by rw [e]; rfl, hI1.2.2.2.1, hI1.2.2.2.2⟩
      · exact absurd (by first | exact c47 | exact Classical.not_not.mp c47) (lcmp_neN (by omega) (by omega) (fun q => hl (hlf.mp q)))
    · exfalso; omega
set_option maxHeartbeats 4000000 in
set_option maxRecDepth 100000 in
theorem c_M_saying2 {l : Launch} {Z : EE} (hst : l.stackTraces = false) {h : PH} {m : Nat} (hM : ModS h m) {f : Nat → Int32} (hf : hp_I h (m + 14) = f) {g : Nat → Int32} (hs : hp_I h (m + 15) = g) {sz : Nat} {kf vf : Nat → Int32} (hQ : LawM h m sz kf vf) (hok : LawOK kf vf sz) {du : Nat} (hdu : hp_F h m 16 = .int (nI du)) (hd : du ≤ 20) (n : Nat) (hn : n ≤ 60) : CC l Z m_X11_saying 6 0 0 [.ref m, .int (nI n), .int (nI 2)] h (MOk (wayV (sayS (syO f sz kf vf) (syQ f sz kf vf du) du n) 2) m h) := by
  by_cases hl : (syQ f sz kf vf du).1 n = syO f sz kf vf n
  · exact c_M_saying2_l hst hM hf hs hQ hok hdu hd n hn hl
  · exact c_M_saying2_w hst hM hf hs hQ hok hdu hd n hn hl
set_option maxHeartbeats 4000000 in
set_option maxRecDepth 100000 in
theorem c_M_saying_no0 {l : Launch} {Z : EE} (hst : l.stackTraces = false) {h : PH} {m : Nat} (hM : ModS h m) {f : Nat → Int32} (hf : hp_I h (m + 14) = f) {g : Nat → Int32} (hs : hp_I h (m + 15) = g) {sz : Nat} {kf vf : Nat → Int32} (hQ : LawM h m sz kf vf) (hok : LawOK kf vf sz) (n : Int32) (w : Int32) (hout : outR 0 60 n) : CC l Z m_X11_saying 6 0 0 [.ref m, .int n, .int w] h (MNo 1 0 m h) := by
  refine ee_entry hst (by decide +kernel) rfl rfl (by simp [Value.category]) (Nat.le_of_ble_eq_true rfl) ?_
  refine ww_lv (lv2 := [.ref m, .int n, .int w, UU, UU, UU]) rfl ?_
  refine ww_aload_n dX11_saying_0 rfl rfl ?_
  refine ww_iconst (v := nI 0) dX11_saying_1 (by decide) ?_
  refine ww_pfI tyX11 0 dX11_saying_2 hM.K0 rfl (by decide) inX11 tyX11_ok nmX11 wg_1240 rfl rfl ?_
  refine ww_aload_n dX11_saying_5 rfl rfl ?_
  refine ww_iload_n dX11_saying_6 rfl rfl ?_
  refine ww_iconst (v := nI 1) dX11_saying_7 (by decide) ?_
  refine ww_cVr (M := m_X11_saying) (pc := 8) (v := .int (nI 0)) (h1 := hp_sI (hp_sF (hp_sF h m 0 (.int (nI 0))) m 0 (.int (nI 1))) (m + 1) (upd (hp_I (hp_sF h m 0 (.int (nI 0))) (m + 1)) 0 (hp_I (hp_sF h m 0 (.int (nI 0))) (m + 1) 0 + nI 1))) (st := []) (d := 6) (bc := 0) (bs := 0) (c_M_isThere_f hst (h := hp_sF h m 0 (.int (nI 0))) (ModS.sF hM (by decide)) (hp_F_eq _ _ _ _) n hout) vv_X11_isThere dX11_saying_8 wg_1620 hM.K0 rfl rfl rfl rfl (Nat.le_of_ble_eq_true rfl) (Nat.le_of_ble_eq_true rfl) (Nat.le_of_ble_eq_true rfl) (Nat.le_of_ble_eq_true rfl) ?_
  refine ww_if_eqN (tgt := 29) dX11_saying_11 (by decide) (by omega) (fun c11 => ?_) (fun c11 => ?_)
  · refine ww_iconst (v := nI 0) dX11_saying_29 (by decide) ?_
    exact ww_iret dX11_saying_30 rfl ⟨rfl, (((Same.rf.sF (SY0 m)).sF (SY0 m)).sI (Or.inr rfl)), (hp_F_sI (hp_F_eq _ _ _ _)), by rw [hp_I_eq]; rfl⟩
  · exact absurd c11 (by decide)
set_option maxHeartbeats 4000000 in
set_option maxRecDepth 100000 in
theorem c_M_saying_no1 {l : Launch} {Z : EE} (hst : l.stackTraces = false) {h : PH} {m : Nat} (hM : ModS h m) {f : Nat → Int32} (hf : hp_I h (m + 14) = f) {g : Nat → Int32} (hs : hp_I h (m + 15) = g) {sz : Nat} {kf vf : Nat → Int32} (hQ : LawM h m sz kf vf) (hok : LawOK kf vf sz) (n : Nat) (hn : n ≤ 60) (w : Int32) (hout : outR 0 2 w) : CC l Z m_X11_saying 6 0 0 [.ref m, .int (nI n), .int w] h (MNo 2 1 m h) := by
  refine ee_entry hst (by decide +kernel) rfl rfl (by simp [Value.category]) (Nat.le_of_ble_eq_true rfl) ?_
  refine ww_lv (lv2 := [.ref m, .int (nI n), .int w, UU, UU, UU]) rfl ?_
  refine ww_aload_n dX11_saying_0 rfl rfl ?_
  refine ww_iconst (v := nI 0) dX11_saying_1 (by decide) ?_
  refine ww_pfI tyX11 0 dX11_saying_2 hM.K0 rfl (by decide) inX11 tyX11_ok nmX11 wg_1240 rfl rfl ?_
  refine ww_aload_n dX11_saying_5 rfl rfl ?_
  refine ww_iload_n dX11_saying_6 rfl rfl ?_
  refine ww_iconst (v := nI 1) dX11_saying_7 (by decide) ?_
  refine ww_cVr (M := m_X11_saying) (pc := 8) (v := .int (nI 1)) (h1 := hp_sF h m 0 (.int (nI 0))) (st := []) (d := 6) (bc := 0) (bs := 0) (c_M_isThere_t hst (h := hp_sF h m 0 (.int (nI 0))) (ModS.sF hM (by decide)) (hp_F_eq _ _ _ _) n hn) vv_X11_isThere dX11_saying_8 wg_1620 hM.K0 rfl rfl rfl rfl (Nat.le_of_ble_eq_true rfl) (Nat.le_of_ble_eq_true rfl) (Nat.le_of_ble_eq_true rfl) (Nat.le_of_ble_eq_true rfl) ?_
  refine ww_if_eqN (tgt := 29) dX11_saying_11 (by decide) (by omega) (fun c11 => ?_) (fun c11 => ?_)
  · exact absurd c11 (by decide)
  · refine ww_aload_n dX11_saying_14 rfl rfl ?_
    refine ww_iload_n dX11_saying_15 rfl rfl ?_
    refine ww_iconst (v := nI 0) dX11_saying_16 (by decide) ?_
    refine ww_iconst (v := nI 2) dX11_saying_17 (by decide) ?_
    refine ww_cSr (M := m_X11_saying) (pc := 18) (v := .int (nI 0)) (h1 := hp_sF h m 0 (.int (nI 0))) (st := [.ref m]) (d := 6) (bc := 0) (bs := 0) (c_M_within_f hst w (nI 0) (nI 2) hout _) vv_X11_within dX11_saying_18 wg_1601 rfl rfl rfl (Nat.le_of_ble_eq_true rfl) (Nat.le_of_ble_eq_true rfl) (Nat.le_of_ble_eq_true rfl) (Nat.le_of_ble_eq_true rfl) ?_
    refine ww_iconst (v := nI 2) dX11_saying_21 (by decide) ?_
    refine ww_iconst (v := nI 1) dX11_saying_22 (by decide) ?_
    refine ww_cVr (M := m_X11_saying) (pc := 23) (v := .int (nI 0)) (h1 := hp_sI (hp_sF (hp_sF h m 0 (.int (nI 0))) m 0 (.int (nI 2))) (m + 1) (upd (hp_I (hp_sF h m 0 (.int (nI 0))) (m + 1)) 1 (hp_I (hp_sF h m 0 (.int (nI 0))) (m + 1) 1 + nI 1))) (st := []) (d := 6) (bc := 0) (bs := 0) (c_M_may_f hst (h := hp_sF h m 0 (.int (nI 0))) (ModS.sF hM (by decide)) (hp_F_eq _ _ _ _) 2 1 (by decide) (by decide) (by decide)) vv_X11_may dX11_saying_23 wg_1413 hM.K0 rfl rfl rfl rfl (Nat.le_of_ble_eq_true rfl) (Nat.le_of_ble_eq_true rfl) (Nat.le_of_ble_eq_true rfl) (Nat.le_of_ble_eq_true rfl) ?_
    refine ww_if_neN (tgt := 31) dX11_saying_26 (by decide) (by omega) (fun c26 => ?_) (fun c26 => ?_)
    · exact absurd c26 (by decide)
    · refine ww_iconst (v := nI 0) dX11_saying_29 (by decide) ?_
      exact ww_iret dX11_saying_30 rfl ⟨rfl, (((Same.rf.sF (SY0 m)).sF (SY0 m)).sI (Or.inr rfl)), (hp_F_sI (hp_F_eq _ _ _ _)), by rw [hp_I_eq]; rfl⟩
