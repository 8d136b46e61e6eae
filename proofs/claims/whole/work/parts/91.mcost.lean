/-! ===== the reference's cost and leaves ===== -/
theorem lI_div1 {x : Nat} (h : x < 2 ^ 62) : lI x / 1000000 = lI (x / 1000000) := by
  rw [← Int64.toInt_inj, Int64.toInt_div, lI_toInt h, lI_toInt (by omega), show (1000000 : Int64).toInt = ((1000000 : Nat) : Int) from by decide, ← Int.ofNat_tdiv]
  exact Int.bmod_eq_of_le (by omega) (by omega)
theorem lI_int {x : Nat} (h : x < 2 ^ 31) : (lI x).toInt32 = nI x := by
  rw [← Int32.toInt_inj, Int64.toInt_toInt32, lI_toInt (by omega), show (nI x).toInt = x from Int32.toInt_ofNat_of_lt (by omega)]
  exact Int.bmod_eq_of_le (by omega) (by omega)
theorem lI_sub {a b : Nat} (h : b ≤ a) : lI a - lI b = lI (a - b) := by
  have e : lI a = lI (a - b) + lI b := by rw [lI_add, Nat.sub_add_cancel h]
  rw [e, Int64.add_sub_cancel]
theorem lI_rem1 {x : Nat} (h : x < 2 ^ 62) : lI x - lI x / 1000000 * 1000000 = lI (x % 1000000) := by
  rw [lI_div1 h, show (1000000 : Int64) = lI 1000000 from rfl, lI_mul, lI_sub (Nat.div_mul_le_self _ _)]
  congr 1
  omega
theorem syL_lt (f : Nat → Int32) (sz : Nat) (kf vf : Nat → Int32) (du : Nat) {n : Nat} (hn : n ≤ 60) : syL f sz kf vf du n ≤ 99999999 := by
  have h := syQ_le f sz kf vf du hn
  unfold syL; omega
theorem syL_d (f : Nat → Int32) (sz : Nat) (kf vf : Nat → Int32) (du : Nat) {n : Nat} (hn : n ≤ 60) : syL f sz kf vf du n / 1000000 = (syQ f sz kf vf du).1 n := by
  have h := syQ_le f sz kf vf du hn
  unfold syL; omega
theorem syL_m (f : Nat → Int32) (sz : Nat) (kf vf : Nat → Int32) (du : Nat) {n : Nat} (hn : n ≤ 60) : syL f sz kf vf du n % 1000000 = (syQ f sz kf vf du).2 n := by
  have h := syQ_le f sz kf vf du hn
  unfold syL; omega
theorem sy_cost (f : Nat → Int32) (sz : Nat) (kf vf : Nat → Int32) (du : Nat) {n : Nat} (hn : n ≤ 60) : (lI (syL f sz kf vf du n) / 1000000).toInt32 = nI ((syQ f sz kf vf du).1 n) := by
  have h := syQ_le f sz kf vf du hn
  have h2 := syL_lt f sz kf vf du hn
  rw [lI_div1 (by omega), syL_d f sz kf vf du hn, lI_int (by omega)]
theorem sy_leaf (f : Nat → Int32) (sz : Nat) (kf vf : Nat → Int32) (du : Nat) {n : Nat} (hn : n ≤ 60) : (lI (syL f sz kf vf du n) - lI (syL f sz kf vf du n) / 1000000 * 1000000).toInt32 = nI ((syQ f sz kf vf du).2 n) := by
  have h := syQ_le f sz kf vf du hn
  have h2 := syL_lt f sz kf vf du hn
  rw [lI_rem1 (by omega), syL_m f sz kf vf du hn, lI_int (by omega)]
set_option maxHeartbeats 4000000 in
set_option maxRecDepth 100000 in
theorem c_M_laySaid {l : Launch} {Z : EE} (hst : l.stackTraces = false) {h : PH} {m : Nat} (hM : ModS h m) {f : Nat → Int32} (hf : hp_I h (m + 14) = f) {g : Nat → Int32} (hs : hp_I h (m + 15) = g) {sz : Nat} {kf vf : Nat → Int32} (hQ : LawM h m sz kf vf) (hok : LawOK kf vf sz) {du : Nat} (hdu : hp_F h m 16 = .int (nI du)) (hd : du ≤ 20) (ht : hp_F h m 0 = .int (nI 0)) : CC l Z m_X11_laySaid 5 0 0 [.ref m] h (RQ none (fun h9 => MI m sz kf vf (cpF f g 190) h h9 ∧ hp_F h9 m 16 = .int (nI du) ∧ ∀ i, i < 61 → hp_L h9 (m + 19) i = lI (syL f sz kf vf du i))) := by
  refine ee_entry hst (by decide +kernel) rfl rfl (by simp [Value.category]) (Nat.le_of_ble_eq_true rfl) ?_
  refine ww_lv (lv2 := [.ref m, UU, UU, UU, UU, UU, UU, UU]) rfl ?_
  refine ww_aload_n dX11_laySaid_0 rfl rfl ?_
  refine ww_cV0 (M := m_X11_laySaid) (pc := 1) (h1 := hp_sI (h) (m + 15) (cpF f g 190)) (st := []) (d := 5) (bc := 0) (bs := 0) (c_M_take hst (h := h) hM hf hs) vv_X11_take dX11_laySaid_1 wg_1539 hM.K0 rfl rfl rfl rfl (Nat.le_of_ble_eq_true rfl) (Nat.le_of_ble_eq_true rfl) (Nat.le_of_ble_eq_true rfl) (Nat.le_of_ble_eq_true rfl) ?_
  refine ww_iconst (v := nI 0) dX11_laySaid_4 (by decide) ?_
  refine ww_sti_n (lv2 := [.ref m, .int (nI 0), UU, UU, UU, UU, UU, UU]) dX11_laySaid_5 rfl rfl (by decide) rfl ?_
  refine l_M_lay hst hok (fun i hi => cpF_in hi) hd 61 0 _ rfl (MI.start2 hM hQ ht) hdu (fun i hi => absurd hi (Nat.not_lt_zero i))
set_option maxHeartbeats 4000000 in
set_option maxRecDepth 100000 in
theorem c_M_cost {l : Launch} {Z : EE} (hst : l.stackTraces = false) {h : PH} {m : Nat} (hM : ModS h m) {f : Nat → Int32} (hf : hp_I h (m + 14) = f) {g : Nat → Int32} (hs : hp_I h (m + 15) = g) {sz : Nat} {kf vf : Nat → Int32} (hQ : LawM h m sz kf vf) (hok : LawOK kf vf sz) {du : Nat} (hdu : hp_F h m 16 = .int (nI du)) (hd : du ≤ 20) (n : Nat) (hn : n ≤ 60) : CC l Z m_X11_cost 6 0 0 [.ref m, .int (nI n)] h (MOk (nI ((syQ f sz kf vf du).1 n)) m h) := by
  refine ee_entry hst (by decide +kernel) rfl rfl (by simp [Value.category]) (Nat.le_of_ble_eq_true rfl) ?_
  refine ww_lv (lv2 := [.ref m, .int (nI n)]) rfl ?_
  refine ww_aload_n dX11_cost_0 rfl rfl ?_
  refine ww_iconst (v := nI 0) dX11_cost_1 (by decide) ?_
  refine ww_pfI tyX11 0 dX11_cost_2 hM.K0 rfl (by decide) inX11 tyX11_ok nmX11 wg_1240 rfl rfl ?_
  refine ww_aload_n dX11_cost_5 rfl rfl ?_
  refine ww_iload_n dX11_cost_6 rfl rfl ?_
  refine ww_iconst (v := nI 1) dX11_cost_7 (by decide) ?_
  refine ww_cVr (M := m_X11_cost) (pc := 8) (v := .int (nI 1)) (h1 := hp_sF h m 0 (.int (nI 0))) (st := []) (d := 6) (bc := 0) (bs := 0) (c_M_isThere_t hst (h := hp_sF h m 0 (.int (nI 0))) (ModS.sF hM (by decide)) (hp_F_eq _ _ _ _) n hn) vv_X11_isThere dX11_cost_8 wg_1620 hM.K0 rfl rfl rfl rfl (Nat.le_of_ble_eq_true rfl) (Nat.le_of_ble_eq_true rfl) (Nat.le_of_ble_eq_true rfl) (Nat.le_of_ble_eq_true rfl) ?_
  refine ww_if_neN (tgt := 16) dX11_cost_11 (by decide) (by omega) (fun c11 => ?_) (fun c11 => ?_)
  · refine ww_aload_n dX11_cost_16 rfl rfl ?_
    have hQ0 : LawM (hp_sF h m 0 (.int (nI 0))) m sz kf vf := hQ.same (Same.rf.sF (SY0 m)) (SX_no (by decide)) (SX_no (by decide)) (SY_no (by decide))
    refine ww_cVq0 (M := m_X11_cost) (pc := 17) (st := []) (d := 6) (bc := 0) (bs := 0) (c_M_laySaid hst (h := hp_sF h m 0 (.int (nI 0))) (ModS.sF hM (by decide)) hf hs hQ0 hok (hp_F_nj (by decide) hdu) hd (hp_F_eq _ _ _ _)) vv_X11_laySaid dX11_cost_17 wg_1636 hM.K0 rfl rfl rfl rfl (Nat.le_of_ble_eq_true rfl) (Nat.le_of_ble_eq_true rfl) (Nat.le_of_ble_eq_true rfl) (Nat.le_of_ble_eq_true rfl) (fun hq1 qq1 => ?_)
    have hI1 : MI m sz kf vf (cpF f g 190) h hq1 := ⟨qq1.1.1, qq1.1.2.1, qq1.1.2.2.1, (Same.rf.sF (SY0 m)).tr qq1.1.2.2.2.1, qq1.1.2.2.2.2⟩
    have hr1 := qq1.2.2
    have hdu1 := qq1.2.1
    generalize hge : cpF f g 190 = g9 at hI1
    have hg9 : ∀ i, i < 190 → g9 i = f i := fun i hi => by rw [← hge]; exact cpF_in hi
    refine ww_aload_n dX11_cost_20 rfl rfl ?_
    refine ww_get 39 dX11_cost_21 hI1.1.K0 rfl (by decide) inX11 wg_1279 hI1.1.F19 ?_
    refine ww_iload_n dX11_cost_24 rfl rfl ?_
    refine ww_laldF dX11_cost_25 hI1.1.K19 rfl (by omega) (by omega) ?_
    refine ww_sk (st2 := [.long (lI (syL f sz kf vf du n))]) (by rw [hr1 n (by omega)]) ?_
    refine ww_ldc2 (v := 1000000) dX11_cost_26 wg_1640 ?_
    refine ww_ldiv dX11_cost_29 (by decide) ?_
    refine ww_l2i dX11_cost_30 ?_
    exact ww_iret dX11_cost_31 rfl ⟨by rw [sy_cost f sz kf vf du hn], hI1.2.2.2.1, hI1.2.2.2.2⟩
  · exfalso; omega
set_option maxHeartbeats 4000000 in
set_option maxRecDepth 100000 in
theorem c_M_cost_no {l : Launch} {Z : EE} (hst : l.stackTraces = false) {h : PH} {m : Nat} (hM : ModS h m) (n : Int32) (hout : outR 0 60 n) : CC l Z m_X11_cost 6 0 0 [.ref m, .int n] h (MNo 1 0 m h) := by
  refine ee_entry hst (by decide +kernel) rfl rfl (by simp [Value.category]) (Nat.le_of_ble_eq_true rfl) ?_
  refine ww_lv (lv2 := [.ref m, .int n]) rfl ?_
  refine ww_aload_n dX11_cost_0 rfl rfl ?_
  refine ww_iconst (v := nI 0) dX11_cost_1 (by decide) ?_
  refine ww_pfI tyX11 0 dX11_cost_2 hM.K0 rfl (by decide) inX11 tyX11_ok nmX11 wg_1240 rfl rfl ?_
  refine ww_aload_n dX11_cost_5 rfl rfl ?_
  refine ww_iload_n dX11_cost_6 rfl rfl ?_
  refine ww_iconst (v := nI 1) dX11_cost_7 (by decide) ?_
  refine ww_cVr (M := m_X11_cost) (pc := 8) (v := .int (nI 0)) (h1 := hp_sI (hp_sF (hp_sF h m 0 (.int (nI 0))) m 0 (.int (nI 1))) (m + 1) (upd (hp_I (hp_sF h m 0 (.int (nI 0))) (m + 1)) 0 (hp_I (hp_sF h m 0 (.int (nI 0))) (m + 1) 0 + nI 1))) (st := []) (d := 6) (bc := 0) (bs := 0) (c_M_isThere_f hst (h := hp_sF h m 0 (.int (nI 0))) (ModS.sF hM (by decide)) (hp_F_eq _ _ _ _) n hout) vv_X11_isThere dX11_cost_8 wg_1620 hM.K0 rfl rfl rfl rfl (Nat.le_of_ble_eq_true rfl) (Nat.le_of_ble_eq_true rfl) (Nat.le_of_ble_eq_true rfl) (Nat.le_of_ble_eq_true rfl) ?_
  refine ww_if_neN (tgt := 16) dX11_cost_11 (by decide) (by omega) (fun c11 => ?_) (fun c11 => ?_)
  · exfalso; omega
  · refine ww_iconst (v := nI 0) dX11_cost_14 (by decide) ?_
    exact ww_iret dX11_cost_15 rfl ⟨rfl, (((Same.rf.sF (SY0 m)).sF (SY0 m)).sI (Or.inr rfl)), (hp_F_sI (hp_F_eq _ _ _ _)), by rw [hp_I_eq]; rfl⟩
set_option maxHeartbeats 4000000 in
set_option maxRecDepth 100000 in
theorem c_M_leaves {l : Launch} {Z : EE} (hst : l.stackTraces = false) {h : PH} {m : Nat} (hM : ModS h m) {f : Nat → Int32} (hf : hp_I h (m + 14) = f) {g : Nat → Int32} (hs : hp_I h (m + 15) = g) {sz : Nat} {kf vf : Nat → Int32} (hQ : LawM h m sz kf vf) (hok : LawOK kf vf sz) {du : Nat} (hdu : hp_F h m 16 = .int (nI du)) (hd : du ≤ 20) (n : Nat) (hn : n ≤ 60) : CC l Z m_X11_leaves 6 0 0 [.ref m, .int (nI n)] h (MOk (nI ((syQ f sz kf vf du).2 n)) m h) := by
  refine ee_entry hst (by decide +kernel) rfl rfl (by simp [Value.category]) (Nat.le_of_ble_eq_true rfl) ?_
  refine ww_lv (lv2 := [.ref m, .int (nI n)]) rfl ?_
  refine ww_aload_n dX11_leaves_0 rfl rfl ?_
  refine ww_iconst (v := nI 0) dX11_leaves_1 (by decide) ?_
  refine ww_pfI tyX11 0 dX11_leaves_2 hM.K0 rfl (by decide) inX11 tyX11_ok nmX11 wg_1240 rfl rfl ?_
  refine ww_aload_n dX11_leaves_5 rfl rfl ?_
  refine ww_iload_n dX11_leaves_6 rfl rfl ?_
  refine ww_iconst (v := nI 1) dX11_leaves_7 (by decide) ?_
  refine ww_cVr (M := m_X11_leaves) (pc := 8) (v := .int (nI 1)) (h1 := hp_sF h m 0 (.int (nI 0))) (st := []) (d := 6) (bc := 0) (bs := 0) (c_M_isThere_t hst (h := hp_sF h m 0 (.int (nI 0))) (ModS.sF hM (by decide)) (hp_F_eq _ _ _ _) n hn) vv_X11_isThere dX11_leaves_8 wg_1620 hM.K0 rfl rfl rfl rfl (Nat.le_of_ble_eq_true rfl) (Nat.le_of_ble_eq_true rfl) (Nat.le_of_ble_eq_true rfl) (Nat.le_of_ble_eq_true rfl) ?_
  refine ww_if_neN (tgt := 16) dX11_leaves_11 (by decide) (by omega) (fun c11 => ?_) (fun c11 => ?_)
  · refine ww_aload_n dX11_leaves_16 rfl rfl ?_
    have hQ0 : LawM (hp_sF h m 0 (.int (nI 0))) m sz kf vf := hQ.same (Same.rf.sF (SY0 m)) (SX_no (by decide)) (SX_no (by decide)) (SY_no (by decide))
    refine ww_cVq0 (M := m_X11_leaves) (pc := 17) (st := []) (d := 6) (bc := 0) (bs := 0) (c_M_laySaid hst (h := hp_sF h m 0 (.int (nI 0))) (ModS.sF hM (by decide)) hf hs hQ0 hok (hp_F_nj (by decide) hdu) hd (hp_F_eq _ _ _ _)) vv_X11_laySaid dX11_leaves_17 wg_1636 hM.K0 rfl rfl rfl rfl (Nat.le_of_ble_eq_true rfl) (Nat.le_of_ble_eq_true rfl) (Nat.le_of_ble_eq_true rfl) (Nat.le_of_ble_eq_true rfl) (fun hq1 qq1 => ?_)
    have hI1 : MI m sz kf vf (cpF f g 190) h hq1 := ⟨qq1.1.1, qq1.1.2.1, qq1.1.2.2.1, (Same.rf.sF (SY0 m)).tr qq1.1.2.2.2.1, qq1.1.2.2.2.2⟩
    have hr1 := qq1.2.2
    have hdu1 := qq1.2.1
    generalize hge : cpF f g 190 = g9 at hI1
    have hg9 : ∀ i, i < 190 → g9 i = f i := fun i hi => by rw [← hge]; exact cpF_in hi
    refine ww_aload_n dX11_leaves_20 rfl rfl ?_
    refine ww_get 39 dX11_leaves_21 hI1.1.K0 rfl (by decide) inX11 wg_1279 hI1.1.F19 ?_
    refine ww_iload_n dX11_leaves_24 rfl rfl ?_
    refine ww_laldF dX11_leaves_25 hI1.1.K19 rfl (by omega) (by omega) ?_
    refine ww_sk (st2 := [.long (lI (syL f sz kf vf du n))]) (by rw [hr1 n (by omega)]) ?_
    refine ww_ldc2 (v := 1000000) dX11_leaves_26 wg_1640 ?_
    refine ww_lrem dX11_leaves_29 (by decide) ?_
    refine ww_l2i dX11_leaves_30 ?_
    exact ww_iret dX11_leaves_31 rfl ⟨by rw [sy_leaf f sz kf vf du hn], hI1.2.2.2.1, hI1.2.2.2.2⟩
  · exfalso; omega
set_option maxHeartbeats 4000000 in
set_option maxRecDepth 100000 in
theorem c_M_leaves_no {l : Launch} {Z : EE} (hst : l.stackTraces = false) {h : PH} {m : Nat} (hM : ModS h m) (n : Int32) (hout : outR 0 60 n) : CC l Z m_X11_leaves 6 0 0 [.ref m, .int n] h (MNo 1 0 m h) := by
  refine ee_entry hst (by decide +kernel) rfl rfl (by simp [Value.category]) (Nat.le_of_ble_eq_true rfl) ?_
  refine ww_lv (lv2 := [.ref m, .int n]) rfl ?_
  refine ww_aload_n dX11_leaves_0 rfl rfl ?_
  refine ww_iconst (v := nI 0) dX11_leaves_1 (by decide) ?_
  refine ww_pfI tyX11 0 dX11_leaves_2 hM.K0 rfl (by decide) inX11 tyX11_ok nmX11 wg_1240 rfl rfl ?_
  refine ww_aload_n dX11_leaves_5 rfl rfl ?_
  refine ww_iload_n dX11_leaves_6 rfl rfl ?_
  refine ww_iconst (v := nI 1) dX11_leaves_7 (by decide) ?_
  refine ww_cVr (M := m_X11_leaves) (pc := 8) (v := .int (nI 0)) (h1 := hp_sI (hp_sF (hp_sF h m 0 (.int (nI 0))) m 0 (.int (nI 1))) (m + 1) (upd (hp_I (hp_sF h m 0 (.int (nI 0))) (m + 1)) 0 (hp_I (hp_sF h m 0 (.int (nI 0))) (m + 1) 0 + nI 1))) (st := []) (d := 6) (bc := 0) (bs := 0) (c_M_isThere_f hst (h := hp_sF h m 0 (.int (nI 0))) (ModS.sF hM (by decide)) (hp_F_eq _ _ _ _) n hout) vv_X11_isThere dX11_leaves_8 wg_1620 hM.K0 rfl rfl rfl rfl (Nat.le_of_ble_eq_true rfl) (Nat.le_of_ble_eq_true rfl) (Nat.le_of_ble_eq_true rfl) (Nat.le_of_ble_eq_true rfl) ?_
  refine ww_if_neN (tgt := 16) dX11_leaves_11 (by decide) (by omega) (fun c11 => ?_) (fun c11 => ?_)
  · exfalso; omega
  · refine ww_iconst (v := nI 0) dX11_leaves_14 (by decide) ?_
    exact ww_iret dX11_leaves_15 rfl ⟨rfl, (((Same.rf.sF (SY0 m)).sF (SY0 m)).sI (Or.inr rfl)), (hp_F_sI (hp_F_eq _ _ _ _)), by rw [hp_I_eq]; rfl⟩
