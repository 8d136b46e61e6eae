theorem smI_congr {g g' : Nat → Int32} : ∀ (n : Nat), (∀ i, i < n → g i = g' i) → smI g n = smI g' n
  | 0, _ => rfl
  | n + 1, h => by simp only [smI]; rw [smI_congr n (fun i hi => h i (by omega)), h n (by omega)]
theorem cnt_congr {g g' : Nat → Bool} : ∀ (n : Nat), (∀ i, i < n → g i = g' i) → cnt g n = cnt g' n
  | 0, _ => rfl
  | n + 1, h => by simp only [cnt]; rw [cnt_congr n (fun i hi => h i (by omega)), h n (by omega)]
theorem foI_congr {α : Type} {g g' : Nat → α → α} {a : α} : ∀ (n : Nat), (∀ i, i < n → g i = g' i) → foI g a n = foI g' a n
  | 0, _ => rfl
  | n + 1, h => by simp only [foI]; rw [foI_congr n (fun i hi => h i (by omega)), h n (by omega)]
set_option maxHeartbeats 4000000 in
set_option maxRecDepth 100000 in
theorem l_M_coinsOf {l : Launch} {Z : EE} (hst : l.stackTraces = false) {h : PH} {m : Nat} (hM : ModS h m) {np : Nat} (hnp : hp_F h m 15 = .int (nI np)) (h6 : np ≤ 6) {g : Nat → Int32} (hs : hp_I h (m + 15) = g) {Post : Res → PH → Prop} : ∀ (j k : Nat), k + j = np → WW l Z m_X11_coinsOf 0 0 0 29 [.ref m, .int (nI 183), .int (smI (fun i => g (183 + i)) np), .int (nI np)] [] h Post → WW l Z m_X11_coinsOf 0 0 0 4 [.ref m, .int (nI 183), .int (smI (fun i => g (183 + i)) k), .int (nI k)] [] h Post := by
  intro j
  induction j with
  | zero =>
    intro k hk hexit
    have hk0 : k = np := by omega
    subst hk0
    refine ww_iload_n dX11_coinsOf_4 rfl rfl ?_
    refine ww_aload_n dX11_coinsOf_5 rfl rfl ?_
    refine ww_get 15 dX11_coinsOf_6 hM.K0 rfl (by decide) inX11 wg_1255 hnp ?_
    refine ww_icmp_geN (tgt := 29) dX11_coinsOf_9 (by decide) (by omega) (by omega) (fun c9 => ?_) (fun c9 => ?_)
    · exact hexit
    · exfalso; omega
  | succ j ih =>
    intro k hk hexit
    refine ww_iload_n dX11_coinsOf_4 rfl rfl ?_
    refine ww_aload_n dX11_coinsOf_5 rfl rfl ?_
    refine ww_get 15 dX11_coinsOf_6 hM.K0 rfl (by decide) inX11 wg_1255 hnp ?_
    refine ww_icmp_geN (tgt := 29) dX11_coinsOf_9 (by decide) (by omega) (by omega) (fun c9 => ?_) (fun c9 => ?_)
    · exfalso; omega
    · refine ww_iload_n dX11_coinsOf_12 rfl rfl ?_
      refine ww_aload_n dX11_coinsOf_13 rfl rfl ?_
      refine ww_get 34 dX11_coinsOf_14 hM.K0 rfl (by decide) inX11 wg_1274 hM.F15 ?_
      refine ww_iload_n dX11_coinsOf_17 rfl rfl ?_
      refine ww_iload_n dX11_coinsOf_18 rfl rfl ?_
      refine ww_iaddN dX11_coinsOf_19 ?_
      refine ww_ialdF dX11_coinsOf_20 hM.K15 hs (by omega) (by omega) ?_
      refine ww_iadd dX11_coinsOf_21 ?_
      refine ww_sti_n (lv2 := [.ref m, .int (nI 183), .int ((smI (fun i => g (183 + i)) k) + (g (183 + k))), .int (nI k)]) dX11_coinsOf_22 rfl rfl (by decide) rfl ?_
      refine ww_incN (c := 1) (lv2 := [.ref m, .int (nI 183), .int ((smI (fun i => g (183 + i)) k) + (g (183 + k))), .int (nI (k + 1))]) dX11_coinsOf_23 rfl rfl rfl (by decide) rfl ?_
      refine ww_goto (tgt := 4) dX11_coinsOf_26 (by decide) ?_
      refine ww_lv (lv2 := [.ref m, .int (nI 183), .int (smI (fun i => g (183 + i)) (k + 1)), .int (nI (k + 1))]) (by simp [smI]) ?_
      exact ih (k + 1) (by omega) hexit
set_option maxHeartbeats 4000000 in
set_option maxRecDepth 100000 in
theorem c_M_coinsOf {l : Launch} {Z : EE} (hst : l.stackTraces = false) {h : PH} {m : Nat} (hM : ModS h m) {np : Nat} (hnp : hp_F h m 15 = .int (nI np)) (h6 : np ≤ 6) {g : Nat → Int32} (hs : hp_I h (m + 15) = g) : CC l Z m_X11_coinsOf 0 0 0 [.ref m, .int (nI 183)] h (RT (some (.int (smI (fun i => g (183 + i)) np))) h) := by
  refine ee_entry hst (by decide +kernel) rfl rfl (by simp [Value.category]) (Nat.le_of_ble_eq_true rfl) ?_
  refine ww_lv (lv2 := [.ref m, .int (nI 183), UU, UU]) rfl ?_
  refine ww_iconst (v := nI 0) dX11_coinsOf_0 (by decide) ?_
  refine ww_sti_n (lv2 := [.ref m, .int (nI 183), .int (nI 0), UU]) dX11_coinsOf_1 rfl rfl (by decide) rfl ?_
  refine ww_iconst (v := nI 0) dX11_coinsOf_2 (by decide) ?_
  refine ww_sti_n (lv2 := [.ref m, .int (nI 183), .int (nI 0), .int (nI 0)]) dX11_coinsOf_3 rfl rfl (by decide) rfl ?_
  refine l_M_coinsOf hst hM hnp h6 hs np 0 (by omega) ?_
  exact ww_iload_n dX11_coinsOf_29 rfl rfl (ww_iret dX11_coinsOf_30 rfl ⟨rfl, rfl⟩)
set_option maxHeartbeats 4000000 in
set_option maxRecDepth 100000 in
theorem l_M_givenBy {l : Launch} {Z : EE} (hst : l.stackTraces = false) {h : PH} {m : Nat} (hM : ModS h m) {np : Nat} (hnp : hp_F h m 15 = .int (nI np)) (h6 : np ≤ 6) {f : Nat → Int32} (hf : hp_I h (m + 14) = f) (b : Int32) {Post : Res → PH → Prop} : ∀ (j k : Nat), k + j = np → WW l Z m_X11_givenBy 0 0 0 49 [.ref m, .int b, .int (smI (fun i => if f (183 + i) < b then f (183 + i) else b) np), .int (nI np)] [] h Post → WW l Z m_X11_givenBy 0 0 0 4 [.ref m, .int b, .int (smI (fun i => if f (183 + i) < b then f (183 + i) else b) k), .int (nI k)] [] h Post := by
  intro j
  induction j with
  | zero =>
    intro k hk hexit
    have hk0 : k = np := by omega
    subst hk0
    refine ww_iload_n dX11_givenBy_4 rfl rfl ?_
    refine ww_aload_n dX11_givenBy_5 rfl rfl ?_
    refine ww_get 15 dX11_givenBy_6 hM.K0 rfl (by decide) inX11 wg_1255 hnp ?_
    refine ww_icmp_geN (tgt := 49) dX11_givenBy_9 (by decide) (by omega) (by omega) (fun c9 => ?_) (fun c9 => ?_)
    · exact hexit
    · exfalso; omega
  | succ j ih =>
    intro k hk hexit
    refine ww_iload_n dX11_givenBy_4 rfl rfl ?_
    refine ww_aload_n dX11_givenBy_5 rfl rfl ?_
    refine ww_get 15 dX11_givenBy_6 hM.K0 rfl (by decide) inX11 wg_1255 hnp ?_
    refine ww_icmp_geN (tgt := 49) dX11_givenBy_9 (by decide) (by omega) (by omega) (fun c9 => ?_) (fun c9 => ?_)
    · exfalso; omega
    · refine ww_iload_n dX11_givenBy_12 rfl rfl ?_
      refine ww_aload_n dX11_givenBy_13 rfl rfl ?_
      refine ww_get 33 dX11_givenBy_14 hM.K0 rfl (by decide) inX11 wg_1273 hM.F14 ?_
      refine ww_sipush (v := nI 183) dX11_givenBy_17 (by decide) ?_
      refine ww_iload_n dX11_givenBy_20 rfl rfl ?_
      refine ww_iaddN dX11_givenBy_21 ?_
      refine ww_ialdF dX11_givenBy_22 hM.K14 hf (by omega) (by omega) ?_
      refine ww_iload_n dX11_givenBy_23 rfl rfl ?_
      refine ww_icmp_ge (tgt := 40) dX11_givenBy_24 (by decide) (fun c24 => ?_) (fun c24 => ?_)
      · refine ww_iload_n dX11_givenBy_40 rfl rfl ?_
        refine ww_iadd dX11_givenBy_41 ?_
        refine ww_sti_n (lv2 := [.ref m, .int b, .int ((smI (fun i => if f (183 + i) < b then f (183 + i) else b) k) + b), .int (nI k)]) dX11_givenBy_42 rfl rfl (by decide) rfl ?_
        refine ww_incN (c := 1) (lv2 := [.ref m, .int b, .int ((smI (fun i => if f (183 + i) < b then f (183 + i) else b) k) + b), .int (nI (k + 1))]) dX11_givenBy_43 rfl rfl rfl (by decide) rfl ?_
        refine ww_goto (tgt := 4) dX11_givenBy_46 (by decide) ?_
        refine ww_lv (lv2 := [.ref m, .int b, .int (smI (fun i => if f (183 + i) < b then f (183 + i) else b) (k + 1)), .int (nI (k + 1))]) (by first | (simp [smI, c24]; done) | (simp [smI, Int32.not_lt.mpr c24])) ?_
        exact ih (k + 1) (by omega) hexit
      · refine ww_aload_n dX11_givenBy_27 rfl rfl ?_
        refine ww_get 33 dX11_givenBy_28 hM.K0 rfl (by decide) inX11 wg_1273 hM.F14 ?_
        refine ww_sipush (v := nI 183) dX11_givenBy_31 (by decide) ?_
        refine ww_iload_n dX11_givenBy_34 rfl rfl ?_
        refine ww_iaddN dX11_givenBy_35 ?_
        refine ww_ialdF dX11_givenBy_36 hM.K14 hf (by omega) (by omega) ?_
        refine ww_goto (tgt := 41) dX11_givenBy_37 (by decide) ?_
        refine ww_iadd dX11_givenBy_41 ?_
        refine ww_sti_n (lv2 := [.ref m, .int b, .int ((smI (fun i => if f (183 + i) < b then f (183 + i) else b) k) + (f (183 + k))), .int (nI k)]) dX11_givenBy_42 rfl rfl (by decide) rfl ?_
        refine ww_incN (c := 1) (lv2 := [.ref m, .int b, .int ((smI (fun i => if f (183 + i) < b then f (183 + i) else b) k) + (f (183 + k))), .int (nI (k + 1))]) dX11_givenBy_43 rfl rfl rfl (by decide) rfl ?_
        refine ww_goto (tgt := 4) dX11_givenBy_46 (by decide) ?_
        refine ww_lv (lv2 := [.ref m, .int b, .int (smI (fun i => if f (183 + i) < b then f (183 + i) else b) (k + 1)), .int (nI (k + 1))]) (by first | (simp [smI, c24]; done) | (simp [smI, Int32.not_lt.mpr c24])) ?_
        exact ih (k + 1) (by omega) hexit
set_option maxHeartbeats 4000000 in
set_option maxRecDepth 100000 in
theorem c_M_givenBy {l : Launch} {Z : EE} (hst : l.stackTraces = false) {h : PH} {m : Nat} (hM : ModS h m) {np : Nat} (hnp : hp_F h m 15 = .int (nI np)) (h6 : np ≤ 6) {f : Nat → Int32} (hf : hp_I h (m + 14) = f) (b : Int32) : CC l Z m_X11_givenBy 0 0 0 [.ref m, .int b] h (RT (some (.int (smI (fun i => if f (183 + i) < b then f (183 + i) else b) np))) h) := by
  refine ee_entry hst (by decide +kernel) rfl rfl (by simp [Value.category]) (Nat.le_of_ble_eq_true rfl) ?_
  refine ww_lv (lv2 := [.ref m, .int b, UU, UU]) rfl ?_
  refine ww_iconst (v := nI 0) dX11_givenBy_0 (by decide) ?_
  refine ww_sti_n (lv2 := [.ref m, .int b, .int (nI 0), UU]) dX11_givenBy_1 rfl rfl (by decide) rfl ?_
  refine ww_iconst (v := nI 0) dX11_givenBy_2 (by decide) ?_
  refine ww_sti_n (lv2 := [.ref m, .int b, .int (nI 0), .int (nI 0)]) dX11_givenBy_3 rfl rfl (by decide) rfl ?_
  refine l_M_givenBy hst hM hnp h6 hf b np 0 (by omega) ?_
  exact ww_iload_n dX11_givenBy_49 rfl rfl (ww_iret dX11_givenBy_50 rfl ⟨rfl, rfl⟩)
set_option maxHeartbeats 4000000 in
set_option maxRecDepth 100000 in
theorem c_M_told0 {l : Launch} {Z : EE} (hst : l.stackTraces = false) {h : PH} {m : Nat} (hM : ModS h m) {np : Nat} (hnp : hp_F h m 15 = .int (nI np)) (h6 : np ≤ 6) {du ln : Nat} {rs : Int32} (hdu : hp_F h m 16 = .int (nI du)) (hln : hp_F h m 38 = .int (nI ln)) (hrs : hp_F h m 29 = .int rs) {f : Nat → Int32} (hf : hp_I h (m + 14) = f) {g : Nat → Int32} (hs : hp_I h (m + 15) = g) : CC l Z m_X11_told 2 0 0 [.ref m, .int (nI 0)] h (MOk (nI np) m h) := by
  refine ee_entry hst (by decide +kernel) rfl rfl (by simp [Value.category]) (Nat.le_of_ble_eq_true rfl) ?_
  refine ww_lv (lv2 := [.ref m, .int (nI 0), UU, UU]) rfl ?_
  refine ww_aload_n dX11_told_0 rfl rfl ?_
  refine ww_iconst (v := nI 0) dX11_told_1 (by decide) ?_
  refine ww_pfI tyX11 0 dX11_told_2 hM.K0 rfl (by decide) inX11 tyX11_ok nmX11 wg_1240 rfl rfl ?_
  refine ww_aload_n dX11_told_5 rfl rfl ?_
  refine ww_iload_n dX11_told_6 rfl rfl ?_
  refine ww_iconst (v := nI 0) dX11_told_7 (by decide) ?_
  refine ww_bipush (v := nI 7) dX11_told_8 (by decide) ?_
  refine ww_cSr (M := m_X11_told) (pc := 10) (v := .int (nI 1)) (h1 := hp_sF h m 0 (.int (nI 0))) (st := [.ref m]) (bc := 0) (bs := 0) (c_M_within_t hst (nI 0) (nI 0) (nI 7) (by decide) (by decide) _) vv_X11_within dX11_told_10 wg_1601 rfl rfl rfl (Nat.le_of_ble_eq_true rfl) (Nat.le_of_ble_eq_true rfl) (Nat.le_of_ble_eq_true rfl) (Nat.le_of_ble_eq_true rfl) ?_
  refine ww_iconst (v := nI 1) dX11_told_13 (by decide) ?_
  refine ww_iconst (v := nI 1) dX11_told_14 (by decide) ?_
  refine ww_cVr (M := m_X11_told) (pc := 15) (v := .int (nI 1)) (h1 := hp_sF h m 0 (.int (nI 0))) (st := []) (bc := 0) (bs := 0) (c_M_may_t hst (h := hp_sF h m 0 (.int (nI 0))) (ModS.sF hM (by decide)) (hp_F_eq _ _ _ _) (nI 1) (nI 1)) vv_X11_may dX11_told_15 wg_1413 hM.K0 rfl rfl rfl rfl (Nat.le_of_ble_eq_true rfl) (Nat.le_of_ble_eq_true rfl) (Nat.le_of_ble_eq_true rfl) (Nat.le_of_ble_eq_true rfl) ?_
  refine ww_if_neN (tgt := 23) dX11_told_18 (by decide) (by omega) (fun c18 => ?_) (fun c18 => ?_)
  · refine ww_aload_n dX11_told_23 rfl rfl ?_
    refine ww_cV0 (M := m_X11_told) (pc := 24) (h1 := hp_sI (hp_sF h m 0 (.int (nI 0))) (m + 15) (cpF f g 190)) (st := []) (bc := 0) (bs := 0) (c_M_take hst (h := hp_sF h m 0 (.int (nI 0))) (ModS.sF hM (by decide)) hf hs) vv_X11_take dX11_told_24 wg_1539 hM.K0 rfl rfl rfl rfl (Nat.le_of_ble_eq_true rfl) (Nat.le_of_ble_eq_true rfl) (Nat.le_of_ble_eq_true rfl) (Nat.le_of_ble_eq_true rfl) ?_
    refine ww_iload_n dX11_told_27 rfl rfl ?_
    refine ww_iconst (v := nI 3) dX11_told_28 (by decide) ?_
    refine ww_icmp_geN (tgt := 64) dX11_told_29 (by decide) (by omega) (by omega) (fun c29 => ?_) (fun c29 => ?_)
    · exact absurd c29 (by decide)
    · refine ww_iload_n dX11_told_32 rfl rfl ?_
      refine ww_if_neN (tgt := 43) dX11_told_33 (by decide) (by omega) (fun c33 => ?_) (fun c33 => ?_)
      · exact absurd c33 (by decide)
      · refine ww_aload_n dX11_told_36 rfl rfl ?_
        refine ww_get 15 dX11_told_37 hM.K0 rfl (by decide) inX11 wg_1255 (hp_F_nj (by decide) hnp) ?_
        refine ww_goto (tgt := 63) dX11_told_40 (by decide) ?_
        exact ww_iret dX11_told_63 rfl ⟨rfl, ((Same.rf.sF (SY0 m)).sI (SX15 m)), (hp_F_eq _ _ _ _)⟩
  · exact absurd c18 (by decide)
set_option maxHeartbeats 4000000 in
set_option maxRecDepth 100000 in
theorem c_M_told1 {l : Launch} {Z : EE} (hst : l.stackTraces = false) {h : PH} {m : Nat} (hM : ModS h m) {np : Nat} (hnp : hp_F h m 15 = .int (nI np)) (h6 : np ≤ 6) {du ln : Nat} {rs : Int32} (hdu : hp_F h m 16 = .int (nI du)) (hln : hp_F h m 38 = .int (nI ln)) (hrs : hp_F h m 29 = .int rs) {f : Nat → Int32} (hf : hp_I h (m + 14) = f) {g : Nat → Int32} (hs : hp_I h (m + 15) = g) : CC l Z m_X11_told 2 0 0 [.ref m, .int (nI 1)] h (MOk (f 189) m h) := by
  refine ee_entry hst (by decide +kernel) rfl rfl (by simp [Value.category]) (Nat.le_of_ble_eq_true rfl) ?_
  refine ww_lv (lv2 := [.ref m, .int (nI 1), UU, UU]) rfl ?_
  refine ww_aload_n dX11_told_0 rfl rfl ?_
  refine ww_iconst (v := nI 0) dX11_told_1 (by decide) ?_
  refine ww_pfI tyX11 0 dX11_told_2 hM.K0 rfl (by decide) inX11 tyX11_ok nmX11 wg_1240 rfl rfl ?_
  refine ww_aload_n dX11_told_5 rfl rfl ?_
  refine ww_iload_n dX11_told_6 rfl rfl ?_
  refine ww_iconst (v := nI 0) dX11_told_7 (by decide) ?_
  refine ww_bipush (v := nI 7) dX11_told_8 (by decide) ?_
  refine ww_cSr (M := m_X11_told) (pc := 10) (v := .int (nI 1)) (h1 := hp_sF h m 0 (.int (nI 0))) (st := [.ref m]) (bc := 0) (bs := 0) (c_M_within_t hst (nI 1) (nI 0) (nI 7) (by decide) (by decide) _) vv_X11_within dX11_told_10 wg_1601 rfl rfl rfl (Nat.le_of_ble_eq_true rfl) (Nat.le_of_ble_eq_true rfl) (Nat.le_of_ble_eq_true rfl) (Nat.le_of_ble_eq_true rfl) ?_
  refine ww_iconst (v := nI 1) dX11_told_13 (by decide) ?_
  refine ww_iconst (v := nI 1) dX11_told_14 (by decide) ?_
  refine ww_cVr (M := m_X11_told) (pc := 15) (v := .int (nI 1)) (h1 := hp_sF h m 0 (.int (nI 0))) (st := []) (bc := 0) (bs := 0) (c_M_may_t hst (h := hp_sF h m 0 (.int (nI 0))) (ModS.sF hM (by decide)) (hp_F_eq _ _ _ _) (nI 1) (nI 1)) vv_X11_may dX11_told_15 wg_1413 hM.K0 rfl rfl rfl rfl (Nat.le_of_ble_eq_true rfl) (Nat.le_of_ble_eq_true rfl) (Nat.le_of_ble_eq_true rfl) (Nat.le_of_ble_eq_true rfl) ?_
  refine ww_if_neN (tgt := 23) dX11_told_18 (by decide) (by omega) (fun c18 => ?_) (fun c18 => ?_)
  · refine ww_aload_n dX11_told_23 rfl rfl ?_
    refine ww_cV0 (M := m_X11_told) (pc := 24) (h1 := hp_sI (hp_sF h m 0 (.int (nI 0))) (m + 15) (cpF f g 190)) (st := []) (bc := 0) (bs := 0) (c_M_take hst (h := hp_sF h m 0 (.int (nI 0))) (ModS.sF hM (by decide)) hf hs) vv_X11_take dX11_told_24 wg_1539 hM.K0 rfl rfl rfl rfl (Nat.le_of_ble_eq_true rfl) (Nat.le_of_ble_eq_true rfl) (Nat.le_of_ble_eq_true rfl) (Nat.le_of_ble_eq_true rfl) ?_
    refine ww_iload_n dX11_told_27 rfl rfl ?_
    refine ww_iconst (v := nI 3) dX11_told_28 (by decide) ?_
    refine ww_icmp_geN (tgt := 64) dX11_told_29 (by decide) (by omega) (by omega) (fun c29 => ?_) (fun c29 => ?_)
    · exact absurd c29 (by decide)
    · refine ww_iload_n dX11_told_32 rfl rfl ?_
      refine ww_if_neN (tgt := 43) dX11_told_33 (by decide) (by omega) (fun c33 => ?_) (fun c33 => ?_)
      · refine ww_iload_n dX11_told_43 rfl rfl ?_
        refine ww_iconst (v := nI 1) dX11_told_44 (by decide) ?_
        refine ww_icmp_neN (tgt := 59) dX11_told_45 (by decide) (by omega) (by omega) (fun c45 => ?_) (fun c45 => ?_)
        · exact absurd c45 (by decide)
        · refine ww_aload_n dX11_told_48 rfl rfl ?_
          refine ww_get 34 dX11_told_49 hM.K0 rfl (by decide) inX11 wg_1274 (hp_F_nj (by decide) hM.F15) ?_
          refine ww_sipush (v := nI 189) dX11_told_52 (by decide) ?_
          refine ww_ialdF dX11_told_55 hM.K15 (hp_I_eq _ _ _) (by omega) (by omega) ?_
          refine ww_goto (tgt := 63) dX11_told_56 (by decide) ?_
          exact ww_iret dX11_told_63 rfl ⟨by rw [cpF_in (by omega)], ((Same.rf.sF (SY0 m)).sI (SX15 m)), (hp_F_eq _ _ _ _)⟩
      · exact absurd c33 (by decide)
  · exact absurd c18 (by decide)
set_option maxHeartbeats 4000000 in
set_option maxRecDepth 100000 in
theorem c_M_told2 {l : Launch} {Z : EE} (hst : l.stackTraces = false) {h : PH} {m : Nat} (hM : ModS h m) {np : Nat} (hnp : hp_F h m 15 = .int (nI np)) (h6 : np ≤ 6) {du ln : Nat} {rs : Int32} (hdu : hp_F h m 16 = .int (nI du)) (hln : hp_F h m 38 = .int (nI ln)) (hrs : hp_F h m 29 = .int rs) {f : Nat → Int32} (hf : hp_I h (m + 14) = f) {g : Nat → Int32} (hs : hp_I h (m + 15) = g) : CC l Z m_X11_told 2 0 0 [.ref m, .int (nI 2)] h (MOk (nI du) m h) := by
  refine ee_entry hst (by decide +kernel) rfl rfl (by simp [Value.category]) (Nat.le_of_ble_eq_true rfl) ?_
  refine ww_lv (lv2 := [.ref m, .int (nI 2), UU, UU]) rfl ?_
  refine ww_aload_n dX11_told_0 rfl rfl ?_
  refine ww_iconst (v := nI 0) dX11_told_1 (by decide) ?_
  refine ww_pfI tyX11 0 dX11_told_2 hM.K0 rfl (by decide) inX11 tyX11_ok nmX11 wg_1240 rfl rfl ?_
  refine ww_aload_n dX11_told_5 rfl rfl ?_
  refine ww_iload_n dX11_told_6 rfl rfl ?_
  refine ww_iconst (v := nI 0) dX11_told_7 (by decide) ?_
  refine ww_bipush (v := nI 7) dX11_told_8 (by decide) ?_
  refine ww_cSr (M := m_X11_told) (pc := 10) (v := .int (nI 1)) (h1 := hp_sF h m 0 (.int (nI 0))) (st := [.ref m]) (bc := 0) (bs := 0) (c_M_within_t hst (nI 2) (nI 0) (nI 7) (by decide) (by decide) _) vv_X11_within dX11_told_10 wg_1601 rfl rfl rfl (Nat.le_of_ble_eq_true rfl) (Nat.le_of_ble_eq_true rfl) (Nat.le_of_ble_eq_true rfl) (Nat.le_of_ble_eq_true rfl) ?_
  refine ww_iconst (v := nI 1) dX11_told_13 (by decide) ?_
  refine ww_iconst (v := nI 1) dX11_told_14 (by decide) ?_
  refine ww_cVr (M := m_X11_told) (pc := 15) (v := .int (nI 1)) (h1 := hp_sF h m 0 (.int (nI 0))) (st := []) (bc := 0) (bs := 0) (c_M_may_t hst (h := hp_sF h m 0 (.int (nI 0))) (ModS.sF hM (by decide)) (hp_F_eq _ _ _ _) (nI 1) (nI 1)) vv_X11_may dX11_told_15 wg_1413 hM.K0 rfl rfl rfl rfl (Nat.le_of_ble_eq_true rfl) (Nat.le_of_ble_eq_true rfl) (Nat.le_of_ble_eq_true rfl) (Nat.le_of_ble_eq_true rfl) ?_
  refine ww_if_neN (tgt := 23) dX11_told_18 (by decide) (by omega) (fun c18 => ?_) (fun c18 => ?_)
  · refine ww_aload_n dX11_told_23 rfl rfl ?_
    refine ww_cV0 (M := m_X11_told) (pc := 24) (h1 := hp_sI (hp_sF h m 0 (.int (nI 0))) (m + 15) (cpF f g 190)) (st := []) (bc := 0) (bs := 0) (c_M_take hst (h := hp_sF h m 0 (.int (nI 0))) (ModS.sF hM (by decide)) hf hs) vv_X11_take dX11_told_24 wg_1539 hM.K0 rfl rfl rfl rfl (Nat.le_of_ble_eq_true rfl) (Nat.le_of_ble_eq_true rfl) (Nat.le_of_ble_eq_true rfl) (Nat.le_of_ble_eq_true rfl) ?_
    refine ww_iload_n dX11_told_27 rfl rfl ?_
    refine ww_iconst (v := nI 3) dX11_told_28 (by decide) ?_
    refine ww_icmp_geN (tgt := 64) dX11_told_29 (by decide) (by omega) (by omega) (fun c29 => ?_) (fun c29 => ?_)
    · exact absurd c29 (by decide)
    · refine ww_iload_n dX11_told_32 rfl rfl ?_
      refine ww_if_neN (tgt := 43) dX11_told_33 (by decide) (by omega) (fun c33 => ?_) (fun c33 => ?_)
      · refine ww_iload_n dX11_told_43 rfl rfl ?_
        refine ww_iconst (v := nI 1) dX11_told_44 (by decide) ?_
        refine ww_icmp_neN (tgt := 59) dX11_told_45 (by decide) (by omega) (by omega) (fun c45 => ?_) (fun c45 => ?_)
        · refine ww_aload_n dX11_told_59 rfl rfl ?_
          refine ww_get 16 dX11_told_60 hM.K0 rfl (by decide) inX11 wg_1256 (hp_F_nj (by decide) hdu) ?_
          exact ww_iret dX11_told_63 rfl ⟨rfl, ((Same.rf.sF (SY0 m)).sI (SX15 m)), (hp_F_eq _ _ _ _)⟩
        · exact absurd c45 (by decide)
      · exact absurd c33 (by decide)
  · exact absurd c18 (by decide)
set_option maxHeartbeats 4000000 in
set_option maxRecDepth 100000 in
theorem c_M_told5 {l : Launch} {Z : EE} (hst : l.stackTraces = false) {h : PH} {m : Nat} (hM : ModS h m) {np : Nat} (hnp : hp_F h m 15 = .int (nI np)) (h6 : np ≤ 6) {du ln : Nat} {rs : Int32} (hdu : hp_F h m 16 = .int (nI du)) (hln : hp_F h m 38 = .int (nI ln)) (hrs : hp_F h m 29 = .int rs) {f : Nat → Int32} (hf : hp_I h (m + 14) = f) {g : Nat → Int32} (hs : hp_I h (m + 15) = g) : CC l Z m_X11_told 2 0 0 [.ref m, .int (nI 5)] h (MOk (nI ln) m h) := by
  refine ee_entry hst (by decide +kernel) rfl rfl (by simp [Value.category]) (Nat.le_of_ble_eq_true rfl) ?_
  refine ww_lv (lv2 := [.ref m, .int (nI 5), UU, UU]) rfl ?_
  refine ww_aload_n dX11_told_0 rfl rfl ?_
  refine ww_iconst (v := nI 0) dX11_told_1 (by decide) ?_
  refine ww_pfI tyX11 0 dX11_told_2 hM.K0 rfl (by decide) inX11 tyX11_ok nmX11 wg_1240 rfl rfl ?_
  refine ww_aload_n dX11_told_5 rfl rfl ?_
  refine ww_iload_n dX11_told_6 rfl rfl ?_
  refine ww_iconst (v := nI 0) dX11_told_7 (by decide) ?_
  refine ww_bipush (v := nI 7) dX11_told_8 (by decide) ?_
  refine ww_cSr (M := m_X11_told) (pc := 10) (v := .int (nI 1)) (h1 := hp_sF h m 0 (.int (nI 0))) (st := [.ref m]) (bc := 0) (bs := 0) (c_M_within_t hst (nI 5) (nI 0) (nI 7) (by decide) (by decide) _) vv_X11_within dX11_told_10 wg_1601 rfl rfl rfl (Nat.le_of_ble_eq_true rfl) (Nat.le_of_ble_eq_true rfl) (Nat.le_of_ble_eq_true rfl) (Nat.le_of_ble_eq_true rfl) ?_
  refine ww_iconst (v := nI 1) dX11_told_13 (by decide) ?_
  refine ww_iconst (v := nI 1) dX11_told_14 (by decide) ?_
  refine ww_cVr (M := m_X11_told) (pc := 15) (v := .int (nI 1)) (h1 := hp_sF h m 0 (.int (nI 0))) (st := []) (bc := 0) (bs := 0) (c_M_may_t hst (h := hp_sF h m 0 (.int (nI 0))) (ModS.sF hM (by decide)) (hp_F_eq _ _ _ _) (nI 1) (nI 1)) vv_X11_may dX11_told_15 wg_1413 hM.K0 rfl rfl rfl rfl (Nat.le_of_ble_eq_true rfl) (Nat.le_of_ble_eq_true rfl) (Nat.le_of_ble_eq_true rfl) (Nat.le_of_ble_eq_true rfl) ?_
  refine ww_if_neN (tgt := 23) dX11_told_18 (by decide) (by omega) (fun c18 => ?_) (fun c18 => ?_)
  · refine ww_aload_n dX11_told_23 rfl rfl ?_
    refine ww_cV0 (M := m_X11_told) (pc := 24) (h1 := hp_sI (hp_sF h m 0 (.int (nI 0))) (m + 15) (cpF f g 190)) (st := []) (bc := 0) (bs := 0) (c_M_take hst (h := hp_sF h m 0 (.int (nI 0))) (ModS.sF hM (by decide)) hf hs) vv_X11_take dX11_told_24 wg_1539 hM.K0 rfl rfl rfl rfl (Nat.le_of_ble_eq_true rfl) (Nat.le_of_ble_eq_true rfl) (Nat.le_of_ble_eq_true rfl) (Nat.le_of_ble_eq_true rfl) ?_
    refine ww_iload_n dX11_told_27 rfl rfl ?_
    refine ww_iconst (v := nI 3) dX11_told_28 (by decide) ?_
    refine ww_icmp_geN (tgt := 64) dX11_told_29 (by decide) (by omega) (by omega) (fun c29 => ?_) (fun c29 => ?_)
    · refine ww_iload_n dX11_told_64 rfl rfl ?_
      refine ww_iconst (v := nI 4) dX11_told_65 (by decide) ?_
      refine ww_icmp_leN (tgt := 102) dX11_told_66 (by decide) (by omega) (by omega) (fun c66 => ?_) (fun c66 => ?_)
      · exact absurd c66 (by decide)
      · refine ww_iload_n dX11_told_69 rfl rfl ?_
        refine ww_iconst (v := nI 5) dX11_told_70 (by decide) ?_
        refine ww_icmp_neN (tgt := 81) dX11_told_71 (by decide) (by omega) (by omega) (fun c71 => ?_) (fun c71 => ?_)
        · exact absurd c71 (by decide)
        · refine ww_aload_n dX11_told_74 rfl rfl ?_
          refine ww_get 38 dX11_told_75 hM.K0 rfl (by decide) inX11 wg_1278 (hp_F_nj (by decide) hln) ?_
          refine ww_goto (tgt := 101) dX11_told_78 (by decide) ?_
          exact ww_iret dX11_told_101 rfl ⟨rfl, ((Same.rf.sF (SY0 m)).sI (SX15 m)), (hp_F_eq _ _ _ _)⟩
    · exact absurd c29 (by decide)
  · exact absurd c18 (by decide)
set_option maxHeartbeats 4000000 in
set_option maxRecDepth 100000 in
theorem c_M_told6 {l : Launch} {Z : EE} (hst : l.stackTraces = false) {h : PH} {m : Nat} (hM : ModS h m) {np : Nat} (hnp : hp_F h m 15 = .int (nI np)) (h6 : np ≤ 6) {du ln : Nat} {rs : Int32} (hdu : hp_F h m 16 = .int (nI du)) (hln : hp_F h m 38 = .int (nI ln)) (hrs : hp_F h m 29 = .int rs) {f : Nat → Int32} (hf : hp_I h (m + 14) = f) {g : Nat → Int32} (hs : hp_I h (m + 15) = g) : CC l Z m_X11_told 2 0 0 [.ref m, .int (nI 6)] h (MOk (rs) m h) := by
  refine ee_entry hst (by decide +kernel) rfl rfl (by simp [Value.category]) (Nat.le_of_ble_eq_true rfl) ?_
  refine ww_lv (lv2 := [.ref m, .int (nI 6), UU, UU]) rfl ?_
  refine ww_aload_n dX11_told_0 rfl rfl ?_
  refine ww_iconst (v := nI 0) dX11_told_1 (by decide) ?_
  refine ww_pfI tyX11 0 dX11_told_2 hM.K0 rfl (by decide) inX11 tyX11_ok nmX11 wg_1240 rfl rfl ?_
  refine ww_aload_n dX11_told_5 rfl rfl ?_
  refine ww_iload_n dX11_told_6 rfl rfl ?_
  refine ww_iconst (v := nI 0) dX11_told_7 (by decide) ?_
  refine ww_bipush (v := nI 7) dX11_told_8 (by decide) ?_
  refine ww_cSr (M := m_X11_told) (pc := 10) (v := .int (nI 1)) (h1 := hp_sF h m 0 (.int (nI 0))) (st := [.ref m]) (bc := 0) (bs := 0) (c_M_within_t hst (nI 6) (nI 0) (nI 7) (by decide) (by decide) _) vv_X11_within dX11_told_10 wg_1601 rfl rfl rfl (Nat.le_of_ble_eq_true rfl) (Nat.le_of_ble_eq_true rfl) (Nat.le_of_ble_eq_true rfl) (Nat.le_of_ble_eq_true rfl) ?_
  refine ww_iconst (v := nI 1) dX11_told_13 (by decide) ?_
  refine ww_iconst (v := nI 1) dX11_told_14 (by decide) ?_
  refine ww_cVr (M := m_X11_told) (pc := 15) (v := .int (nI 1)) (h1 := hp_sF h m 0 (.int (nI 0))) (st := []) (bc := 0) (bs := 0) (c_M_may_t hst (h := hp_sF h m 0 (.int (nI 0))) (ModS.sF hM (by decide)) (hp_F_eq _ _ _ _) (nI 1) (nI 1)) vv_X11_may dX11_told_15 wg_1413 hM.K0 rfl rfl rfl rfl (Nat.le_of_ble_eq_true rfl) (Nat.le_of_ble_eq_true rfl) (Nat.le_of_ble_eq_true rfl) (Nat.le_of_ble_eq_true rfl) ?_
  refine ww_if_neN (tgt := 23) dX11_told_18 (by decide) (by omega) (fun c18 => ?_) (fun c18 => ?_)
  · refine ww_aload_n dX11_told_23 rfl rfl ?_
    refine ww_cV0 (M := m_X11_told) (pc := 24) (h1 := hp_sI (hp_sF h m 0 (.int (nI 0))) (m + 15) (cpF f g 190)) (st := []) (bc := 0) (bs := 0) (c_M_take hst (h := hp_sF h m 0 (.int (nI 0))) (ModS.sF hM (by decide)) hf hs) vv_X11_take dX11_told_24 wg_1539 hM.K0 rfl rfl rfl rfl (Nat.le_of_ble_eq_true rfl) (Nat.le_of_ble_eq_true rfl) (Nat.le_of_ble_eq_true rfl) (Nat.le_of_ble_eq_true rfl) ?_
    refine ww_iload_n dX11_told_27 rfl rfl ?_
    refine ww_iconst (v := nI 3) dX11_told_28 (by decide) ?_
    refine ww_icmp_geN (tgt := 64) dX11_told_29 (by decide) (by omega) (by omega) (fun c29 => ?_) (fun c29 => ?_)
    · refine ww_iload_n dX11_told_64 rfl rfl ?_
      refine ww_iconst (v := nI 4) dX11_told_65 (by decide) ?_
      refine ww_icmp_leN (tgt := 102) dX11_told_66 (by decide) (by omega) (by omega) (fun c66 => ?_) (fun c66 => ?_)
      · exact absurd c66 (by decide)
      · refine ww_iload_n dX11_told_69 rfl rfl ?_
        refine ww_iconst (v := nI 5) dX11_told_70 (by decide) ?_
        refine ww_icmp_neN (tgt := 81) dX11_told_71 (by decide) (by omega) (by omega) (fun c71 => ?_) (fun c71 => ?_)
        · refine ww_iload_n dX11_told_81 rfl rfl ?_
          refine ww_bipush (v := nI 6) dX11_told_82 (by decide) ?_
          refine ww_icmp_neN (tgt := 94) dX11_told_84 (by decide) (by omega) (by omega) (fun c84 => ?_) (fun c84 => ?_)
          · exact absurd c84 (by decide)
          · refine ww_aload_n dX11_told_87 rfl rfl ?_
            refine ww_get 29 dX11_told_88 hM.K0 rfl (by decide) inX11 wg_1269 (hp_F_nj (by decide) hrs) ?_
            refine ww_goto (tgt := 101) dX11_told_91 (by decide) ?_
            exact ww_iret dX11_told_101 rfl ⟨rfl, ((Same.rf.sF (SY0 m)).sI (SX15 m)), (hp_F_eq _ _ _ _)⟩
        · exact absurd c71 (by decide)
    · exact absurd c29 (by decide)
  · exact absurd c18 (by decide)
set_option maxHeartbeats 4000000 in
set_option maxRecDepth 100000 in
theorem c_M_told7 {l : Launch} {Z : EE} (hst : l.stackTraces = false) {h : PH} {m : Nat} (hM : ModS h m) {np : Nat} (hnp : hp_F h m 15 = .int (nI np)) (h6 : np ≤ 6) {du ln : Nat} {rs : Int32} (hdu : hp_F h m 16 = .int (nI du)) (hln : hp_F h m 38 = .int (nI ln)) (hrs : hp_F h m 29 = .int rs) {f : Nat → Int32} (hf : hp_I h (m + 14) = f) {g : Nat → Int32} (hs : hp_I h (m + 15) = g) : CC l Z m_X11_told 2 0 0 [.ref m, .int (nI 7)] h (MOk (smI (fun i => f (183 + i)) np) m h) := by
  refine ee_entry hst (by decide +kernel) rfl rfl (by simp [Value.category]) (Nat.le_of_ble_eq_true rfl) ?_
  refine ww_lv (lv2 := [.ref m, .int (nI 7), UU, UU]) rfl ?_
  refine ww_aload_n dX11_told_0 rfl rfl ?_
  refine ww_iconst (v := nI 0) dX11_told_1 (by decide) ?_
  refine ww_pfI tyX11 0 dX11_told_2 hM.K0 rfl (by decide) inX11 tyX11_ok nmX11 wg_1240 rfl rfl ?_
  refine ww_aload_n dX11_told_5 rfl rfl ?_
  refine ww_iload_n dX11_told_6 rfl rfl ?_
  refine ww_iconst (v := nI 0) dX11_told_7 (by decide) ?_
  refine ww_bipush (v := nI 7) dX11_told_8 (by decide) ?_
  refine ww_cSr (M := m_X11_told) (pc := 10) (v := .int (nI 1)) (h1 := hp_sF h m 0 (.int (nI 0))) (st := [.ref m]) (bc := 0) (bs := 0) (c_M_within_t hst (nI 7) (nI 0) (nI 7) (by decide) (by decide) _) vv_X11_within dX11_told_10 wg_1601 rfl rfl rfl (Nat.le_of_ble_eq_true rfl) (Nat.le_of_ble_eq_true rfl) (Nat.le_of_ble_eq_true rfl) (Nat.le_of_ble_eq_true rfl) ?_
  refine ww_iconst (v := nI 1) dX11_told_13 (by decide) ?_
  refine ww_iconst (v := nI 1) dX11_told_14 (by decide) ?_
  refine ww_cVr (M := m_X11_told) (pc := 15) (v := .int (nI 1)) (h1 := hp_sF h m 0 (.int (nI 0))) (st := []) (bc := 0) (bs := 0) (c_M_may_t hst (h := hp_sF h m 0 (.int (nI 0))) (ModS.sF hM (by decide)) (hp_F_eq _ _ _ _) (nI 1) (nI 1)) vv_X11_may dX11_told_15 wg_1413 hM.K0 rfl rfl rfl rfl (Nat.le_of_ble_eq_true rfl) (Nat.le_of_ble_eq_true rfl) (Nat.le_of_ble_eq_true rfl) (Nat.le_of_ble_eq_true rfl) ?_
  refine ww_if_neN (tgt := 23) dX11_told_18 (by decide) (by omega) (fun c18 => ?_) (fun c18 => ?_)
  · refine ww_aload_n dX11_told_23 rfl rfl ?_
    refine ww_cV0 (M := m_X11_told) (pc := 24) (h1 := hp_sI (hp_sF h m 0 (.int (nI 0))) (m + 15) (cpF f g 190)) (st := []) (bc := 0) (bs := 0) (c_M_take hst (h := hp_sF h m 0 (.int (nI 0))) (ModS.sF hM (by decide)) hf hs) vv_X11_take dX11_told_24 wg_1539 hM.K0 rfl rfl rfl rfl (Nat.le_of_ble_eq_true rfl) (Nat.le_of_ble_eq_true rfl) (Nat.le_of_ble_eq_true rfl) (Nat.le_of_ble_eq_true rfl) ?_
    refine ww_iload_n dX11_told_27 rfl rfl ?_
    refine ww_iconst (v := nI 3) dX11_told_28 (by decide) ?_
    refine ww_icmp_geN (tgt := 64) dX11_told_29 (by decide) (by omega) (by omega) (fun c29 => ?_) (fun c29 => ?_)
    · refine ww_iload_n dX11_told_64 rfl rfl ?_
      refine ww_iconst (v := nI 4) dX11_told_65 (by decide) ?_
      refine ww_icmp_leN (tgt := 102) dX11_told_66 (by decide) (by omega) (by omega) (fun c66 => ?_) (fun c66 => ?_)
      · exact absurd c66 (by decide)
      · refine ww_iload_n dX11_told_69 rfl rfl ?_
        refine ww_iconst (v := nI 5) dX11_told_70 (by decide) ?_
        refine ww_icmp_neN (tgt := 81) dX11_told_71 (by decide) (by omega) (by omega) (fun c71 => ?_) (fun c71 => ?_)
        · refine ww_iload_n dX11_told_81 rfl rfl ?_
          refine ww_bipush (v := nI 6) dX11_told_82 (by decide) ?_
          refine ww_icmp_neN (tgt := 94) dX11_told_84 (by decide) (by omega) (by omega) (fun c84 => ?_) (fun c84 => ?_)
          · refine ww_aload_n dX11_told_94 rfl rfl ?_
            refine ww_sipush (v := nI 183) dX11_told_95 (by decide) ?_
            refine ww_cVr (M := m_X11_told) (pc := 98) (v := .int (smI (fun i => (cpF f g 190) (183 + i)) np)) (h1 := hp_sI (hp_sF h m 0 (.int (nI 0))) (m + 15) (cpF f g 190)) (st := []) (bc := 0) (bs := 0) (c_M_coinsOf hst (h := hp_sI (hp_sF h m 0 (.int (nI 0))) (m + 15) (cpF f g 190)) (ModS.sF hM (by decide)) (hp_F_nj (by decide) hnp) h6 (hp_I_eq _ _ _)) vv_X11_coinsOf dX11_told_98 wg_1604 hM.K0 rfl rfl rfl rfl (Nat.le_of_ble_eq_true rfl) (Nat.le_of_ble_eq_true rfl) (Nat.le_of_ble_eq_true rfl) (Nat.le_of_ble_eq_true rfl) ?_
            exact ww_iret dX11_told_101 rfl ⟨by rw [smI_congr np (fun i hi => cpF_in (by omega))], ((Same.rf.sF (SY0 m)).sI (SX15 m)), (hp_F_eq _ _ _ _)⟩
          · exact absurd c84 (by decide)
        · exact absurd c71 (by decide)
    · exact absurd c29 (by decide)
  · exact absurd c18 (by decide)
set_option maxHeartbeats 4000000 in
set_option maxRecDepth 100000 in
theorem l_M_told4 {l : Launch} {Z : EE} (hst : l.stackTraces = false) {h : PH} {m : Nat} (hM : ModS h m) {g : Nat → Int32} (hs : hp_I h (m + 15) = g) {Post : Res → PH → Prop} : ∀ (j k : Nat), k + j = 61 → WW l Z m_X11_told 2 0 0 155 [.ref m, .int (nI 4), .int (smI (fun n => g (122 + n)) 61), .int (nI 61)] [] h Post → WW l Z m_X11_told 2 0 0 106 [.ref m, .int (nI 4), .int (smI (fun n => g (122 + n)) k), .int (nI k)] [] h Post := by
  intro j
  induction j with
  | zero =>
    intro k hk hexit
    have hk0 : k = 61 := by omega
    subst hk0
    refine ww_iload_n dX11_told_106 rfl rfl ?_
    refine ww_bipush (v := nI 61) dX11_told_107 (by decide) ?_
    refine ww_icmp_geN (tgt := 155) dX11_told_109 (by decide) (by omega) (by omega) (fun c109 => ?_) (fun c109 => ?_)
    · exact hexit
    · exact absurd c109 (by decide)
  | succ j ih =>
    intro k hk hexit
    refine ww_iload_n dX11_told_106 rfl rfl ?_
    refine ww_bipush (v := nI 61) dX11_told_107 (by decide) ?_
    refine ww_icmp_geN (tgt := 155) dX11_told_109 (by decide) (by omega) (by omega) (fun c109 => ?_) (fun c109 => ?_)
    · exfalso; omega
    · refine ww_iload_n dX11_told_112 rfl rfl ?_
      refine ww_iload_n dX11_told_113 rfl rfl ?_
      refine ww_iconst (v := nI 4) dX11_told_114 (by decide) ?_
      refine ww_icmp_neN (tgt := 130) dX11_told_115 (by decide) (by omega) (by omega) (fun c115 => ?_) (fun c115 => ?_)
      · exact absurd c115 (by decide)
      · refine ww_aload_n dX11_told_118 rfl rfl ?_
        refine ww_get 34 dX11_told_119 hM.K0 rfl (by decide) inX11 wg_1274 hM.F15 ?_
        refine ww_bipush (v := nI 122) dX11_told_122 (by decide) ?_
        refine ww_iload_n dX11_told_124 rfl rfl ?_
        refine ww_iaddN dX11_told_125 ?_
        refine ww_ialdF dX11_told_126 hM.K15 hs (by omega) (by omega) ?_
        refine ww_goto (tgt := 147) dX11_told_127 (by decide) ?_
        refine ww_iadd dX11_told_147 ?_
        refine ww_sti_n (lv2 := [.ref m, .int (nI 4), .int ((smI (fun n => g (122 + n)) k) + (g (122 + k))), .int (nI k)]) dX11_told_148 rfl rfl (by decide) rfl ?_
        refine ww_incN (c := 1) (lv2 := [.ref m, .int (nI 4), .int ((smI (fun n => g (122 + n)) k) + (g (122 + k))), .int (nI (k + 1))]) dX11_told_149 rfl rfl rfl (by decide) rfl ?_
        refine ww_goto (tgt := 106) dX11_told_152 (by decide) ?_
        refine ww_lv (lv2 := [.ref m, .int (nI 4), .int (smI (fun n => g (122 + n)) (k + 1)), .int (nI (k + 1))]) (by simp [smI]) ?_
        exact ih (k + 1) (by omega) hexit
set_option maxHeartbeats 4000000 in
set_option maxRecDepth 100000 in
theorem c_M_told4 {l : Launch} {Z : EE} (hst : l.stackTraces = false) {h : PH} {m : Nat} (hM : ModS h m) {np : Nat} (hnp : hp_F h m 15 = .int (nI np)) (h6 : np ≤ 6) {du ln : Nat} {rs : Int32} (hdu : hp_F h m 16 = .int (nI du)) (hln : hp_F h m 38 = .int (nI ln)) (hrs : hp_F h m 29 = .int rs) {f : Nat → Int32} (hf : hp_I h (m + 14) = f) {g : Nat → Int32} (hs : hp_I h (m + 15) = g) : CC l Z m_X11_told 2 0 0 [.ref m, .int (nI 4)] h (MOk (smI (fun n => f (122 + n)) 61) m h) := by
  refine ee_entry hst (by decide +kernel) rfl rfl (by simp [Value.category]) (Nat.le_of_ble_eq_true rfl) ?_
  refine ww_lv (lv2 := [.ref m, .int (nI 4), UU, UU]) rfl ?_
  refine ww_aload_n dX11_told_0 rfl rfl ?_
  refine ww_iconst (v := nI 0) dX11_told_1 (by decide) ?_
  refine ww_pfI tyX11 0 dX11_told_2 hM.K0 rfl (by decide) inX11 tyX11_ok nmX11 wg_1240 rfl rfl ?_
  refine ww_aload_n dX11_told_5 rfl rfl ?_
  refine ww_iload_n dX11_told_6 rfl rfl ?_
  refine ww_iconst (v := nI 0) dX11_told_7 (by decide) ?_
  refine ww_bipush (v := nI 7) dX11_told_8 (by decide) ?_
  refine ww_cSr (M := m_X11_told) (pc := 10) (v := .int (nI 1)) (h1 := hp_sF h m 0 (.int (nI 0))) (st := [.ref m]) (bc := 0) (bs := 0) (c_M_within_t hst (nI 4) (nI 0) (nI 7) (by decide) (by decide) _) vv_X11_within dX11_told_10 wg_1601 rfl rfl rfl (Nat.le_of_ble_eq_true rfl) (Nat.le_of_ble_eq_true rfl) (Nat.le_of_ble_eq_true rfl) (Nat.le_of_ble_eq_true rfl) ?_
  refine ww_iconst (v := nI 1) dX11_told_13 (by decide) ?_
  refine ww_iconst (v := nI 1) dX11_told_14 (by decide) ?_
  refine ww_cVr (M := m_X11_told) (pc := 15) (v := .int (nI 1)) (h1 := hp_sF h m 0 (.int (nI 0))) (st := []) (bc := 0) (bs := 0) (c_M_may_t hst (h := hp_sF h m 0 (.int (nI 0))) (ModS.sF hM (by decide)) (hp_F_eq _ _ _ _) (nI 1) (nI 1)) vv_X11_may dX11_told_15 wg_1413 hM.K0 rfl rfl rfl rfl (Nat.le_of_ble_eq_true rfl) (Nat.le_of_ble_eq_true rfl) (Nat.le_of_ble_eq_true rfl) (Nat.le_of_ble_eq_true rfl) ?_
  refine ww_if_neN (tgt := 23) dX11_told_18 (by decide) (by omega) (fun c18 => ?_) (fun c18 => ?_)
  · refine ww_aload_n dX11_told_23 rfl rfl ?_
    refine ww_cV0 (M := m_X11_told) (pc := 24) (h1 := hp_sI (hp_sF h m 0 (.int (nI 0))) (m + 15) (cpF f g 190)) (st := []) (bc := 0) (bs := 0) (c_M_take hst (h := hp_sF h m 0 (.int (nI 0))) (ModS.sF hM (by decide)) hf hs) vv_X11_take dX11_told_24 wg_1539 hM.K0 rfl rfl rfl rfl (Nat.le_of_ble_eq_true rfl) (Nat.le_of_ble_eq_true rfl) (Nat.le_of_ble_eq_true rfl) (Nat.le_of_ble_eq_true rfl) ?_
    refine ww_iload_n dX11_told_27 rfl rfl ?_
    refine ww_iconst (v := nI 3) dX11_told_28 (by decide) ?_
    refine ww_icmp_geN (tgt := 64) dX11_told_29 (by decide) (by omega) (by omega) (fun c29 => ?_) (fun c29 => ?_)
    · refine ww_iload_n dX11_told_64 rfl rfl ?_
      refine ww_iconst (v := nI 4) dX11_told_65 (by decide) ?_
      refine ww_icmp_leN (tgt := 102) dX11_told_66 (by decide) (by omega) (by omega) (fun c66 => ?_) (fun c66 => ?_)
      · refine ww_iconst (v := nI 0) dX11_told_102 (by decide) ?_
        refine ww_sti_n (lv2 := [.ref m, .int (nI 4), .int (nI 0), UU]) dX11_told_103 rfl rfl (by decide) rfl ?_
        refine ww_iconst (v := nI 0) dX11_told_104 (by decide) ?_
        refine ww_sti_n (lv2 := [.ref m, .int (nI 4), .int (nI 0), .int (nI 0)]) dX11_told_105 rfl rfl (by decide) rfl ?_
        refine l_M_told4 hst (h := hp_sI (hp_sF h m 0 (.int (nI 0))) (m + 15) (cpF f g 190)) (ModS.sF hM (by decide)) (hp_I_eq _ _ _) 61 0 rfl ?_
        refine ww_iload_n dX11_told_155 rfl rfl ?_
        exact ww_iret dX11_told_156 rfl ⟨by rw [smI_congr 61 (fun i hi => cpF_in (by omega))], ((Same.rf.sF (SY0 m)).sI (SX15 m)), (hp_F_eq _ _ _ _)⟩
      · exact absurd c66 (by decide)
    · exact absurd c29 (by decide)
  · exact absurd c18 (by decide)
set_option maxHeartbeats 4000000 in
set_option maxRecDepth 100000 in
theorem l_M_told3 {l : Launch} {Z : EE} (hst : l.stackTraces = false) {h : PH} {m : Nat} (hM : ModS h m) {g : Nat → Int32} (hs : hp_I h (m + 15) = g) {Post : Res → PH → Prop} : ∀ (j k : Nat), k + j = 61 → WW l Z m_X11_told 2 0 0 155 [.ref m, .int (nI 3), .int (nI (cnt (fun n => g n != -1) 61)), .int (nI 61)] [] h Post → WW l Z m_X11_told 2 0 0 106 [.ref m, .int (nI 3), .int (nI (cnt (fun n => g n != -1) k)), .int (nI k)] [] h Post := by
  intro j
  induction j with
  | zero =>
    intro k hk hexit
    have hk0 : k = 61 := by omega
    subst hk0
    refine ww_iload_n dX11_told_106 rfl rfl ?_
    refine ww_bipush (v := nI 61) dX11_told_107 (by decide) ?_
    refine ww_icmp_geN (tgt := 155) dX11_told_109 (by decide) (by omega) (by omega) (fun c109 => ?_) (fun c109 => ?_)
    · exact hexit
    · exact absurd c109 (by decide)
  | succ j ih =>
    intro k hk hexit
    refine ww_iload_n dX11_told_106 rfl rfl ?_
    refine ww_bipush (v := nI 61) dX11_told_107 (by decide) ?_
    refine ww_icmp_geN (tgt := 155) dX11_told_109 (by decide) (by omega) (by omega) (fun c109 => ?_) (fun c109 => ?_)
    · exfalso; omega
    · refine ww_iload_n dX11_told_112 rfl rfl ?_
      refine ww_iload_n dX11_told_113 rfl rfl ?_
      refine ww_iconst (v := nI 4) dX11_told_114 (by decide) ?_
      refine ww_icmp_neN (tgt := 130) dX11_told_115 (by decide) (by omega) (by omega) (fun c115 => ?_) (fun c115 => ?_)
      · refine ww_aload_n dX11_told_130 rfl rfl ?_
        refine ww_get 34 dX11_told_131 hM.K0 rfl (by decide) inX11 wg_1274 hM.F15 ?_
        refine ww_iconst (v := nI 0) dX11_told_134 (by decide) ?_
        refine ww_iload_n dX11_told_135 rfl rfl ?_
        refine ww_iadd0 dX11_told_136 ?_
        refine ww_ialdF dX11_told_137 hM.K15 hs (by omega) (by omega) ?_
        refine ww_iconst (v := -1) dX11_told_138 (by decide) ?_
        refine ww_icmp_ne (tgt := 146) dX11_told_139 (by decide) (fun c139 => ?_) (fun c139 => ?_)
        · refine ww_iconst (v := nI 1) dX11_told_146 (by decide) ?_
          refine ww_iaddN dX11_told_147 ?_
          refine ww_sti_n (lv2 := [.ref m, .int (nI 3), .int (nI ((cnt (fun n => g n != -1) k) + 1)), .int (nI k)]) dX11_told_148 rfl rfl (by decide) rfl ?_
          refine ww_incN (c := 1) (lv2 := [.ref m, .int (nI 3), .int (nI ((cnt (fun n => g n != -1) k) + 1)), .int (nI (k + 1))]) dX11_told_149 rfl rfl rfl (by decide) rfl ?_
          refine ww_goto (tgt := 106) dX11_told_152 (by decide) ?_
          refine ww_lv (lv2 := [.ref m, .int (nI 3), .int (nI (cnt (fun n => g n != -1) (k + 1))), .int (nI (k + 1))]) (by simp [cnt, c139]) ?_
          exact ih (k + 1) (by omega) hexit
        · refine ww_iconst (v := nI 0) dX11_told_142 (by decide) ?_
          refine ww_goto (tgt := 147) dX11_told_143 (by decide) ?_
          refine ww_iaddN dX11_told_147 ?_
          refine ww_sti_n (lv2 := [.ref m, .int (nI 3), .int (nI ((cnt (fun n => g n != -1) k) + 0)), .int (nI k)]) dX11_told_148 rfl rfl (by decide) rfl ?_
          refine ww_incN (c := 1) (lv2 := [.ref m, .int (nI 3), .int (nI ((cnt (fun n => g n != -1) k) + 0)), .int (nI (k + 1))]) dX11_told_149 rfl rfl rfl (by decide) rfl ?_
          refine ww_goto (tgt := 106) dX11_told_152 (by decide) ?_
          refine ww_lv (lv2 := [.ref m, .int (nI 3), .int (nI (cnt (fun n => g n != -1) (k + 1))), .int (nI (k + 1))]) (by simp [cnt, c139]) ?_
          exact ih (k + 1) (by omega) hexit
      · exact absurd c115 (by decide)
set_option maxHeartbeats 4000000 in
set_option maxRecDepth 100000 in
theorem c_M_told3 {l : Launch} {Z : EE} (hst : l.stackTraces = false) {h : PH} {m : Nat} (hM : ModS h m) {np : Nat} (hnp : hp_F h m 15 = .int (nI np)) (h6 : np ≤ 6) {du ln : Nat} {rs : Int32} (hdu : hp_F h m 16 = .int (nI du)) (hln : hp_F h m 38 = .int (nI ln)) (hrs : hp_F h m 29 = .int rs) {f : Nat → Int32} (hf : hp_I h (m + 14) = f) {g : Nat → Int32} (hs : hp_I h (m + 15) = g) : CC l Z m_X11_told 2 0 0 [.ref m, .int (nI 3)] h (MOk (nI (cnt (fun n => f n != -1) 61)) m h) := by
  refine ee_entry hst (by decide +kernel) rfl rfl (by simp [Value.category]) (Nat.le_of_ble_eq_true rfl) ?_
  refine ww_lv (lv2 := [.ref m, .int (nI 3), UU, UU]) rfl ?_
  refine ww_aload_n dX11_told_0 rfl rfl ?_
  refine ww_iconst (v := nI 0) dX11_told_1 (by decide) ?_
  refine ww_pfI tyX11 0 dX11_told_2 hM.K0 rfl (by decide) inX11 tyX11_ok nmX11 wg_1240 rfl rfl ?_
  refine ww_aload_n dX11_told_5 rfl rfl ?_
  refine ww_iload_n dX11_told_6 rfl rfl ?_
  refine ww_iconst (v := nI 0) dX11_told_7 (by decide) ?_
  refine ww_bipush (v := nI 7) dX11_told_8 (by decide) ?_
  refine ww_cSr (M := m_X11_told) (pc := 10) (v := .int (nI 1)) (h1 := hp_sF h m 0 (.int (nI 0))) (st := [.ref m]) (bc := 0) (bs := 0) (c_M_within_t hst (nI 3) (nI 0) (nI 7) (by decide) (by decide) _) vv_X11_within dX11_told_10 wg_1601 rfl rfl rfl (Nat.le_of_ble_eq_true rfl) (Nat.le_of_ble_eq_true rfl) (Nat.le_of_ble_eq_true rfl) (Nat.le_of_ble_eq_true rfl) ?_
  refine ww_iconst (v := nI 1) dX11_told_13 (by decide) ?_
  refine ww_iconst (v := nI 1) dX11_told_14 (by decide) ?_
  refine ww_cVr (M := m_X11_told) (pc := 15) (v := .int (nI 1)) (h1 := hp_sF h m 0 (.int (nI 0))) (st := []) (bc := 0) (bs := 0) (c_M_may_t hst (h := hp_sF h m 0 (.int (nI 0))) (ModS.sF hM (by decide)) (hp_F_eq _ _ _ _) (nI 1) (nI 1)) vv_X11_may dX11_told_15 wg_1413 hM.K0 rfl rfl rfl rfl (Nat.le_of_ble_eq_true rfl) (Nat.le_of_ble_eq_true rfl) (Nat.le_of_ble_eq_true rfl) (Nat.le_of_ble_eq_true rfl) ?_
  refine ww_if_neN (tgt := 23) dX11_told_18 (by decide) (by omega) (fun c18 => ?_) (fun c18 => ?_)
  · refine ww_aload_n dX11_told_23 rfl rfl ?_
    refine ww_cV0 (M := m_X11_told) (pc := 24) (h1 := hp_sI (hp_sF h m 0 (.int (nI 0))) (m + 15) (cpF f g 190)) (st := []) (bc := 0) (bs := 0) (c_M_take hst (h := hp_sF h m 0 (.int (nI 0))) (ModS.sF hM (by decide)) hf hs) vv_X11_take dX11_told_24 wg_1539 hM.K0 rfl rfl rfl rfl (Nat.le_of_ble_eq_true rfl) (Nat.le_of_ble_eq_true rfl) (Nat.le_of_ble_eq_true rfl) (Nat.le_of_ble_eq_true rfl) ?_
    refine ww_iload_n dX11_told_27 rfl rfl ?_
    refine ww_iconst (v := nI 3) dX11_told_28 (by decide) ?_
    refine ww_icmp_geN (tgt := 64) dX11_told_29 (by decide) (by omega) (by omega) (fun c29 => ?_) (fun c29 => ?_)
    · refine ww_iload_n dX11_told_64 rfl rfl ?_
      refine ww_iconst (v := nI 4) dX11_told_65 (by decide) ?_
      refine ww_icmp_leN (tgt := 102) dX11_told_66 (by decide) (by omega) (by omega) (fun c66 => ?_) (fun c66 => ?_)
      · refine ww_iconst (v := nI 0) dX11_told_102 (by decide) ?_
        refine ww_sti_n (lv2 := [.ref m, .int (nI 3), .int (nI 0), UU]) dX11_told_103 rfl rfl (by decide) rfl ?_
        refine ww_iconst (v := nI 0) dX11_told_104 (by decide) ?_
        refine ww_sti_n (lv2 := [.ref m, .int (nI 3), .int (nI 0), .int (nI 0)]) dX11_told_105 rfl rfl (by decide) rfl ?_
        refine l_M_told3 hst (h := hp_sI (hp_sF h m 0 (.int (nI 0))) (m + 15) (cpF f g 190)) (ModS.sF hM (by decide)) (hp_I_eq _ _ _) 61 0 rfl ?_
        refine ww_iload_n dX11_told_155 rfl rfl ?_
        exact ww_iret dX11_told_156 rfl ⟨by rw [cnt_congr 61 (fun i hi => by show (cpF f g 190 i != -1) = (f i != -1); rw [cpF_in (by omega)])], ((Same.rf.sF (SY0 m)).sI (SX15 m)), (hp_F_eq _ _ _ _)⟩
      · exact absurd c66 (by decide)
    · exact absurd c29 (by decide)
  · exact absurd c18 (by decide)
set_option maxHeartbeats 4000000 in
set_option maxRecDepth 100000 in
theorem c_M_told_no0 {l : Launch} {Z : EE} (hst : l.stackTraces = false) {h : PH} {m : Nat} (hM : ModS h m) {np : Nat} (hnp : hp_F h m 15 = .int (nI np)) (h6 : np ≤ 6) {du ln : Nat} {rs : Int32} (hdu : hp_F h m 16 = .int (nI du)) (hln : hp_F h m 38 = .int (nI ln)) (hrs : hp_F h m 29 = .int rs) {f : Nat → Int32} (hf : hp_I h (m + 14) = f) {g : Nat → Int32} (hs : hp_I h (m + 15) = g) (w : Int32) (hout : outR 0 7 w) : CC l Z m_X11_told 2 0 0 [.ref m, .int w] h (MNo 1 1 m h) := by
  refine ee_entry hst (by decide +kernel) rfl rfl (by simp [Value.category]) (Nat.le_of_ble_eq_true rfl) ?_
  refine ww_lv (lv2 := [.ref m, .int w, UU, UU]) rfl ?_
  refine ww_aload_n dX11_told_0 rfl rfl ?_
  refine ww_iconst (v := nI 0) dX11_told_1 (by decide) ?_
  refine ww_pfI tyX11 0 dX11_told_2 hM.K0 rfl (by decide) inX11 tyX11_ok nmX11 wg_1240 rfl rfl ?_
  refine ww_aload_n dX11_told_5 rfl rfl ?_
  refine ww_iload_n dX11_told_6 rfl rfl ?_
  refine ww_iconst (v := nI 0) dX11_told_7 (by decide) ?_
  refine ww_bipush (v := nI 7) dX11_told_8 (by decide) ?_
  refine ww_cSr (M := m_X11_told) (pc := 10) (v := .int (nI 0)) (h1 := hp_sF h m 0 (.int (nI 0))) (st := [.ref m]) (bc := 0) (bs := 0) (c_M_within_f hst w (nI 0) (nI 7) hout _) vv_X11_within dX11_told_10 wg_1601 rfl rfl rfl (Nat.le_of_ble_eq_true rfl) (Nat.le_of_ble_eq_true rfl) (Nat.le_of_ble_eq_true rfl) (Nat.le_of_ble_eq_true rfl) ?_
  refine ww_iconst (v := nI 1) dX11_told_13 (by decide) ?_
  refine ww_iconst (v := nI 1) dX11_told_14 (by decide) ?_
  refine ww_cVr (M := m_X11_told) (pc := 15) (v := .int (nI 0)) (h1 := hp_sI (hp_sF (hp_sF h m 0 (.int (nI 0))) m 0 (.int (nI 1))) (m + 1) (upd (hp_I (hp_sF h m 0 (.int (nI 0))) (m + 1)) 1 (hp_I (hp_sF h m 0 (.int (nI 0))) (m + 1) 1 + nI 1))) (st := []) (bc := 0) (bs := 0) (c_M_may_f hst (h := hp_sF h m 0 (.int (nI 0))) (ModS.sF hM (by decide)) (hp_F_eq _ _ _ _) 1 1 (by decide) (by decide) (by decide)) vv_X11_may dX11_told_15 wg_1413 hM.K0 rfl rfl rfl rfl (Nat.le_of_ble_eq_true rfl) (Nat.le_of_ble_eq_true rfl) (Nat.le_of_ble_eq_true rfl) (Nat.le_of_ble_eq_true rfl) ?_
  refine ww_if_neN (tgt := 23) dX11_told_18 (by decide) (by omega) (fun c18 => ?_) (fun c18 => ?_)
  · exact absurd c18 (by decide)
  · refine ww_iconst (v := nI 0) dX11_told_21 (by decide) ?_
    exact ww_iret dX11_told_22 rfl ⟨rfl, (((Same.rf.sF (SY0 m)).sF (SY0 m)).sI (Or.inr rfl)), (hp_F_eq _ _ _ _), by rw [hp_I_eq]; rfl⟩
