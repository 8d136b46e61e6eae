def yE (sz : Nat) (kf vf : Nat → Int32) (np : Nat) (f : Nat → Int32) (sd : Int32) (us : Nat) : YS := if np = 0 then (f, sd, 0, fun _ => 0) else yF sz kf vf np f sd us
/-- the class's year is over -/
def YD (np du us : Nat) (x : YS) (h h9 : PH) : Prop := Same CX CY h h9 ∧ ∃ g', LandAt h9 43 np du g' ∧ EqR g' x.1 ∧ RowU g' np ∧ hp_F h9 42 3 = .int (nI x.2.2.1) ∧ hp_F h9 42 4 = .int (nI (if np = 0 then 0 else us - x.2.2.1)) ∧ x.2.2.1 ≤ us ∧ ∀ i, i < 61 → hp_I h9 45 i = x.2.2.2 i
theorem c_Yr_done {l : Launch} {Z : EE} (hst : l.stackTraces = false) {h : PH} {la lw bk : Nat} (hC : CL h la lw bk) {np du : Nat} {f : Nat → Int32} (hL : LandAt h la np du f) {sz : Nat} {kf vf : Nat → Int32} (hW : LawAt h lw sz kf vf) (hok : LawOK kf vf sz) {np0 du0 : Nat} {g : Nat → Int32} (hY0 : LandAt h 43 np0 du0 g) (hu : RowU f np) (sd : Int32) (us : Nat) (hus : us ≤ 96) : CC l Z m_X9_live 5 0 0 [.ref 42, .ref la, .ref lw, .int sd, .int (nI us)] h (RQ none (YD np du us (yE sz kf vf np f sd us) h)) := by
  have h6 := hL.2.2.2.2.2.2.1
  refine cc_post (fun r h9 hp => ⟨hp.1, ?_⟩) (c_Yr_live hst hC hL hW hok hY0 hu sd us hus)
  have he : EqR (fun i => if i < 190 then f i else g i) f := fun i hi => if_pos hi
  rcases hp.2 with ⟨e, h1, h2, h3, h4, h5⟩ | ⟨e, h1⟩
  · subst e
    exact ⟨h1, _, h2, he, hu.cg he, h3, h4, Nat.zero_le _, h5⟩
  · have e0 : ¬ np = 0 := by omega
    have e1 : yE sz kf vf np f sd us = yF sz kf vf np f sd us := if_neg e0
    obtain ⟨q1, q2⟩ := yF_eq sz kf vf sd e h6 (hu.cg he) he us
    have hd := yF_dn sz kf vf np (fun i => if i < 190 then f i else g i) sd us
    rw [e1]
    unfold YD
    rw [← q2, if_neg e0]
    have hY := h1.2
    exact ⟨h1.1, _, hY.1, q1, yF_u sz kf vf sd e h6 (hu.cg he) us, hY.2.2.1, hY.2.2.2.1, hd, hY.2.2.2.2⟩
theorem RowU.mn {g : Nat → Int32} {np q : Nat} (h : RowU g np) (hq : q < 6) : mnI (nI 9999) (g (183 + q)) = g (183 + q) := by
  obtain ⟨c, hc, e⟩ := h.2 q hq
  rw [e, mnI_n _ _ (by omega) (by omega), show min 9999 c = c by omega]
set_option maxHeartbeats 4000000 in
set_option maxRecDepth 100000 in
theorem l_Yr_met {l : Launch} {Z : EE} (hst : l.stackTraces = false) {h : PH} (k42 : hp_K h 42 = (9, 5)) (k45 : hp_K h 45 = (22, 61)) (r1 : hp_F h 42 1 = .ref 45) {mt : Nat → Int32} (hmt : hp_I h 45 = mt) {Post : Res → PH → Prop} : ∀ (j k : Nat), k + j = 61 → WW l Z m_X9_numbersMet 0 0 0 28 [.ref 42, .int (nI (cnt (fun i => mt i != 0) 61)), .int (nI 61)] [] h Post → WW l Z m_X9_numbersMet 0 0 0 4 [.ref 42, .int (nI (cnt (fun i => mt i != 0) k)), .int (nI k)] [] h Post := by
  intro j
  induction j with
  | zero =>
    intro k hk hexit
    have hk0 : k = 61 := by omega
    subst hk0
    refine ww_iload_n dX9_numbersMet_4 rfl rfl ?_
    refine ww_bipush (v := nI 60) dX9_numbersMet_5 (by decide) ?_
    refine ww_icmp_gtN (tgt := 28) dX9_numbersMet_7 (by decide) (by omega) (by omega) (fun c7 => ?_) (fun c7 => ?_)
    · exact hexit
    · exfalso; omega
  | succ j ih =>
    intro k hk hexit
    refine ww_iload_n dX9_numbersMet_4 rfl rfl ?_
    refine ww_bipush (v := nI 60) dX9_numbersMet_5 (by decide) ?_
    refine ww_icmp_gtN (tgt := 28) dX9_numbersMet_7 (by decide) (by omega) (by omega) (fun c7 => ?_) (fun c7 => ?_)
    · exfalso; omega
    · refine ww_aload_n dX9_numbersMet_10 rfl rfl ?_
      refine ww_get 1 dX9_numbersMet_11 k42 rfl (by decide) inX9 wg_247 r1 ?_
      refine ww_iload_n dX9_numbersMet_14 rfl rfl ?_
      refine ww_zaldF dX9_numbersMet_15 k45 hmt (by omega) (by omega) ?_
      refine ww_if_eq (tgt := 22) dX9_numbersMet_16 (by decide) (fun c16 => ?_) (fun c16 => ?_)
      · refine ww_incN (c := 1) (lv2 := [.ref 42, .int (nI (cnt (fun i => mt i != 0) k)), .int (nI (k + 1))]) dX9_numbersMet_22 rfl rfl rfl (by decide) rfl ?_
        refine ww_goto (tgt := 4) dX9_numbersMet_25 (by decide) ?_
        refine ww_lv (lv2 := [.ref 42, .int (nI (cnt (fun i => mt i != 0) (k + 1))), .int (nI (k + 1))]) (by simp [cnt, c16]) ?_
        exact ih (k + 1) (by omega) hexit
      · refine ww_incN (c := 1) (lv2 := [.ref 42, .int (nI (cnt (fun i => mt i != 0) k + 1)), .int (nI k)]) dX9_numbersMet_19 rfl rfl rfl (by decide) rfl ?_
        refine ww_incN (c := 1) (lv2 := [.ref 42, .int (nI (cnt (fun i => mt i != 0) k + 1)), .int (nI (k + 1))]) dX9_numbersMet_22 rfl rfl rfl (by decide) rfl ?_
        refine ww_goto (tgt := 4) dX9_numbersMet_25 (by decide) ?_
        refine ww_lv (lv2 := [.ref 42, .int (nI (cnt (fun i => mt i != 0) (k + 1))), .int (nI (k + 1))]) (by simp [cnt, c16]) ?_
        exact ih (k + 1) (by omega) hexit
set_option maxHeartbeats 4000000 in
set_option maxRecDepth 100000 in
theorem c_Yr_met {l : Launch} {Z : EE} (hst : l.stackTraces = false) {h : PH} (k42 : hp_K h 42 = (9, 5)) (k45 : hp_K h 45 = (22, 61)) (r1 : hp_F h 42 1 = .ref 45) {mt : Nat → Int32} (hmt : hp_I h 45 = mt) : CC l Z m_X9_numbersMet 0 0 0 [.ref 42] h (RT (some (.int (nI (cnt (fun i => mt i != 0) 61)))) h) := by
  refine ee_entry hst (by decide +kernel) rfl rfl (by simp [Value.category]) (Nat.le_of_ble_eq_true rfl) ?_
  refine ww_lv (lv2 := [.ref 42, UU, UU]) rfl ?_
  refine ww_iconst (v := nI 0) dX9_numbersMet_0 (by decide) ?_
  refine ww_sti_n (lv2 := [.ref 42, .int (nI 0), UU]) dX9_numbersMet_1 rfl rfl (by decide) rfl ?_
  refine ww_iconst (v := nI 0) dX9_numbersMet_2 (by decide) ?_
  refine ww_sti_n (lv2 := [.ref 42, .int (nI 0), .int (nI 0)]) dX9_numbersMet_3 rfl rfl (by decide) rfl ?_
  refine l_Yr_met hst k42 k45 r1 hmt 61 0 rfl ?_
  refine ww_iload_n dX9_numbersMet_28 rfl rfl ?_
  exact ww_iret dX9_numbersMet_29 rfl ⟨rfl, rfl⟩
set_option maxHeartbeats 4000000 in
set_option maxRecDepth 100000 in
theorem c_K_year0 {l : Launch} {Z : EE} (hst : l.stackTraces = false) {h : PH} {la lw bk : Nat} (hC : CL h la lw bk) {np du : Nat} {f : Nat → Int32} (hL : LandAt h la np du f) {sz : Nat} {kf vf : Nat → Int32} (hW : LawAt h lw sz kf vf) (hok : LawOK kf vf sz) {np0 du0 : Nat} {g : Nat → Int32} (hY0 : LandAt h 43 np0 du0 g) (hu : RowU f np) (sd : Int32) (us : Nat) (lus : 1 ≤ us) (hus : us ≤ 96) : CC l Z m_X10_year 6 0 0 [.ref 0, .int sd, .int (nI us), .int (nI 0)] h (COk (nI (yE sz kf vf np f sd us).2.2.1) h) := by
  refine ee_entry hst (by decide +kernel) rfl rfl (by simp [Value.category]) (Nat.le_of_ble_eq_true rfl) ?_
  refine ww_lv (lv2 := [.ref 0, .int sd, .int (nI us), .int (nI 0)]) rfl ?_
  have hla := hC.la
  have hlw := hC.lw
  have hbk := hC.bk
  refine ww_aload_n dX10_year_0 rfl rfl ?_
  refine ww_iload_n dX10_year_1 rfl rfl ?_
  refine ww_iconst (v := nI 1) dX10_year_2 (by decide) ?_
  refine ww_bipush (v := nI 96) dX10_year_3 (by decide) ?_
  refine ww_cV0 (M := m_X10_year) (pc := 5) (h1 := h) (st := []) (d := 6) (bc := 0) (bs := 0) (c_within_t hst (nI us) (nI 1) (nI 96) (nI_le (by omega) (by omega)) (nI_le (by omega) (by omega)) _) vv_X10_within dX10_year_5 wg_410 (hC.K0) rfl rfl rfl rfl (Nat.le_of_ble_eq_true rfl) (Nat.le_of_ble_eq_true rfl) (Nat.le_of_ble_eq_true rfl) (Nat.le_of_ble_eq_true rfl) ?_
  refine ww_aload_n dX10_year_8 rfl rfl ?_
  refine ww_iload_n dX10_year_9 rfl rfl ?_
  refine ww_iconst (v := nI 0) dX10_year_10 (by decide) ?_
  refine ww_iconst (v := nI 3) dX10_year_11 (by decide) ?_
  refine ww_cV0 (M := m_X10_year) (pc := 12) (h1 := h) (st := []) (d := 6) (bc := 0) (bs := 0) (c_within_t hst (nI 0) (nI 0) (nI 3) (by decide) (by decide) _) vv_X10_within dX10_year_12 wg_410 (hC.K0) rfl rfl rfl rfl (Nat.le_of_ble_eq_true rfl) (Nat.le_of_ble_eq_true rfl) (Nat.le_of_ble_eq_true rfl) (Nat.le_of_ble_eq_true rfl) ?_
  refine ww_aload_n dX10_year_15 rfl rfl ?_
  refine ww_get 18 dX10_year_16 (hC.K0) rfl (by decide) inX10 wg_282 (hC.R0_18) ?_
  refine ww_aload_n dX10_year_19 rfl rfl ?_
  refine ww_get 1 dX10_year_20 (hC.K0) rfl (by decide) inX10 wg_265 hC.D1 ?_
  refine ww_aload_n dX10_year_23 rfl rfl ?_
  refine ww_get 3 dX10_year_24 (hC.K0) rfl (by decide) inX10 wg_267 hC.D3 ?_
  refine ww_iload_n dX10_year_27 rfl rfl ?_
  refine ww_iload_n dX10_year_28 rfl rfl ?_
  refine ww_cVq0 (M := m_X10_year) (pc := 29) (st := []) (d := 6) (bc := 0) (bs := 0) (c_Yr_done hst hC hL hW hok hY0 hu sd us (by omega)) vv_X9_live dX10_year_29 wg_1184 (hC.K42) rfl rfl rfl rfl (Nat.le_of_ble_eq_true rfl) (Nat.le_of_ble_eq_true rfl) (Nat.le_of_ble_eq_true rfl) (Nat.le_of_ble_eq_true rfl) (fun hq1 qq1 => ?_)
  obtain ⟨t1, g9, y1, y2, yu, y3, y4, y5, y6⟩ := qq1
  have hC1 := hC.scr t1
  have h6 := hL.2.2.2.2.2.2.1
  refine ww_iload_n dX10_year_32 rfl rfl ?_
  refine ww_tableIn (off := 27) (tgt := 60) dX10_year_33 (by decide) (by decide) (by decide) (by decide) ?_
  refine ww_aload_n dX10_year_60 rfl rfl ?_
  refine ww_get 18 dX10_year_61 (hC1.K0) rfl (by decide) inX10 wg_282 (hC1.R0_18) ?_
  refine ww_getN 3 dX10_year_64 (hC1.K42) rfl (by decide) inX9 wn_250 y3 ?_
  exact ww_iret dX10_year_67 rfl ⟨rfl, t1⟩
set_option maxHeartbeats 4000000 in
set_option maxRecDepth 100000 in
theorem c_K_year1 {l : Launch} {Z : EE} (hst : l.stackTraces = false) {h : PH} {la lw bk : Nat} (hC : CL h la lw bk) {np du : Nat} {f : Nat → Int32} (hL : LandAt h la np du f) {sz : Nat} {kf vf : Nat → Int32} (hW : LawAt h lw sz kf vf) (hok : LawOK kf vf sz) {np0 du0 : Nat} {g : Nat → Int32} (hY0 : LandAt h 43 np0 du0 g) (hu : RowU f np) (sd : Int32) (us : Nat) (lus : 1 ≤ us) (hus : us ≤ 96) : CC l Z m_X10_year 6 0 0 [.ref 0, .int sd, .int (nI us), .int (nI 1)] h (COk (smI (fun q => (yE sz kf vf np f sd us).1 (183 + q)) np) h) := by
  refine ee_entry hst (by decide +kernel) rfl rfl (by simp [Value.category]) (Nat.le_of_ble_eq_true rfl) ?_
  refine ww_lv (lv2 := [.ref 0, .int sd, .int (nI us), .int (nI 1)]) rfl ?_
  have hla := hC.la
  have hlw := hC.lw
  have hbk := hC.bk
  refine ww_aload_n dX10_year_0 rfl rfl ?_
  refine ww_iload_n dX10_year_1 rfl rfl ?_
  refine ww_iconst (v := nI 1) dX10_year_2 (by decide) ?_
  refine ww_bipush (v := nI 96) dX10_year_3 (by decide) ?_
  refine ww_cV0 (M := m_X10_year) (pc := 5) (h1 := h) (st := []) (d := 6) (bc := 0) (bs := 0) (c_within_t hst (nI us) (nI 1) (nI 96) (nI_le (by omega) (by omega)) (nI_le (by omega) (by omega)) _) vv_X10_within dX10_year_5 wg_410 (hC.K0) rfl rfl rfl rfl (Nat.le_of_ble_eq_true rfl) (Nat.le_of_ble_eq_true rfl) (Nat.le_of_ble_eq_true rfl) (Nat.le_of_ble_eq_true rfl) ?_
  refine ww_aload_n dX10_year_8 rfl rfl ?_
  refine ww_iload_n dX10_year_9 rfl rfl ?_
  refine ww_iconst (v := nI 0) dX10_year_10 (by decide) ?_
  refine ww_iconst (v := nI 3) dX10_year_11 (by decide) ?_
  refine ww_cV0 (M := m_X10_year) (pc := 12) (h1 := h) (st := []) (d := 6) (bc := 0) (bs := 0) (c_within_t hst (nI 1) (nI 0) (nI 3) (by decide) (by decide) _) vv_X10_within dX10_year_12 wg_410 (hC.K0) rfl rfl rfl rfl (Nat.le_of_ble_eq_true rfl) (Nat.le_of_ble_eq_true rfl) (Nat.le_of_ble_eq_true rfl) (Nat.le_of_ble_eq_true rfl) ?_
  refine ww_aload_n dX10_year_15 rfl rfl ?_
  refine ww_get 18 dX10_year_16 (hC.K0) rfl (by decide) inX10 wg_282 (hC.R0_18) ?_
  refine ww_aload_n dX10_year_19 rfl rfl ?_
  refine ww_get 1 dX10_year_20 (hC.K0) rfl (by decide) inX10 wg_265 hC.D1 ?_
  refine ww_aload_n dX10_year_23 rfl rfl ?_
  refine ww_get 3 dX10_year_24 (hC.K0) rfl (by decide) inX10 wg_267 hC.D3 ?_
  refine ww_iload_n dX10_year_27 rfl rfl ?_
  refine ww_iload_n dX10_year_28 rfl rfl ?_
  refine ww_cVq0 (M := m_X10_year) (pc := 29) (st := []) (d := 6) (bc := 0) (bs := 0) (c_Yr_done hst hC hL hW hok hY0 hu sd us (by omega)) vv_X9_live dX10_year_29 wg_1184 (hC.K42) rfl rfl rfl rfl (Nat.le_of_ble_eq_true rfl) (Nat.le_of_ble_eq_true rfl) (Nat.le_of_ble_eq_true rfl) (Nat.le_of_ble_eq_true rfl) (fun hq1 qq1 => ?_)
  obtain ⟨t1, g9, y1, y2, yu, y3, y4, y5, y6⟩ := qq1
  have hC1 := hC.scr t1
  have h6 := hL.2.2.2.2.2.2.1
  refine ww_iload_n dX10_year_32 rfl rfl ?_
  refine ww_tableIn (off := 35) (tgt := 68) dX10_year_33 (by decide) (by decide) (by decide) (by decide) ?_
  refine ww_aload_n dX10_year_68 rfl rfl ?_
  refine ww_get 18 dX10_year_69 (hC1.K0) rfl (by decide) inX10 wg_282 (hC1.R0_18) ?_
  refine ww_getN 0 dX10_year_72 (hC1.K42) rfl (by decide) inX9 wn_246 (hC1.R42_0) ?_
  refine ww_cVr (M := m_X10_year) (pc := 75) (v := .int (smI (fun q => mnI (nI 9999) (g9 (183 + q))) np)) (h1 := hq1) (st := []) (d := 6) (bc := 0) (bs := 0) (c_Land_allCoins hst y1) vv_X2_allCoins dX10_year_75 wg_787 (hC1.K43) rfl rfl rfl rfl (Nat.le_of_ble_eq_true rfl) (Nat.le_of_ble_eq_true rfl) (Nat.le_of_ble_eq_true rfl) (Nat.le_of_ble_eq_true rfl) ?_
  exact ww_iret dX10_year_78 rfl ⟨by rw [smI_congr np (fun q hq => (yu.mn (by omega)).trans (y2 _ (by omega)))], t1⟩
set_option maxHeartbeats 4000000 in
set_option maxRecDepth 100000 in
theorem c_K_year2 {l : Launch} {Z : EE} (hst : l.stackTraces = false) {h : PH} {la lw bk : Nat} (hC : CL h la lw bk) {np du : Nat} {f : Nat → Int32} (hL : LandAt h la np du f) {sz : Nat} {kf vf : Nat → Int32} (hW : LawAt h lw sz kf vf) (hok : LawOK kf vf sz) {np0 du0 : Nat} {g : Nat → Int32} (hY0 : LandAt h 43 np0 du0 g) (hu : RowU f np) (sd : Int32) (us : Nat) (lus : 1 ≤ us) (hus : us ≤ 96) : CC l Z m_X10_year 6 0 0 [.ref 0, .int sd, .int (nI us), .int (nI 2)] h (COk (foI (fun q m => mxI m ((yE sz kf vf np f sd us).1 (183 + q))) 0 np) h) := by
  refine ee_entry hst (by decide +kernel) rfl rfl (by simp [Value.category]) (Nat.le_of_ble_eq_true rfl) ?_
  refine ww_lv (lv2 := [.ref 0, .int sd, .int (nI us), .int (nI 2)]) rfl ?_
  have hla := hC.la
  have hlw := hC.lw
  have hbk := hC.bk
  refine ww_aload_n dX10_year_0 rfl rfl ?_
  refine ww_iload_n dX10_year_1 rfl rfl ?_
  refine ww_iconst (v := nI 1) dX10_year_2 (by decide) ?_
  refine ww_bipush (v := nI 96) dX10_year_3 (by decide) ?_
  refine ww_cV0 (M := m_X10_year) (pc := 5) (h1 := h) (st := []) (d := 6) (bc := 0) (bs := 0) (c_within_t hst (nI us) (nI 1) (nI 96) (nI_le (by omega) (by omega)) (nI_le (by omega) (by omega)) _) vv_X10_within dX10_year_5 wg_410 (hC.K0) rfl rfl rfl rfl (Nat.le_of_ble_eq_true rfl) (Nat.le_of_ble_eq_true rfl) (Nat.le_of_ble_eq_true rfl) (Nat.le_of_ble_eq_true rfl) ?_
  refine ww_aload_n dX10_year_8 rfl rfl ?_
  refine ww_iload_n dX10_year_9 rfl rfl ?_
  refine ww_iconst (v := nI 0) dX10_year_10 (by decide) ?_
  refine ww_iconst (v := nI 3) dX10_year_11 (by decide) ?_
  refine ww_cV0 (M := m_X10_year) (pc := 12) (h1 := h) (st := []) (d := 6) (bc := 0) (bs := 0) (c_within_t hst (nI 2) (nI 0) (nI 3) (by decide) (by decide) _) vv_X10_within dX10_year_12 wg_410 (hC.K0) rfl rfl rfl rfl (Nat.le_of_ble_eq_true rfl) (Nat.le_of_ble_eq_true rfl) (Nat.le_of_ble_eq_true rfl) (Nat.le_of_ble_eq_true rfl) ?_
  refine ww_aload_n dX10_year_15 rfl rfl ?_
  refine ww_get 18 dX10_year_16 (hC.K0) rfl (by decide) inX10 wg_282 (hC.R0_18) ?_
  refine ww_aload_n dX10_year_19 rfl rfl ?_
  refine ww_get 1 dX10_year_20 (hC.K0) rfl (by decide) inX10 wg_265 hC.D1 ?_
  refine ww_aload_n dX10_year_23 rfl rfl ?_
  refine ww_get 3 dX10_year_24 (hC.K0) rfl (by decide) inX10 wg_267 hC.D3 ?_
  refine ww_iload_n dX10_year_27 rfl rfl ?_
  refine ww_iload_n dX10_year_28 rfl rfl ?_
  refine ww_cVq0 (M := m_X10_year) (pc := 29) (st := []) (d := 6) (bc := 0) (bs := 0) (c_Yr_done hst hC hL hW hok hY0 hu sd us (by omega)) vv_X9_live dX10_year_29 wg_1184 (hC.K42) rfl rfl rfl rfl (Nat.le_of_ble_eq_true rfl) (Nat.le_of_ble_eq_true rfl) (Nat.le_of_ble_eq_true rfl) (Nat.le_of_ble_eq_true rfl) (fun hq1 qq1 => ?_)
  obtain ⟨t1, g9, y1, y2, yu, y3, y4, y5, y6⟩ := qq1
  have hC1 := hC.scr t1
  have h6 := hL.2.2.2.2.2.2.1
  refine ww_iload_n dX10_year_32 rfl rfl ?_
  refine ww_tableIn (off := 46) (tgt := 79) dX10_year_33 (by decide) (by decide) (by decide) (by decide) ?_
  refine ww_aload_n dX10_year_79 rfl rfl ?_
  refine ww_get 18 dX10_year_80 (hC1.K0) rfl (by decide) inX10 wg_282 (hC1.R0_18) ?_
  refine ww_getN 0 dX10_year_83 (hC1.K42) rfl (by decide) inX9 wn_246 (hC1.R42_0) ?_
  refine ww_cVr (M := m_X10_year) (pc := 86) (v := .int (foI (fun q m => mxI m (g9 (183 + q))) 0 np)) (h1 := hq1) (st := []) (d := 6) (bc := 0) (bs := 0) (c_Land_richest hst y1) vv_X2_richest dX10_year_86 wg_1205 (hC1.K43) rfl rfl rfl rfl (Nat.le_of_ble_eq_true rfl) (Nat.le_of_ble_eq_true rfl) (Nat.le_of_ble_eq_true rfl) (Nat.le_of_ble_eq_true rfl) ?_
  exact ww_iret dX10_year_89 rfl ⟨by rw [foI_congr np (fun q hq => by funext m; rw [y2 _ (by omega)])], t1⟩
set_option maxHeartbeats 4000000 in
set_option maxRecDepth 100000 in
theorem c_K_year3 {l : Launch} {Z : EE} (hst : l.stackTraces = false) {h : PH} {la lw bk : Nat} (hC : CL h la lw bk) {np du : Nat} {f : Nat → Int32} (hL : LandAt h la np du f) {sz : Nat} {kf vf : Nat → Int32} (hW : LawAt h lw sz kf vf) (hok : LawOK kf vf sz) {np0 du0 : Nat} {g : Nat → Int32} (hY0 : LandAt h 43 np0 du0 g) (hu : RowU f np) (sd : Int32) (us : Nat) (lus : 1 ≤ us) (hus : us ≤ 96) : CC l Z m_X10_year 6 0 0 [.ref 0, .int sd, .int (nI us), .int (nI 3)] h (COk (nI (cnt (fun i => (yE sz kf vf np f sd us).2.2.2 i != 0) 61)) h) := by
  refine ee_entry hst (by decide +kernel) rfl rfl (by simp [Value.category]) (Nat.le_of_ble_eq_true rfl) ?_
  refine ww_lv (lv2 := [.ref 0, .int sd, .int (nI us), .int (nI 3)]) rfl ?_
  have hla := hC.la
  have hlw := hC.lw
  have hbk := hC.bk
  refine ww_aload_n dX10_year_0 rfl rfl ?_
  refine ww_iload_n dX10_year_1 rfl rfl ?_
  refine ww_iconst (v := nI 1) dX10_year_2 (by decide) ?_
  refine ww_bipush (v := nI 96) dX10_year_3 (by decide) ?_
  refine ww_cV0 (M := m_X10_year) (pc := 5) (h1 := h) (st := []) (d := 6) (bc := 0) (bs := 0) (c_within_t hst (nI us) (nI 1) (nI 96) (nI_le (by omega) (by omega)) (nI_le (by omega) (by omega)) _) vv_X10_within dX10_year_5 wg_410 (hC.K0) rfl rfl rfl rfl (Nat.le_of_ble_eq_true rfl) (Nat.le_of_ble_eq_true rfl) (Nat.le_of_ble_eq_true rfl) (Nat.le_of_ble_eq_true rfl) ?_
  refine ww_aload_n dX10_year_8 rfl rfl ?_
  refine ww_iload_n dX10_year_9 rfl rfl ?_
  refine ww_iconst (v := nI 0) dX10_year_10 (by decide) ?_
  refine ww_iconst (v := nI 3) dX10_year_11 (by decide) ?_
  refine ww_cV0 (M := m_X10_year) (pc := 12) (h1 := h) (st := []) (d := 6) (bc := 0) (bs := 0) (c_within_t hst (nI 3) (nI 0) (nI 3) (by decide) (by decide) _) vv_X10_within dX10_year_12 wg_410 (hC.K0) rfl rfl rfl rfl (Nat.le_of_ble_eq_true rfl) (Nat.le_of_ble_eq_true rfl) (Nat.le_of_ble_eq_true rfl) (Nat.le_of_ble_eq_true rfl) ?_
  refine ww_aload_n dX10_year_15 rfl rfl ?_
  refine ww_get 18 dX10_year_16 (hC.K0) rfl (by decide) inX10 wg_282 (hC.R0_18) ?_
  refine ww_aload_n dX10_year_19 rfl rfl ?_
  refine ww_get 1 dX10_year_20 (hC.K0) rfl (by decide) inX10 wg_265 hC.D1 ?_
  refine ww_aload_n dX10_year_23 rfl rfl ?_
  refine ww_get 3 dX10_year_24 (hC.K0) rfl (by decide) inX10 wg_267 hC.D3 ?_
  refine ww_iload_n dX10_year_27 rfl rfl ?_
  refine ww_iload_n dX10_year_28 rfl rfl ?_
  refine ww_cVq0 (M := m_X10_year) (pc := 29) (st := []) (d := 6) (bc := 0) (bs := 0) (c_Yr_done hst hC hL hW hok hY0 hu sd us (by omega)) vv_X9_live dX10_year_29 wg_1184 (hC.K42) rfl rfl rfl rfl (Nat.le_of_ble_eq_true rfl) (Nat.le_of_ble_eq_true rfl) (Nat.le_of_ble_eq_true rfl) (Nat.le_of_ble_eq_true rfl) (fun hq1 qq1 => ?_)
  obtain ⟨t1, g9, y1, y2, yu, y3, y4, y5, y6⟩ := qq1
  have hC1 := hC.scr t1
  have h6 := hL.2.2.2.2.2.2.1
  refine ww_iload_n dX10_year_32 rfl rfl ?_
  refine ww_tableOut (tgt := 90) dX10_year_33 (by decide) (by decide) ?_
  refine ww_aload_n dX10_year_90 rfl rfl ?_
  refine ww_get 18 dX10_year_91 (hC1.K0) rfl (by decide) inX10 wg_282 (hC1.R0_18) ?_
  refine ww_cVr (M := m_X10_year) (pc := 94) (v := .int (nI (cnt (fun i => hp_I hq1 45 i != 0) 61))) (h1 := hq1) (st := []) (d := 6) (bc := 0) (bs := 0) (c_Yr_met hst hC1.K42 hC1.K45 hC1.R42_1 rfl) vv_X9_numbersMet dX10_year_94 wg_1210 (hC1.K42) rfl rfl rfl rfl (Nat.le_of_ble_eq_true rfl) (Nat.le_of_ble_eq_true rfl) (Nat.le_of_ble_eq_true rfl) (Nat.le_of_ble_eq_true rfl) ?_
  exact ww_iret dX10_year_97 rfl ⟨by rw [cnt_congr 61 (fun i hi => by rw [y6 i hi])], t1⟩
set_option maxHeartbeats 4000000 in
set_option maxRecDepth 100000 in
theorem c_K_year_no0 {l : Launch} {Z : EE} (hst : l.stackTraces = false) {h : PH} {la lw bk : Nat} (hC : CL h la lw bk) {wr : Int32} (hwr : hp_F h 0 13 = .int wr) (sd us w : Int32) (hout : ¬ (nI 1 ≤ us ∧ us ≤ nI 96)) : CC l Z m_X10_year 7 1 6 [.ref 0, .int sd, .int us, .int w] h (TH iaX (hp_sF h 0 13 (.int (wr + nI 1)))) := by
  refine ee_entry hst (by decide +kernel) rfl rfl (by simp [Value.category]) (Nat.le_of_ble_eq_true rfl) ?_
  refine ww_lv (lv2 := [.ref 0, .int sd, .int us, .int w]) rfl ?_
  refine ww_aload_n dX10_year_0 rfl rfl ?_
  refine ww_iload_n dX10_year_1 rfl rfl ?_
  refine ww_iconst (v := nI 1) dX10_year_2 (by decide) ?_
  refine ww_bipush (v := nI 96) dX10_year_3 (by decide) ?_
  exact ww_cVt (M := m_X10_year) (pc := 5) (st := []) (d := 7) (bc := 0) (bs := 0) (c_within_f hst hC.K0 hwr us (nI 1) (nI 96) hout) vv_X10_within dX10_year_5 wg_410 (hC.K0) rfl rfl rfl rfl (Nat.le_of_ble_eq_true rfl) (Nat.le_of_ble_eq_true rfl) (Nat.le_of_ble_eq_true rfl) (Nat.le_of_ble_eq_true rfl) ⟨rfl, rfl⟩
set_option maxHeartbeats 4000000 in
set_option maxRecDepth 100000 in
theorem c_K_year_no1 {l : Launch} {Z : EE} (hst : l.stackTraces = false) {h : PH} {la lw bk : Nat} (hC : CL h la lw bk) {wr : Int32} (hwr : hp_F h 0 13 = .int wr) (sd : Int32) (us : Nat) (lus : 1 ≤ us) (hus : us ≤ 96) (w : Int32) (hout : ¬ (nI 0 ≤ w ∧ w ≤ nI 3)) : CC l Z m_X10_year 7 1 6 [.ref 0, .int sd, .int (nI us), .int w] h (TH iaX (hp_sF h 0 13 (.int (wr + nI 1)))) := by
  refine ee_entry hst (by decide +kernel) rfl rfl (by simp [Value.category]) (Nat.le_of_ble_eq_true rfl) ?_
  refine ww_lv (lv2 := [.ref 0, .int sd, .int (nI us), .int w]) rfl ?_
  refine ww_aload_n dX10_year_0 rfl rfl ?_
  refine ww_iload_n dX10_year_1 rfl rfl ?_
  refine ww_iconst (v := nI 1) dX10_year_2 (by decide) ?_
  refine ww_bipush (v := nI 96) dX10_year_3 (by decide) ?_
  refine ww_cV0 (M := m_X10_year) (pc := 5) (h1 := h) (st := []) (d := 7) (bc := 1) (bs := 6) (c_within_t hst (nI us) (nI 1) (nI 96) (nI_le (by omega) (by omega)) (nI_le (by omega) (by omega)) _) vv_X10_within dX10_year_5 wg_410 (hC.K0) rfl rfl rfl rfl (Nat.le_of_ble_eq_true rfl) (Nat.le_of_ble_eq_true rfl) (Nat.le_of_ble_eq_true rfl) (Nat.le_of_ble_eq_true rfl) ?_
  refine ww_aload_n dX10_year_8 rfl rfl ?_
  refine ww_iload_n dX10_year_9 rfl rfl ?_
  refine ww_iconst (v := nI 0) dX10_year_10 (by decide) ?_
  refine ww_iconst (v := nI 3) dX10_year_11 (by decide) ?_
  exact ww_cVt (M := m_X10_year) (pc := 12) (st := []) (d := 7) (bc := 0) (bs := 0) (c_within_f hst hC.K0 hwr w (nI 0) (nI 3) hout) vv_X10_within dX10_year_12 wg_410 (hC.K0) rfl rfl rfl rfl (Nat.le_of_ble_eq_true rfl) (Nat.le_of_ble_eq_true rfl) (Nat.le_of_ble_eq_true rfl) (Nat.le_of_ble_eq_true rfl) ⟨rfl, rfl⟩
def dnA (sz : Nat) (kf vf : Nat → Int32) (np : Nat) (f : Nat → Int32) (sd : Int32) (us i : Nat) : Nat := (yE sz kf vf np f (sd + nI i) us).2.2.1
theorem dnA_le (sz : Nat) (kf vf : Nat → Int32) (np : Nat) (f : Nat → Int32) (sd : Int32) (us i : Nat) : dnA sz kf vf np f sd us i ≤ us := by
  unfold dnA yE
  split
  · exact Nat.zero_le _
  · exact yF_dn sz kf vf np f _ us
def spM (d : Nat → Nat) : Nat → Nat
  | 0 => 96
  | k + 1 => min (spM d k) (d k)
def spX (d : Nat → Nat) : Nat → Nat
  | 0 => 0
  | k + 1 => max (spX d k) (d k)
def spA (np us : Nat) (d : Nat → Nat) : Nat → Nat := cnt (fun i => decide (np = 0) || d i == us)
theorem spA_1 {np us k : Nat} {d : Nat → Nat} (h : (if np = 0 then 0 else us - d k) = 0) (hd : d k ≤ us) : spA np us d (k + 1) = spA np us d k + 1 := by
  have : (decide (np = 0) || d k == us) = true := by
    by_cases e : np = 0
    · simp [e]
    · rw [if_neg e] at h; simp; right; omega
  simp only [spA, cnt, this, if_true]
theorem spA_0 {np us k : Nat} {d : Nat → Nat} (h : 0 < (if np = 0 then 0 else us - d k)) : spA np us d (k + 1) = spA np us d k := by
  have : (decide (np = 0) || d k == us) = false := by
    by_cases e : np = 0
    · rw [if_pos e] at h; omega
    · rw [if_neg e] at h; simp [e]; omega
  simp only [spA, cnt, this, if_false, Bool.false_eq_true, Nat.add_zero]
theorem spM_le (d : Nat → Nat) : ∀ k, spM d k ≤ 96
  | 0 => Nat.le_refl _
  | k + 1 => by have := spM_le d k; simp only [spM]; omega
theorem spX_le {d : Nat → Nat} {us : Nat} (h : ∀ i, d i ≤ us) : ∀ k, spX d k ≤ us
  | 0 => Nat.zero_le _
  | k + 1 => by have := spX_le h k; have := h k; simp only [spX]; omega
theorem mxI_n (a b : Nat) (ha : a < 2 ^ 31) (hb : b < 2 ^ 31) : mxI (nI a) (nI b) = nI (max a b) := by
  unfold mxI
  by_cases h : a < b
  · rw [if_pos (nI_lt h hb), show max a b = b by omega]
  · rw [if_neg (nI_nlt (by omega) ha), show max a b = a by omega]
theorem c_maxN {l : Launch} {Z : EE} (hst : l.stackTraces = false) (a b : Nat) (ha : a < 2 ^ 31) (hb : b < 2 ^ 31) (h : PH) : CC l Z m_J9_max_7cf53 0 0 0 [.int (nI a), .int (nI b)] h (RT (some (.int (nI (max a b)))) h) := by
  rw [← mxI_n a b ha hb]; exact c_max hst _ _ h
set_option maxHeartbeats 4000000 in
set_option maxRecDepth 100000 in
theorem l_K_span {l : Launch} {Z : EE} (hst : l.stackTraces = false) {h : PH} {la lw bk : Nat} (hC : CL h la lw bk) {np du : Nat} {f : Nat → Int32} (hL : LandAt h la np du f) {sz : Nat} {kf vf : Nat → Int32} (hW : LawAt h lw sz kf vf) (hok : LawOK kf vf sz) (hu : RowU f np) (sd : Int32) (us mn : Nat) (hus : us ≤ 96) (hmn : mn ≤ 20) (w : Int32) {Post : Res → PH → Prop} : ∀ (j k : Nat) (hq : PH), Same CX CY h hq → ∀ (np9 du9 : Nat) (g9 : Nat → Int32), LandAt hq 43 np9 du9 g9 → k + j = mn → (∀ h9, Same CX CY h h9 → WW l Z m_X10_span 6 0 0 110 [.ref 0, .int sd, .int (nI mn), .int (nI us), .int w, .int (nI (spM (dnA sz kf vf np f sd us) mn)), .int (nI (spX (dnA sz kf vf np f sd us) mn)), .int (nI (spA np us (dnA sz kf vf np f sd us) mn)), .int (nI mn)] [] h9 Post) → WW l Z m_X10_span 6 0 0 37 [.ref 0, .int sd, .int (nI mn), .int (nI us), .int w, .int (nI (spM (dnA sz kf vf np f sd us) k)), .int (nI (spX (dnA sz kf vf np f sd us) k)), .int (nI (spA np us (dnA sz kf vf np f sd us) k)), .int (nI k)] [] hq Post := by
  have hdl := dnA_le sz kf vf np f sd us
  intro j
  induction j with
  | zero =>
    intro k hq s0 np9 du9 g9 hY9 hk hex
    have hk0 : k = mn := by omega
    subst hk0
    have hCq := hC.scr s0
    have hLq := hL.scr hC s0
    have hWq := hW.scr hC s0
    refine ww_iload dX10_span_37 rfl ?_
    refine ww_iload_n dX10_span_39 rfl rfl ?_
    refine ww_icmp_geN (tgt := 110) dX10_span_40 (by decide) (by omega) (by omega) (fun c40 => ?_) (fun c40 => ?_)
    · exact hex hq s0
    · exfalso; omega
  | succ j ih =>
    intro k hq s0 np9 du9 g9 hY9 hk hex
    have hCq := hC.scr s0
    have hLq := hL.scr hC s0
    have hWq := hW.scr hC s0
    have hm9 := spM_le (dnA sz kf vf np f sd us) k
    have hx9 := spX_le (d := (dnA sz kf vf np f sd us)) (us := us) hdl k
    have ha9 := cnt_le (fun i => decide (np = 0) || (dnA sz kf vf np f sd us) i == us) k
    have hd9 := hdl k
    refine ww_iload dX10_span_37 rfl ?_
    refine ww_iload_n dX10_span_39 rfl rfl ?_
    refine ww_icmp_geN (tgt := 110) dX10_span_40 (by decide) (by first | omega | (split <;> omega) | (simp only [spA]; omega)) (by first | omega | (split <;> omega) | (simp only [spA]; omega)) (fun c40 => ?_) (fun c40 => ?_)
    · exfalso; omega
    · refine ww_aload_n dX10_span_43 rfl rfl ?_
      refine ww_get 18 dX10_span_44 (hCq.K0) rfl (by decide) inX10 wg_282 (hCq.R0_18) ?_
      refine ww_aload_n dX10_span_47 rfl rfl ?_
      refine ww_get 1 dX10_span_48 (hCq.K0) rfl (by decide) inX10 wg_265 hCq.D1 ?_
      refine ww_aload_n dX10_span_51 rfl rfl ?_
      refine ww_get 3 dX10_span_52 (hCq.K0) rfl (by decide) inX10 wg_267 hCq.D3 ?_
      refine ww_iload_n dX10_span_55 rfl rfl ?_
      refine ww_iload dX10_span_56 rfl ?_
      refine ww_iadd dX10_span_58 ?_
      refine ww_iload_n dX10_span_59 rfl rfl ?_
      refine ww_cVq0 (M := m_X10_span) (pc := 60) (st := []) (d := 6) (bc := 0) (bs := 0) (c_Yr_done hst hCq hLq hWq hok hY9 hu (sd + nI k) us (by omega)) vv_X9_live dX10_span_60 wg_1184 (hCq.K42) rfl rfl rfl rfl (Nat.le_of_ble_eq_true rfl) (Nat.le_of_ble_eq_true rfl) (Nat.le_of_ble_eq_true rfl) (Nat.le_of_ble_eq_true rfl) (fun hq1 qq1 => ?_)
      obtain ⟨t1, g9, y1, y2, yu, y3, y4, y5, y6⟩ := qq1
      have hC1 := hCq.scr t1
      refine ww_iload dX10_span_63 rfl ?_
      refine ww_aload_n dX10_span_65 rfl rfl ?_
      refine ww_get 18 dX10_span_66 (hC1.K0) rfl (by decide) inX10 wg_282 (hC1.R0_18) ?_
      refine ww_getN 3 dX10_span_69 (hC1.K42) rfl (by decide) inX9 wn_250 y3 ?_
      refine ww_cSr (M := m_X10_span) (pc := 72) (v := .int (nI (min (spM (dnA sz kf vf np f sd us) k) ((dnA sz kf vf np f sd us) k)))) (h1 := hq1) (st := []) (d := 6) (bc := 0) (bs := 0) (c_minN hst (spM (dnA sz kf vf np f sd us) k) ((dnA sz kf vf np f sd us) k) (by omega) (by omega) _) vv_J9_min_7cf53 dX10_span_72 wg_603 rfl rfl rfl (Nat.le_of_ble_eq_true rfl) (Nat.le_of_ble_eq_true rfl) (Nat.le_of_ble_eq_true rfl) (Nat.le_of_ble_eq_true rfl) ?_
      refine ww_sti (lv2 := [.ref 0, .int sd, .int (nI mn), .int (nI us), .int w, .int (nI (min (spM (dnA sz kf vf np f sd us) k) ((dnA sz kf vf np f sd us) k))), .int (nI (spX (dnA sz kf vf np f sd us) k)), .int (nI (spA np us (dnA sz kf vf np f sd us) k)), .int (nI k)]) dX10_span_75 rfl (by decide) rfl ?_
      refine ww_iload dX10_span_77 rfl ?_
      refine ww_aload_n dX10_span_79 rfl rfl ?_
      refine ww_get 18 dX10_span_80 (hC1.K0) rfl (by decide) inX10 wg_282 (hC1.R0_18) ?_
      refine ww_getN 3 dX10_span_83 (hC1.K42) rfl (by decide) inX9 wn_250 y3 ?_
      refine ww_cSr (M := m_X10_span) (pc := 86) (v := .int (nI (max (spX (dnA sz kf vf np f sd us) k) ((dnA sz kf vf np f sd us) k)))) (h1 := hq1) (st := []) (d := 6) (bc := 0) (bs := 0) (c_maxN hst (spX (dnA sz kf vf np f sd us) k) ((dnA sz kf vf np f sd us) k) (by omega) (by omega) _) vv_J9_max_7cf53 dX10_span_86 wg_1221 rfl rfl rfl (Nat.le_of_ble_eq_true rfl) (Nat.le_of_ble_eq_true rfl) (Nat.le_of_ble_eq_true rfl) (Nat.le_of_ble_eq_true rfl) ?_
      refine ww_sti (lv2 := [.ref 0, .int sd, .int (nI mn), .int (nI us), .int w, .int (nI (min (spM (dnA sz kf vf np f sd us) k) ((dnA sz kf vf np f sd us) k))), .int (nI (max (spX (dnA sz kf vf np f sd us) k) ((dnA sz kf vf np f sd us) k))), .int (nI (spA np us (dnA sz kf vf np f sd us) k)), .int (nI k)]) dX10_span_89 rfl (by decide) rfl ?_
      refine ww_aload_n dX10_span_91 rfl rfl ?_
      refine ww_get 18 dX10_span_92 (hC1.K0) rfl (by decide) inX10 wg_282 (hC1.R0_18) ?_
      refine ww_getN 4 dX10_span_95 (hC1.K42) rfl (by decide) inX9 wn_252 y4 ?_
      refine ww_if_neN (tgt := 104) dX10_span_98 (by decide) (by first | omega | (split <;> omega) | (simp only [spA]; omega)) (fun c98 => ?_) (fun c98 => ?_)
      · refine ww_incN (c := 1) (lv2 := [.ref 0, .int sd, .int (nI mn), .int (nI us), .int w, .int (nI (min (spM (dnA sz kf vf np f sd us) k) ((dnA sz kf vf np f sd us) k))), .int (nI (max (spX (dnA sz kf vf np f sd us) k) ((dnA sz kf vf np f sd us) k))), .int (nI (spA np us (dnA sz kf vf np f sd us) k)), .int (nI (k + 1))]) dX10_span_104 rfl rfl rfl (by decide) rfl ?_
        refine ww_goto (tgt := 37) dX10_span_107 (by decide) ?_
        refine ww_lv (lv2 := [.ref 0, .int sd, .int (nI mn), .int (nI us), .int w, .int (nI (spM (dnA sz kf vf np f sd us) ((k + 1)))), .int (nI (spX (dnA sz kf vf np f sd us) ((k + 1)))), .int (nI (spA np us (dnA sz kf vf np f sd us) ((k + 1)))), .int (nI ((k + 1)))]) (by first | (rw [spA_1 c98 hd9]; rfl) | (rw [spA_0 c98]; rfl)) ?_
        exact ih (k + 1) hq1 (s0.tr t1) _ _ _ y1 (by omega) hex
      · refine ww_incN (c := 1) (lv2 := [.ref 0, .int sd, .int (nI mn), .int (nI us), .int w, .int (nI (min (spM (dnA sz kf vf np f sd us) k) ((dnA sz kf vf np f sd us) k))), .int (nI (max (spX (dnA sz kf vf np f sd us) k) ((dnA sz kf vf np f sd us) k))), .int (nI (spA np us (dnA sz kf vf np f sd us) k + 1)), .int (nI k)]) dX10_span_101 rfl rfl rfl (by decide) rfl ?_
        refine ww_incN (c := 1) (lv2 := [.ref 0, .int sd, .int (nI mn), .int (nI us), .int w, .int (nI (min (spM (dnA sz kf vf np f sd us) k) ((dnA sz kf vf np f sd us) k))), .int (nI (max (spX (dnA sz kf vf np f sd us) k) ((dnA sz kf vf np f sd us) k))), .int (nI (spA np us (dnA sz kf vf np f sd us) k + 1)), .int (nI (k + 1))]) dX10_span_104 rfl rfl rfl (by decide) rfl ?_
        refine ww_goto (tgt := 37) dX10_span_107 (by decide) ?_
        refine ww_lv (lv2 := [.ref 0, .int sd, .int (nI mn), .int (nI us), .int w, .int (nI (spM (dnA sz kf vf np f sd us) ((k + 1)))), .int (nI (spX (dnA sz kf vf np f sd us) ((k + 1)))), .int (nI (spA np us (dnA sz kf vf np f sd us) ((k + 1)))), .int (nI ((k + 1)))]) (by first | (rw [spA_1 c98 hd9]; rfl) | (rw [spA_0 c98]; rfl)) ?_
        exact ih (k + 1) hq1 (s0.tr t1) _ _ _ y1 (by omega) hex
set_option maxHeartbeats 4000000 in
set_option maxRecDepth 100000 in
theorem c_K_span0 {l : Launch} {Z : EE} (hst : l.stackTraces = false) {h : PH} {la lw bk : Nat} (hC : CL h la lw bk) {np du : Nat} {f : Nat → Int32} (hL : LandAt h la np du f) {sz : Nat} {kf vf : Nat → Int32} (hW : LawAt h lw sz kf vf) (hok : LawOK kf vf sz) {np0 du0 : Nat} {g : Nat → Int32} (hY0 : LandAt h 43 np0 du0 g) (hu : RowU f np) (sd : Int32) (mn : Nat) (lmn : 1 ≤ mn) (hmn : mn ≤ 20) (us : Nat) (lus : 1 ≤ us) (hus : us ≤ 96) : CC l Z m_X10_span 6 0 0 [.ref 0, .int sd, .int (nI mn), .int (nI us), .int (nI 0)] h (COk (nI (spM (dnA sz kf vf np f sd us) mn)) h) := by
  refine ee_entry hst (by decide +kernel) rfl rfl (by simp [Value.category]) (Nat.le_of_ble_eq_true rfl) ?_
  refine ww_lv (lv2 := [.ref 0, .int sd, .int (nI mn), .int (nI us), .int (nI 0), UU, UU, UU, UU]) rfl ?_
  have hla := hC.la
  have hlw := hC.lw
  have hbk := hC.bk
  refine ww_aload_n dX10_span_0 rfl rfl ?_
  refine ww_iload_n dX10_span_1 rfl rfl ?_
  refine ww_iconst (v := nI 1) dX10_span_2 (by decide) ?_
  refine ww_bipush (v := nI 20) dX10_span_3 (by decide) ?_
  refine ww_cV0 (M := m_X10_span) (pc := 5) (h1 := h) (st := []) (d := 6) (bc := 0) (bs := 0) (c_within_t hst (nI mn) (nI 1) (nI 20) (nI_le (by omega) (by omega)) (nI_le (by omega) (by omega)) _) vv_X10_within dX10_span_5 wg_410 (hC.K0) rfl rfl rfl rfl (Nat.le_of_ble_eq_true rfl) (Nat.le_of_ble_eq_true rfl) (Nat.le_of_ble_eq_true rfl) (Nat.le_of_ble_eq_true rfl) ?_
  refine ww_aload_n dX10_span_8 rfl rfl ?_
  refine ww_iload_n dX10_span_9 rfl rfl ?_
  refine ww_iconst (v := nI 1) dX10_span_10 (by decide) ?_
  refine ww_bipush (v := nI 96) dX10_span_11 (by decide) ?_
  refine ww_cV0 (M := m_X10_span) (pc := 13) (h1 := h) (st := []) (d := 6) (bc := 0) (bs := 0) (c_within_t hst (nI us) (nI 1) (nI 96) (nI_le (by omega) (by omega)) (nI_le (by omega) (by omega)) _) vv_X10_within dX10_span_13 wg_410 (hC.K0) rfl rfl rfl rfl (Nat.le_of_ble_eq_true rfl) (Nat.le_of_ble_eq_true rfl) (Nat.le_of_ble_eq_true rfl) (Nat.le_of_ble_eq_true rfl) ?_
  refine ww_aload_n dX10_span_16 rfl rfl ?_
  refine ww_iload dX10_span_17 rfl ?_
  refine ww_iconst (v := nI 0) dX10_span_19 (by decide) ?_
  refine ww_iconst (v := nI 2) dX10_span_20 (by decide) ?_
  refine ww_cV0 (M := m_X10_span) (pc := 21) (h1 := h) (st := []) (d := 6) (bc := 0) (bs := 0) (c_within_t hst (nI 0) (nI 0) (nI 2) (by decide) (by decide) _) vv_X10_within dX10_span_21 wg_410 (hC.K0) rfl rfl rfl rfl (Nat.le_of_ble_eq_true rfl) (Nat.le_of_ble_eq_true rfl) (Nat.le_of_ble_eq_true rfl) (Nat.le_of_ble_eq_true rfl) ?_
  refine ww_bipush (v := nI 96) dX10_span_24 (by decide) ?_
  refine ww_sti (lv2 := [.ref 0, .int sd, .int (nI mn), .int (nI us), .int (nI 0), .int (nI 96), UU, UU, UU]) dX10_span_26 rfl (by decide) rfl ?_
  refine ww_iconst (v := nI 0) dX10_span_28 (by decide) ?_
  refine ww_sti (lv2 := [.ref 0, .int sd, .int (nI mn), .int (nI us), .int (nI 0), .int (nI 96), .int (nI 0), UU, UU]) dX10_span_29 rfl (by decide) rfl ?_
  refine ww_iconst (v := nI 0) dX10_span_31 (by decide) ?_
  refine ww_sti (lv2 := [.ref 0, .int sd, .int (nI mn), .int (nI us), .int (nI 0), .int (nI 96), .int (nI 0), .int (nI 0), UU]) dX10_span_32 rfl (by decide) rfl ?_
  refine ww_iconst (v := nI 0) dX10_span_34 (by decide) ?_
  refine ww_sti (lv2 := [.ref 0, .int sd, .int (nI mn), .int (nI us), .int (nI 0), .int (nI 96), .int (nI 0), .int (nI 0), .int (nI 0)]) dX10_span_35 rfl (by decide) rfl ?_
  refine l_K_span hst hC hL hW hok hu sd us mn hus hmn (nI 0) mn 0 h Same.rf _ _ _ hY0 (by omega) (fun h9 s9 => ?_)
  refine ww_iload dX10_span_110 rfl ?_
  refine ww_lookup (off := 28) (tgt := 140) dX10_span_112 (by decide) (by decide) (by decide) ?_
  refine ww_iload dX10_span_140 rfl ?_
  exact ww_iret dX10_span_142 rfl ⟨rfl, s9⟩
set_option maxHeartbeats 4000000 in
set_option maxRecDepth 100000 in
theorem c_K_span1 {l : Launch} {Z : EE} (hst : l.stackTraces = false) {h : PH} {la lw bk : Nat} (hC : CL h la lw bk) {np du : Nat} {f : Nat → Int32} (hL : LandAt h la np du f) {sz : Nat} {kf vf : Nat → Int32} (hW : LawAt h lw sz kf vf) (hok : LawOK kf vf sz) {np0 du0 : Nat} {g : Nat → Int32} (hY0 : LandAt h 43 np0 du0 g) (hu : RowU f np) (sd : Int32) (mn : Nat) (lmn : 1 ≤ mn) (hmn : mn ≤ 20) (us : Nat) (lus : 1 ≤ us) (hus : us ≤ 96) : CC l Z m_X10_span 6 0 0 [.ref 0, .int sd, .int (nI mn), .int (nI us), .int (nI 1)] h (COk (nI (spX (dnA sz kf vf np f sd us) mn)) h) := by
  refine ee_entry hst (by decide +kernel) rfl rfl (by simp [Value.category]) (Nat.le_of_ble_eq_true rfl) ?_
  refine ww_lv (lv2 := [.ref 0, .int sd, .int (nI mn), .int (nI us), .int (nI 1), UU, UU, UU, UU]) rfl ?_
  have hla := hC.la
  have hlw := hC.lw
  have hbk := hC.bk
  refine ww_aload_n dX10_span_0 rfl rfl ?_
  refine ww_iload_n dX10_span_1 rfl rfl ?_
  refine ww_iconst (v := nI 1) dX10_span_2 (by decide) ?_
  refine ww_bipush (v := nI 20) dX10_span_3 (by decide) ?_
  refine ww_cV0 (M := m_X10_span) (pc := 5) (h1 := h) (st := []) (d := 6) (bc := 0) (bs := 0) (c_within_t hst (nI mn) (nI 1) (nI 20) (nI_le (by omega) (by omega)) (nI_le (by omega) (by omega)) _) vv_X10_within dX10_span_5 wg_410 (hC.K0) rfl rfl rfl rfl (Nat.le_of_ble_eq_true rfl) (Nat.le_of_ble_eq_true rfl) (Nat.le_of_ble_eq_true rfl) (Nat.le_of_ble_eq_true rfl) ?_
  refine ww_aload_n dX10_span_8 rfl rfl ?_
  refine ww_iload_n dX10_span_9 rfl rfl ?_
  refine ww_iconst (v := nI 1) dX10_span_10 (by decide) ?_
  refine ww_bipush (v := nI 96) dX10_span_11 (by decide) ?_
  refine ww_cV0 (M := m_X10_span) (pc := 13) (h1 := h) (st := []) (d := 6) (bc := 0) (bs := 0) (c_within_t hst (nI us) (nI 1) (nI 96) (nI_le (by omega) (by omega)) (nI_le (by omega) (by omega)) _) vv_X10_within dX10_span_13 wg_410 (hC.K0) rfl rfl rfl rfl (Nat.le_of_ble_eq_true rfl) (Nat.le_of_ble_eq_true rfl) (Nat.le_of_ble_eq_true rfl) (Nat.le_of_ble_eq_true rfl) ?_
  refine ww_aload_n dX10_span_16 rfl rfl ?_
  refine ww_iload dX10_span_17 rfl ?_
  refine ww_iconst (v := nI 0) dX10_span_19 (by decide) ?_
  refine ww_iconst (v := nI 2) dX10_span_20 (by decide) ?_
  refine ww_cV0 (M := m_X10_span) (pc := 21) (h1 := h) (st := []) (d := 6) (bc := 0) (bs := 0) (c_within_t hst (nI 1) (nI 0) (nI 2) (by decide) (by decide) _) vv_X10_within dX10_span_21 wg_410 (hC.K0) rfl rfl rfl rfl (Nat.le_of_ble_eq_true rfl) (Nat.le_of_ble_eq_true rfl) (Nat.le_of_ble_eq_true rfl) (Nat.le_of_ble_eq_true rfl) ?_
  refine ww_bipush (v := nI 96) dX10_span_24 (by decide) ?_
  refine ww_sti (lv2 := [.ref 0, .int sd, .int (nI mn), .int (nI us), .int (nI 1), .int (nI 96), UU, UU, UU]) dX10_span_26 rfl (by decide) rfl ?_
  refine ww_iconst (v := nI 0) dX10_span_28 (by decide) ?_
  refine ww_sti (lv2 := [.ref 0, .int sd, .int (nI mn), .int (nI us), .int (nI 1), .int (nI 96), .int (nI 0), UU, UU]) dX10_span_29 rfl (by decide) rfl ?_
  refine ww_iconst (v := nI 0) dX10_span_31 (by decide) ?_
  refine ww_sti (lv2 := [.ref 0, .int sd, .int (nI mn), .int (nI us), .int (nI 1), .int (nI 96), .int (nI 0), .int (nI 0), UU]) dX10_span_32 rfl (by decide) rfl ?_
  refine ww_iconst (v := nI 0) dX10_span_34 (by decide) ?_
  refine ww_sti (lv2 := [.ref 0, .int sd, .int (nI mn), .int (nI us), .int (nI 1), .int (nI 96), .int (nI 0), .int (nI 0), .int (nI 0)]) dX10_span_35 rfl (by decide) rfl ?_
  refine l_K_span hst hC hL hW hok hu sd us mn hus hmn (nI 1) mn 0 h Same.rf _ _ _ hY0 (by omega) (fun h9 s9 => ?_)
  refine ww_iload dX10_span_110 rfl ?_
  refine ww_lookup (off := 31) (tgt := 143) dX10_span_112 (by decide) (by decide) (by decide) ?_
  refine ww_iload dX10_span_143 rfl ?_
  exact ww_iret dX10_span_145 rfl ⟨rfl, s9⟩
set_option maxHeartbeats 4000000 in
set_option maxRecDepth 100000 in
theorem c_K_span2 {l : Launch} {Z : EE} (hst : l.stackTraces = false) {h : PH} {la lw bk : Nat} (hC : CL h la lw bk) {np du : Nat} {f : Nat → Int32} (hL : LandAt h la np du f) {sz : Nat} {kf vf : Nat → Int32} (hW : LawAt h lw sz kf vf) (hok : LawOK kf vf sz) {np0 du0 : Nat} {g : Nat → Int32} (hY0 : LandAt h 43 np0 du0 g) (hu : RowU f np) (sd : Int32) (mn : Nat) (lmn : 1 ≤ mn) (hmn : mn ≤ 20) (us : Nat) (lus : 1 ≤ us) (hus : us ≤ 96) : CC l Z m_X10_span 6 0 0 [.ref 0, .int sd, .int (nI mn), .int (nI us), .int (nI 2)] h (COk (nI (spA np us (dnA sz kf vf np f sd us) mn)) h) := by
  refine ee_entry hst (by decide +kernel) rfl rfl (by simp [Value.category]) (Nat.le_of_ble_eq_true rfl) ?_
  refine ww_lv (lv2 := [.ref 0, .int sd, .int (nI mn), .int (nI us), .int (nI 2), UU, UU, UU, UU]) rfl ?_
  have hla := hC.la
  have hlw := hC.lw
  have hbk := hC.bk
  refine ww_aload_n dX10_span_0 rfl rfl ?_
  refine ww_iload_n dX10_span_1 rfl rfl ?_
  refine ww_iconst (v := nI 1) dX10_span_2 (by decide) ?_
  refine ww_bipush (v := nI 20) dX10_span_3 (by decide) ?_
  refine ww_cV0 (M := m_X10_span) (pc := 5) (h1 := h) (st := []) (d := 6) (bc := 0) (bs := 0) (c_within_t hst (nI mn) (nI 1) (nI 20) (nI_le (by omega) (by omega)) (nI_le (by omega) (by omega)) _) vv_X10_within dX10_span_5 wg_410 (hC.K0) rfl rfl rfl rfl (Nat.le_of_ble_eq_true rfl) (Nat.le_of_ble_eq_true rfl) (Nat.le_of_ble_eq_true rfl) (Nat.le_of_ble_eq_true rfl) ?_
  refine ww_aload_n dX10_span_8 rfl rfl ?_
  refine ww_iload_n dX10_span_9 rfl rfl ?_
  refine ww_iconst (v := nI 1) dX10_span_10 (by decide) ?_
  refine ww_bipush (v := nI 96) dX10_span_11 (by decide) ?_
  refine ww_cV0 (M := m_X10_span) (pc := 13) (h1 := h) (st := []) (d := 6) (bc := 0) (bs := 0) (c_within_t hst (nI us) (nI 1) (nI 96) (nI_le (by omega) (by omega)) (nI_le (by omega) (by omega)) _) vv_X10_within dX10_span_13 wg_410 (hC.K0) rfl rfl rfl rfl (Nat.le_of_ble_eq_true rfl) (Nat.le_of_ble_eq_true rfl) (Nat.le_of_ble_eq_true rfl) (Nat.le_of_ble_eq_true rfl) ?_
  refine ww_aload_n dX10_span_16 rfl rfl ?_
  refine ww_iload dX10_span_17 rfl ?_
  refine ww_iconst (v := nI 0) dX10_span_19 (by decide) ?_
  refine ww_iconst (v := nI 2) dX10_span_20 (by decide) ?_
  refine ww_cV0 (M := m_X10_span) (pc := 21) (h1 := h) (st := []) (d := 6) (bc := 0) (bs := 0) (c_within_t hst (nI 2) (nI 0) (nI 2) (by decide) (by decide) _) vv_X10_within dX10_span_21 wg_410 (hC.K0) rfl rfl rfl rfl (Nat.le_of_ble_eq_true rfl) (Nat.le_of_ble_eq_true rfl) (Nat.le_of_ble_eq_true rfl) (Nat.le_of_ble_eq_true rfl) ?_
  refine ww_bipush (v := nI 96) dX10_span_24 (by decide) ?_
  refine ww_sti (lv2 := [.ref 0, .int sd, .int (nI mn), .int (nI us), .int (nI 2), .int (nI 96), UU, UU, UU]) dX10_span_26 rfl (by decide) rfl ?_
  refine ww_iconst (v := nI 0) dX10_span_28 (by decide) ?_
  refine ww_sti (lv2 := [.ref 0, .int sd, .int (nI mn), .int (nI us), .int (nI 2), .int (nI 96), .int (nI 0), UU, UU]) dX10_span_29 rfl (by decide) rfl ?_
  refine ww_iconst (v := nI 0) dX10_span_31 (by decide) ?_
  refine ww_sti (lv2 := [.ref 0, .int sd, .int (nI mn), .int (nI us), .int (nI 2), .int (nI 96), .int (nI 0), .int (nI 0), UU]) dX10_span_32 rfl (by decide) rfl ?_
  refine ww_iconst (v := nI 0) dX10_span_34 (by decide) ?_
  refine ww_sti (lv2 := [.ref 0, .int sd, .int (nI mn), .int (nI us), .int (nI 2), .int (nI 96), .int (nI 0), .int (nI 0), .int (nI 0)]) dX10_span_35 rfl (by decide) rfl ?_
  refine l_K_span hst hC hL hW hok hu sd us mn hus hmn (nI 2) mn 0 h Same.rf _ _ _ hY0 (by omega) (fun h9 s9 => ?_)
  refine ww_iload dX10_span_110 rfl ?_
  refine ww_lookup (off := 34) (tgt := 146) dX10_span_112 (by decide) (by decide) (by decide) ?_
  refine ww_iload dX10_span_146 rfl ?_
  exact ww_iret dX10_span_148 rfl ⟨rfl, s9⟩
set_option maxHeartbeats 4000000 in
set_option maxRecDepth 100000 in
theorem c_K_span_no0 {l : Launch} {Z : EE} (hst : l.stackTraces = false) {h : PH} {la lw bk : Nat} (hC : CL h la lw bk) {wr : Int32} (hwr : hp_F h 0 13 = .int wr) (sd mn us w : Int32) (hout : ¬ (nI 1 ≤ mn ∧ mn ≤ nI 20)) : CC l Z m_X10_span 7 1 6 [.ref 0, .int sd, .int mn, .int us, .int w] h (TH iaX (hp_sF h 0 13 (.int (wr + nI 1)))) := by
  refine ee_entry hst (by decide +kernel) rfl rfl (by simp [Value.category]) (Nat.le_of_ble_eq_true rfl) ?_
  refine ww_lv (lv2 := [.ref 0, .int sd, .int mn, .int us, .int w, UU, UU, UU, UU]) rfl ?_
  refine ww_aload_n dX10_span_0 rfl rfl ?_
  refine ww_iload_n dX10_span_1 rfl rfl ?_
  refine ww_iconst (v := nI 1) dX10_span_2 (by decide) ?_
  refine ww_bipush (v := nI 20) dX10_span_3 (by decide) ?_
  exact ww_cVt (M := m_X10_span) (pc := 5) (st := []) (d := 7) (bc := 0) (bs := 0) (c_within_f hst hC.K0 hwr mn (nI 1) (nI 20) hout) vv_X10_within dX10_span_5 wg_410 (hC.K0) rfl rfl rfl rfl (Nat.le_of_ble_eq_true rfl) (Nat.le_of_ble_eq_true rfl) (Nat.le_of_ble_eq_true rfl) (Nat.le_of_ble_eq_true rfl) ⟨rfl, rfl⟩
set_option maxHeartbeats 4000000 in
set_option maxRecDepth 100000 in
theorem c_K_span_no1 {l : Launch} {Z : EE} (hst : l.stackTraces = false) {h : PH} {la lw bk : Nat} (hC : CL h la lw bk) {wr : Int32} (hwr : hp_F h 0 13 = .int wr) (sd : Int32) (mn : Nat) (lmn : 1 ≤ mn) (hmn : mn ≤ 20) (us w : Int32) (hout : ¬ (nI 1 ≤ us ∧ us ≤ nI 96)) : CC l Z m_X10_span 7 1 6 [.ref 0, .int sd, .int (nI mn), .int us, .int w] h (TH iaX (hp_sF h 0 13 (.int (wr + nI 1)))) := by
  refine ee_entry hst (by decide +kernel) rfl rfl (by simp [Value.category]) (Nat.le_of_ble_eq_true rfl) ?_
  refine ww_lv (lv2 := [.ref 0, .int sd, .int (nI mn), .int us, .int w, UU, UU, UU, UU]) rfl ?_
  refine ww_aload_n dX10_span_0 rfl rfl ?_
  refine ww_iload_n dX10_span_1 rfl rfl ?_
  refine ww_iconst (v := nI 1) dX10_span_2 (by decide) ?_
  refine ww_bipush (v := nI 20) dX10_span_3 (by decide) ?_
  refine ww_cV0 (M := m_X10_span) (pc := 5) (h1 := h) (st := []) (d := 7) (bc := 1) (bs := 6) (c_within_t hst (nI mn) (nI 1) (nI 20) (nI_le (by omega) (by omega)) (nI_le (by omega) (by omega)) _) vv_X10_within dX10_span_5 wg_410 (hC.K0) rfl rfl rfl rfl (Nat.le_of_ble_eq_true rfl) (Nat.le_of_ble_eq_true rfl) (Nat.le_of_ble_eq_true rfl) (Nat.le_of_ble_eq_true rfl) ?_
  refine ww_aload_n dX10_span_8 rfl rfl ?_
  refine ww_iload_n dX10_span_9 rfl rfl ?_
  refine ww_iconst (v := nI 1) dX10_span_10 (by decide) ?_
  refine ww_bipush (v := nI 96) dX10_span_11 (by decide) ?_
  exact ww_cVt (M := m_X10_span) (pc := 13) (st := []) (d := 7) (bc := 0) (bs := 0) (c_within_f hst hC.K0 hwr us (nI 1) (nI 96) hout) vv_X10_within dX10_span_13 wg_410 (hC.K0) rfl rfl rfl rfl (Nat.le_of_ble_eq_true rfl) (Nat.le_of_ble_eq_true rfl) (Nat.le_of_ble_eq_true rfl) (Nat.le_of_ble_eq_true rfl) ⟨rfl, rfl⟩
set_option maxHeartbeats 4000000 in
set_option maxRecDepth 100000 in
theorem c_K_span_no2 {l : Launch} {Z : EE} (hst : l.stackTraces = false) {h : PH} {la lw bk : Nat} (hC : CL h la lw bk) {wr : Int32} (hwr : hp_F h 0 13 = .int wr) (sd : Int32) (mn : Nat) (lmn : 1 ≤ mn) (hmn : mn ≤ 20) (us : Nat) (lus : 1 ≤ us) (hus : us ≤ 96) (w : Int32) (hout : ¬ (nI 0 ≤ w ∧ w ≤ nI 2)) : CC l Z m_X10_span 7 1 6 [.ref 0, .int sd, .int (nI mn), .int (nI us), .int w] h (TH iaX (hp_sF h 0 13 (.int (wr + nI 1)))) := by
  refine ee_entry hst (by decide +kernel) rfl rfl (by simp [Value.category]) (Nat.le_of_ble_eq_true rfl) ?_
  refine ww_lv (lv2 := [.ref 0, .int sd, .int (nI mn), .int (nI us), .int w, UU, UU, UU, UU]) rfl ?_
  refine ww_aload_n dX10_span_0 rfl rfl ?_
  refine ww_iload_n dX10_span_1 rfl rfl ?_
  refine ww_iconst (v := nI 1) dX10_span_2 (by decide) ?_
  refine ww_bipush (v := nI 20) dX10_span_3 (by decide) ?_
  refine ww_cV0 (M := m_X10_span) (pc := 5) (h1 := h) (st := []) (d := 7) (bc := 1) (bs := 6) (c_within_t hst (nI mn) (nI 1) (nI 20) (nI_le (by omega) (by omega)) (nI_le (by omega) (by omega)) _) vv_X10_within dX10_span_5 wg_410 (hC.K0) rfl rfl rfl rfl (Nat.le_of_ble_eq_true rfl) (Nat.le_of_ble_eq_true rfl) (Nat.le_of_ble_eq_true rfl) (Nat.le_of_ble_eq_true rfl) ?_
  refine ww_aload_n dX10_span_8 rfl rfl ?_
  refine ww_iload_n dX10_span_9 rfl rfl ?_
  refine ww_iconst (v := nI 1) dX10_span_10 (by decide) ?_
  refine ww_bipush (v := nI 96) dX10_span_11 (by decide) ?_
  refine ww_cV0 (M := m_X10_span) (pc := 13) (h1 := h) (st := []) (d := 7) (bc := 1) (bs := 6) (c_within_t hst (nI us) (nI 1) (nI 96) (nI_le (by omega) (by omega)) (nI_le (by omega) (by omega)) _) vv_X10_within dX10_span_13 wg_410 (hC.K0) rfl rfl rfl rfl (Nat.le_of_ble_eq_true rfl) (Nat.le_of_ble_eq_true rfl) (Nat.le_of_ble_eq_true rfl) (Nat.le_of_ble_eq_true rfl) ?_
  refine ww_aload_n dX10_span_16 rfl rfl ?_
  refine ww_iload dX10_span_17 rfl ?_
  refine ww_iconst (v := nI 0) dX10_span_19 (by decide) ?_
  refine ww_iconst (v := nI 2) dX10_span_20 (by decide) ?_
  exact ww_cVt (M := m_X10_span) (pc := 21) (st := []) (d := 7) (bc := 0) (bs := 0) (c_within_f hst hC.K0 hwr w (nI 0) (nI 2) hout) vv_X10_within dX10_span_21 wg_410 (hC.K0) rfl rfl rfl rfl (Nat.le_of_ble_eq_true rfl) (Nat.le_of_ble_eq_true rfl) (Nat.le_of_ble_eq_true rfl) (Nat.le_of_ble_eq_true rfl) ⟨rfl, rfl⟩
