/-! ===== the reference's year and span ===== -/
theorem MI.th {m sz : Nat} {kf vf g : Nat → Int32} {h : PH} (hM : ModS h m) (hQ : LawM h m sz kf vf) (hs : hp_I h (m + 15) = g) : MI m sz kf vf g h (hp_sF h m 0 (.int (nI 0))) :=
  ⟨ModS.sF hM (by decide), hQ.same (Same.rf.sF (SY0 m)) (SX_no (by decide)) (SX_no (by decide)) (SY_no (by decide)), hs, Same.rf.sF (SY0 m), hp_F_eq _ _ _ _⟩
theorem mxF_1 {g : Nat → Int32} {k : Nat} (c : ¬ g (183 + k) ≤ foI (fun q m => mxI m (g (183 + q))) 0 k) : foI (fun q m => mxI m (g (183 + q))) 0 (k + 1) = g (183 + k) := by
  exact if_pos (Int32.not_le.mp c)
theorem mxF_0 {g : Nat → Int32} {k : Nat} (c : g (183 + k) ≤ foI (fun q m => mxI m (g (183 + q))) 0 k) : foI (fun q m => mxI m (g (183 + q))) 0 (k + 1) = foI (fun q m => mxI m (g (183 + q))) 0 k := by
  exact if_neg (Int32.not_lt.mpr c)
theorem yE_dn (sz : Nat) (kf vf : Nat → Int32) (np : Nat) (f : Nat → Int32) (sd : Int32) (us : Nat) : (yE sz kf vf np f sd us).2.2.1 ≤ us := by
  unfold yE
  split
  · exact Nat.zero_le _
  · exact yF_dn sz kf vf np f sd us
set_option maxHeartbeats 4000000 in
set_option maxRecDepth 100000 in
theorem l_M_yrich {l : Launch} {Z : EE} (hst : l.stackTraces = false) {h hq1 : PH} {m sz : Nat} {kf vf g9 : Nat → Int32} {x : YS} (hy9 : MY m sz kf vf g9 x.2.1 x.2.2.1 x.2.2.2 h hq1) {np : Nat} (hnp9 : hp_F hq1 m 15 = .int (nI np)) (h6 : np ≤ 6) (sd : Int32) (us : Nat) {Post : Res → PH → Prop} : ∀ (j k : Nat), k + j = np → WW l Z m_X11_year 7 0 0 130 [.ref m, .int sd, .int (nI us), .int (nI 2), .int (foI (fun q m => mxI m (g9 (183 + q))) 0 np), .int (nI np)] [] hq1 Post → WW l Z m_X11_year 7 0 0 81 [.ref m, .int sd, .int (nI us), .int (nI 2), .int (foI (fun q m => mxI m (g9 (183 + q))) 0 k), .int (nI k)] [] hq1 Post := by
  intro j
  induction j with
  | zero =>
    intro k hk hexit
    have hk0 : k = np := by omega
    subst hk0
    refine ww_iload dX11_year_81 rfl ?_
    refine ww_aload_n dX11_year_83 rfl rfl ?_
    refine ww_get 15 dX11_year_84 hy9.1.1.K0 rfl (by decide) inX11 wg_1255 hnp9 ?_
    refine ww_icmp_geN (tgt := 130) dX11_year_87 (by decide) (by omega) (by omega) (fun c87 => ?_) (fun c87 => ?_)
    · exact hexit
    · exfalso; omega
  | succ j ih =>
    intro k hk hexit
    refine ww_iload dX11_year_81 rfl ?_
    refine ww_aload_n dX11_year_83 rfl rfl ?_
    refine ww_get 15 dX11_year_84 hy9.1.1.K0 rfl (by decide) inX11 wg_1255 hnp9 ?_
    refine ww_icmp_geN (tgt := 130) dX11_year_87 (by decide) (by omega) (by omega) (fun c87 => ?_) (fun c87 => ?_)
    · exfalso; omega
    · refine ww_aload_n dX11_year_90 rfl rfl ?_
      refine ww_get 34 dX11_year_91 hy9.1.1.K0 rfl (by decide) inX11 wg_1274 hy9.1.1.F15 ?_
      refine ww_sipush (v := nI 183) dX11_year_94 (by decide) ?_
      refine ww_iload dX11_year_97 rfl ?_
      refine ww_iaddN dX11_year_99 ?_
      refine ww_ialdF dX11_year_100 hy9.1.1.K15 hy9.1.2.2.1 (by omega) (by omega) ?_
      refine ww_iload dX11_year_101 rfl ?_
      refine ww_icmp_le (tgt := 120) dX11_year_103 (by decide) (fun c103 => ?_) (fun c103 => ?_)
      · refine ww_iload dX11_year_120 rfl ?_
        refine ww_sti (lv2 := [.ref m, .int sd, .int (nI us), .int (nI 2), .int (foI (fun q m => mxI m (g9 (183 + q))) 0 k), .int (nI k)]) dX11_year_122 rfl (by decide) rfl ?_
        refine ww_incN (c := 1) (lv2 := [.ref m, .int sd, .int (nI us), .int (nI 2), .int (foI (fun q m => mxI m (g9 (183 + q))) 0 k), .int (nI (k + 1))]) dX11_year_124 rfl rfl rfl (by decide) rfl ?_
        refine ww_goto (tgt := 81) dX11_year_127 (by decide) ?_
        refine ww_lv (lv2 := [.ref m, .int sd, .int (nI us), .int (nI 2), .int (foI (fun q m => mxI m (g9 (183 + q))) 0 (k + 1)), .int (nI (k + 1))]) (by first | rw [mxF_1 c103] | rw [mxF_0 c103]) ?_
        exact ih (k + 1) (by omega) hexit
      · refine ww_aload_n dX11_year_106 rfl rfl ?_
        refine ww_get 34 dX11_year_107 hy9.1.1.K0 rfl (by decide) inX11 wg_1274 hy9.1.1.F15 ?_
        refine ww_sipush (v := nI 183) dX11_year_110 (by decide) ?_
        refine ww_iload dX11_year_113 rfl ?_
        refine ww_iaddN dX11_year_115 ?_
        refine ww_ialdF dX11_year_116 hy9.1.1.K15 hy9.1.2.2.1 (by omega) (by omega) ?_
        refine ww_goto (tgt := 122) dX11_year_117 (by decide) ?_
        refine ww_sti (lv2 := [.ref m, .int sd, .int (nI us), .int (nI 2), .int (g9 (183 + k)), .int (nI k)]) dX11_year_122 rfl (by decide) rfl ?_
        refine ww_incN (c := 1) (lv2 := [.ref m, .int sd, .int (nI us), .int (nI 2), .int (g9 (183 + k)), .int (nI (k + 1))]) dX11_year_124 rfl rfl rfl (by decide) rfl ?_
        refine ww_goto (tgt := 81) dX11_year_127 (by decide) ?_
        refine ww_lv (lv2 := [.ref m, .int sd, .int (nI us), .int (nI 2), .int (foI (fun q m => mxI m (g9 (183 + q))) 0 (k + 1)), .int (nI (k + 1))]) (by first | rw [mxF_1 c103] | rw [mxF_0 c103]) ?_
        exact ih (k + 1) (by omega) hexit
set_option maxHeartbeats 4000000 in
set_option maxRecDepth 100000 in
theorem l_M_ymet {l : Launch} {Z : EE} (hst : l.stackTraces = false) {h hq1 : PH} {m sz : Nat} {kf vf g9 : Nat → Int32} {x : YS} (hy9 : MY m sz kf vf g9 x.2.1 x.2.2.1 x.2.2.2 h hq1) {np : Nat} (hnp9 : hp_F hq1 m 15 = .int (nI np)) (h6 : np ≤ 6) (sd : Int32) (us : Nat) {Post : Res → PH → Prop} : ∀ (j k : Nat), k + j = 61 → WW l Z m_X11_year 7 0 0 171 [.ref m, .int sd, .int (nI us), .int (nI 3), .int (nI (cnt (fun i => x.2.2.2 i != 0) 61)), .int (nI 61)] [] hq1 Post → WW l Z m_X11_year 7 0 0 138 [.ref m, .int sd, .int (nI us), .int (nI 3), .int (nI (cnt (fun i => x.2.2.2 i != 0) k)), .int (nI k)] [] hq1 Post := by
  intro j
  induction j with
  | zero =>
    intro k hk hexit
    have hk0 : k = 61 := by omega
    subst hk0
    refine ww_iload dX11_year_138 rfl ?_
    refine ww_bipush (v := nI 61) dX11_year_140 (by decide) ?_
    refine ww_icmp_geN (tgt := 171) dX11_year_142 (by decide) (by omega) (by omega) (fun c142 => ?_) (fun c142 => ?_)
    · exact hexit
    · exfalso; omega
  | succ j ih =>
    intro k hk hexit
    refine ww_iload dX11_year_138 rfl ?_
    refine ww_bipush (v := nI 61) dX11_year_140 (by decide) ?_
    refine ww_icmp_geN (tgt := 171) dX11_year_142 (by decide) (by omega) (by omega) (fun c142 => ?_) (fun c142 => ?_)
    · exfalso; omega
    · refine ww_iload dX11_year_145 rfl ?_
      refine ww_aload_n dX11_year_147 rfl rfl ?_
      refine ww_get 50 dX11_year_148 hy9.1.1.K0 rfl (by decide) inX11 wg_1290 hy9.1.1.F24 ?_
      refine ww_iload dX11_year_151 rfl ?_
      refine ww_zaldF dX11_year_153 hy9.1.1.K24 rfl (by omega) (by omega) ?_
      refine ww_sk (st2 := [.int (x.2.2.2 k), .int (nI (cnt (fun i => x.2.2.2 i != 0) k))]) (by rw [hy9.2.2.2 k (by omega)]) ?_
      refine ww_if_eq (tgt := 161) dX11_year_154 (by decide) (fun c154 => ?_) (fun c154 => ?_)
      · refine ww_iconst (v := nI 0) dX11_year_161 (by decide) ?_
        refine ww_iaddN dX11_year_162 ?_
        refine ww_sti (lv2 := [.ref m, .int sd, .int (nI us), .int (nI 3), .int (nI ((cnt (fun i => x.2.2.2 i != 0) k) + 0)), .int (nI k)]) dX11_year_163 rfl (by decide) rfl ?_
        refine ww_incN (c := 1) (lv2 := [.ref m, .int sd, .int (nI us), .int (nI 3), .int (nI ((cnt (fun i => x.2.2.2 i != 0) k) + 0)), .int (nI (k + 1))]) dX11_year_165 rfl rfl rfl (by decide) rfl ?_
        refine ww_goto (tgt := 138) dX11_year_168 (by decide) ?_
        refine ww_lv (lv2 := [.ref m, .int sd, .int (nI us), .int (nI 3), .int (nI (cnt (fun i => x.2.2.2 i != 0) (k + 1))), .int (nI (k + 1))]) (by simp [cnt, c154]) ?_
        exact ih (k + 1) (by omega) hexit
      · refine ww_iconst (v := nI 1) dX11_year_157 (by decide) ?_
        refine ww_goto (tgt := 162) dX11_year_158 (by decide) ?_
        refine ww_iaddN dX11_year_162 ?_
        refine ww_sti (lv2 := [.ref m, .int sd, .int (nI us), .int (nI 3), .int (nI ((cnt (fun i => x.2.2.2 i != 0) k) + 1)), .int (nI k)]) dX11_year_163 rfl (by decide) rfl ?_
        refine ww_incN (c := 1) (lv2 := [.ref m, .int sd, .int (nI us), .int (nI 3), .int (nI ((cnt (fun i => x.2.2.2 i != 0) k) + 1)), .int (nI (k + 1))]) dX11_year_165 rfl rfl rfl (by decide) rfl ?_
        refine ww_goto (tgt := 138) dX11_year_168 (by decide) ?_
        refine ww_lv (lv2 := [.ref m, .int sd, .int (nI us), .int (nI 3), .int (nI (cnt (fun i => x.2.2.2 i != 0) (k + 1))), .int (nI (k + 1))]) (by simp [cnt, c154]) ?_
        exact ih (k + 1) (by omega) hexit
set_option maxHeartbeats 4000000 in
set_option maxRecDepth 100000 in
theorem c_M_year0 {l : Launch} {Z : EE} (hst : l.stackTraces = false) {h : PH} {m : Nat} (hM : ModS h m) {f : Nat → Int32} (hf : hp_I h (m + 14) = f) {g : Nat → Int32} (hs : hp_I h (m + 15) = g) {sz : Nat} {kf vf : Nat → Int32} (hQ : LawM h m sz kf vf) (hok : LawOK kf vf sz) {np : Nat} (hnp : hp_F h m 15 = .int (nI np)) (h6 : np ≤ 6) (hu : RowU f np) (sd : Int32) (us : Nat) (lus : 1 ≤ us) (hus : us ≤ 96) : CC l Z m_X11_year 7 0 0 [.ref m, .int sd, .int (nI us), .int (nI 0)] h (MOk (nI (yE sz kf vf np f sd us).2.2.1) m h) := by
  refine ee_entry hst (by decide +kernel) rfl rfl (by simp [Value.category]) (Nat.le_of_ble_eq_true rfl) ?_
  refine ww_lv (lv2 := [.ref m, .int sd, .int (nI us), .int (nI 0), UU, UU]) rfl ?_
  refine ww_aload_n dX11_year_0 rfl rfl ?_
  refine ww_iconst (v := nI 0) dX11_year_1 (by decide) ?_
  refine ww_pfI tyX11 0 dX11_year_2 hM.K0 rfl (by decide) inX11 tyX11_ok nmX11 wg_1240 rfl rfl ?_
  refine ww_aload_n dX11_year_5 rfl rfl ?_
  refine ww_iload_n dX11_year_6 rfl rfl ?_
  refine ww_iconst (v := nI 1) dX11_year_7 (by decide) ?_
  refine ww_bipush (v := nI 96) dX11_year_8 (by decide) ?_
  refine ww_cSr (M := m_X11_year) (pc := 10) (v := .int (nI 1)) (h1 := hp_sF h m 0 (.int (nI 0))) (st := [.ref m]) (d := 7) (bc := 0) (bs := 0) (c_M_within_t hst (nI us) (nI 1) (nI 96) (nI_le (by omega) (by omega)) (nI_le (by omega) (by omega)) _) vv_X11_within dX11_year_10 wg_1601 rfl rfl rfl (Nat.le_of_ble_eq_true rfl) (Nat.le_of_ble_eq_true rfl) (Nat.le_of_ble_eq_true rfl) (Nat.le_of_ble_eq_true rfl) ?_
  refine ww_if_eqN (tgt := 29) dX11_year_13 (by decide) (by omega) (fun c13 => ?_) (fun c13 => ?_)
  · exact absurd c13 (by decide)
  · refine ww_iload_n dX11_year_16 rfl rfl ?_
    refine ww_iconst (v := nI 0) dX11_year_17 (by decide) ?_
    refine ww_iconst (v := nI 3) dX11_year_18 (by decide) ?_
    refine ww_cSr (M := m_X11_year) (pc := 19) (v := .int (nI 1)) (h1 := hp_sF h m 0 (.int (nI 0))) (st := [.ref m]) (d := 7) (bc := 0) (bs := 0) (c_M_within_t hst (nI 0) (nI 0) (nI 3) (by decide) (by decide) _) vv_X11_within dX11_year_19 wg_1601 rfl rfl rfl (Nat.le_of_ble_eq_true rfl) (Nat.le_of_ble_eq_true rfl) (Nat.le_of_ble_eq_true rfl) (Nat.le_of_ble_eq_true rfl) ?_
    refine ww_if_eqN (tgt := 29) dX11_year_22 (by decide) (by omega) (fun c22 => ?_) (fun c22 => ?_)
    · exact absurd c22 (by decide)
    · refine ww_iconst (v := nI 1) dX11_year_25 (by decide) ?_
      refine ww_goto (tgt := 30) dX11_year_26 (by decide) ?_
      refine ww_iconst (v := nI 1) dX11_year_30 (by decide) ?_
      refine ww_iconst (v := nI 1) dX11_year_31 (by decide) ?_
      refine ww_cVr (M := m_X11_year) (pc := 32) (v := .int (nI 1)) (h1 := hp_sF h m 0 (.int (nI 0))) (st := []) (d := 7) (bc := 0) (bs := 0) (c_M_may_t hst (h := hp_sF h m 0 (.int (nI 0))) (ModS.sF hM (by decide)) (hp_F_eq _ _ _ _) (nI 1) (nI 1)) vv_X11_may dX11_year_32 wg_1413 hM.K0 rfl rfl rfl rfl (Nat.le_of_ble_eq_true rfl) (Nat.le_of_ble_eq_true rfl) (Nat.le_of_ble_eq_true rfl) (Nat.le_of_ble_eq_true rfl) ?_
      refine ww_if_neN (tgt := 40) dX11_year_35 (by decide) (by omega) (fun c35 => ?_) (fun c35 => ?_)
      · refine ww_aload_n dX11_year_40 rfl rfl ?_
        refine ww_iload_n dX11_year_41 rfl rfl ?_
        refine ww_iload_n dX11_year_42 rfl rfl ?_
        refine ww_cVq0 (M := m_X11_year) (pc := 43) (st := []) (d := 7) (bc := 0) (bs := 0) (c_M_yearGoes hst hnp h6 hok hf hu (MI.th hM hQ hs) sd us (by omega) (by omega)) vv_X11_yearGoes dX11_year_43 wg_1763 hM.K0 rfl rfl rfl rfl (Nat.le_of_ble_eq_true rfl) (Nat.le_of_ble_eq_true rfl) (Nat.le_of_ble_eq_true rfl) (Nat.le_of_ble_eq_true rfl) (fun hq1 qq1 => ?_)
        obtain ⟨g9, eg9, hy9⟩ := qq1
        have hd9 := yE_dn sz kf vf np f sd us
        generalize hxe : (yE sz kf vf np f sd us) = x at eg9 hy9 hd9 ⊢
        have hnp9 : hp_F hq1 m 15 = .int (nI np) := (hy9.1.2.2.2.1.2.2.1 m 15 (SY_no (by decide))).trans hnp
        refine ww_iload_n dX11_year_46 rfl rfl ?_
        refine ww_iconst (v := nI 2) dX11_year_47 (by decide) ?_
        refine ww_icmp_geN (tgt := 70) dX11_year_48 (by decide) (by omega) (by omega) (fun c48 => ?_) (fun c48 => ?_)
        · exact absurd c48 (by decide)
        · refine ww_iload_n dX11_year_51 rfl rfl ?_
          refine ww_if_neN (tgt := 62) dX11_year_52 (by decide) (by omega) (fun c52 => ?_) (fun c52 => ?_)
          · exact absurd c52 (by decide)
          · refine ww_aload_n dX11_year_55 rfl rfl ?_
            refine ww_get 49 dX11_year_56 hy9.1.1.K0 rfl (by decide) inX11 wg_1289 hy9.2.2.1 ?_
            refine ww_goto (tgt := 69) dX11_year_59 (by decide) ?_
            exact ww_iret dX11_year_69 rfl ⟨rfl, hy9.1.2.2.2.1, hy9.1.2.2.2.2⟩
      · exact absurd c35 (by decide)
set_option maxHeartbeats 4000000 in
set_option maxRecDepth 100000 in
theorem c_M_year1 {l : Launch} {Z : EE} (hst : l.stackTraces = false) {h : PH} {m : Nat} (hM : ModS h m) {f : Nat → Int32} (hf : hp_I h (m + 14) = f) {g : Nat → Int32} (hs : hp_I h (m + 15) = g) {sz : Nat} {kf vf : Nat → Int32} (hQ : LawM h m sz kf vf) (hok : LawOK kf vf sz) {np : Nat} (hnp : hp_F h m 15 = .int (nI np)) (h6 : np ≤ 6) (hu : RowU f np) (sd : Int32) (us : Nat) (lus : 1 ≤ us) (hus : us ≤ 96) : CC l Z m_X11_year 7 0 0 [.ref m, .int sd, .int (nI us), .int (nI 1)] h (MOk (smI (fun q => (yE sz kf vf np f sd us).1 (183 + q)) np) m h) := by
  refine ee_entry hst (by decide +kernel) rfl rfl (by simp [Value.category]) (Nat.le_of_ble_eq_true rfl) ?_
  refine ww_lv (lv2 := [.ref m, .int sd, .int (nI us), .int (nI 1), UU, UU]) rfl ?_
  refine ww_aload_n dX11_year_0 rfl rfl ?_
  refine ww_iconst (v := nI 0) dX11_year_1 (by decide) ?_
  refine ww_pfI tyX11 0 dX11_year_2 hM.K0 rfl (by decide) inX11 tyX11_ok nmX11 wg_1240 rfl rfl ?_
  refine ww_aload_n dX11_year_5 rfl rfl ?_
  refine ww_iload_n dX11_year_6 rfl rfl ?_
  refine ww_iconst (v := nI 1) dX11_year_7 (by decide) ?_
  refine ww_bipush (v := nI 96) dX11_year_8 (by decide) ?_
  refine ww_cSr (M := m_X11_year) (pc := 10) (v := .int (nI 1)) (h1 := hp_sF h m 0 (.int (nI 0))) (st := [.ref m]) (d := 7) (bc := 0) (bs := 0) (c_M_within_t hst (nI us) (nI 1) (nI 96) (nI_le (by omega) (by omega)) (nI_le (by omega) (by omega)) _) vv_X11_within dX11_year_10 wg_1601 rfl rfl rfl (Nat.le_of_ble_eq_true rfl) (Nat.le_of_ble_eq_true rfl) (Nat.le_of_ble_eq_true rfl) (Nat.le_of_ble_eq_true rfl) ?_
  refine ww_if_eqN (tgt := 29) dX11_year_13 (by decide) (by omega) (fun c13 => ?_) (fun c13 => ?_)
  · exact absurd c13 (by decide)
  · refine ww_iload_n dX11_year_16 rfl rfl ?_
    refine ww_iconst (v := nI 0) dX11_year_17 (by decide) ?_
    refine ww_iconst (v := nI 3) dX11_year_18 (by decide) ?_
    refine ww_cSr (M := m_X11_year) (pc := 19) (v := .int (nI 1)) (h1 := hp_sF h m 0 (.int (nI 0))) (st := [.ref m]) (d := 7) (bc := 0) (bs := 0) (c_M_within_t hst (nI 1) (nI 0) (nI 3) (by decide) (by decide) _) vv_X11_within dX11_year_19 wg_1601 rfl rfl rfl (Nat.le_of_ble_eq_true rfl) (Nat.le_of_ble_eq_true rfl) (Nat.le_of_ble_eq_true rfl) (Nat.le_of_ble_eq_true rfl) ?_
    refine ww_if_eqN (tgt := 29) dX11_year_22 (by decide) (by omega) (fun c22 => ?_) (fun c22 => ?_)
    · exact absurd c22 (by decide)
    · refine ww_iconst (v := nI 1) dX11_year_25 (by decide) ?_
      refine ww_goto (tgt := 30) dX11_year_26 (by decide) ?_
      refine ww_iconst (v := nI 1) dX11_year_30 (by decide) ?_
      refine ww_iconst (v := nI 1) dX11_year_31 (by decide) ?_
      refine ww_cVr (M := m_X11_year) (pc := 32) (v := .int (nI 1)) (h1 := hp_sF h m 0 (.int (nI 0))) (st := []) (d := 7) (bc := 0) (bs := 0) (c_M_may_t hst (h := hp_sF h m 0 (.int (nI 0))) (ModS.sF hM (by decide)) (hp_F_eq _ _ _ _) (nI 1) (nI 1)) vv_X11_may dX11_year_32 wg_1413 hM.K0 rfl rfl rfl rfl (Nat.le_of_ble_eq_true rfl) (Nat.le_of_ble_eq_true rfl) (Nat.le_of_ble_eq_true rfl) (Nat.le_of_ble_eq_true rfl) ?_
      refine ww_if_neN (tgt := 40) dX11_year_35 (by decide) (by omega) (fun c35 => ?_) (fun c35 => ?_)
      · refine ww_aload_n dX11_year_40 rfl rfl ?_
        refine ww_iload_n dX11_year_41 rfl rfl ?_
        refine ww_iload_n dX11_year_42 rfl rfl ?_
        refine ww_cVq0 (M := m_X11_year) (pc := 43) (st := []) (d := 7) (bc := 0) (bs := 0) (c_M_yearGoes hst hnp h6 hok hf hu (MI.th hM hQ hs) sd us (by omega) (by omega)) vv_X11_yearGoes dX11_year_43 wg_1763 hM.K0 rfl rfl rfl rfl (Nat.le_of_ble_eq_true rfl) (Nat.le_of_ble_eq_true rfl) (Nat.le_of_ble_eq_true rfl) (Nat.le_of_ble_eq_true rfl) (fun hq1 qq1 => ?_)
        obtain ⟨g9, eg9, hy9⟩ := qq1
        have hd9 := yE_dn sz kf vf np f sd us
        generalize hxe : (yE sz kf vf np f sd us) = x at eg9 hy9 hd9 ⊢
        have hnp9 : hp_F hq1 m 15 = .int (nI np) := (hy9.1.2.2.2.1.2.2.1 m 15 (SY_no (by decide))).trans hnp
        refine ww_iload_n dX11_year_46 rfl rfl ?_
        refine ww_iconst (v := nI 2) dX11_year_47 (by decide) ?_
        refine ww_icmp_geN (tgt := 70) dX11_year_48 (by decide) (by omega) (by omega) (fun c48 => ?_) (fun c48 => ?_)
        · exact absurd c48 (by decide)
        · refine ww_iload_n dX11_year_51 rfl rfl ?_
          refine ww_if_neN (tgt := 62) dX11_year_52 (by decide) (by omega) (fun c52 => ?_) (fun c52 => ?_)
          · refine ww_aload_n dX11_year_62 rfl rfl ?_
            refine ww_sipush (v := nI 183) dX11_year_63 (by decide) ?_
            refine ww_cVr (M := m_X11_year) (pc := 66) (v := .int (smI (fun i => g9 (183 + i)) np)) (h1 := hq1) (st := []) (d := 7) (bc := 0) (bs := 0) (c_M_coinsOf hst hy9.1.1 hnp9 h6 hy9.1.2.2.1) vv_X11_coinsOf dX11_year_66 wg_1604 hy9.1.1.K0 rfl rfl rfl rfl (Nat.le_of_ble_eq_true rfl) (Nat.le_of_ble_eq_true rfl) (Nat.le_of_ble_eq_true rfl) (Nat.le_of_ble_eq_true rfl) ?_
            exact ww_iret dX11_year_69 rfl ⟨by rw [smI_congr np (fun q hq => eg9 _ (by omega))], hy9.1.2.2.2.1, hy9.1.2.2.2.2⟩
          · exact absurd c52 (by decide)
      · exact absurd c35 (by decide)
set_option maxHeartbeats 4000000 in
set_option maxRecDepth 100000 in
theorem c_M_year2 {l : Launch} {Z : EE} (hst : l.stackTraces = false) {h : PH} {m : Nat} (hM : ModS h m) {f : Nat → Int32} (hf : hp_I h (m + 14) = f) {g : Nat → Int32} (hs : hp_I h (m + 15) = g) {sz : Nat} {kf vf : Nat → Int32} (hQ : LawM h m sz kf vf) (hok : LawOK kf vf sz) {np : Nat} (hnp : hp_F h m 15 = .int (nI np)) (h6 : np ≤ 6) (hu : RowU f np) (sd : Int32) (us : Nat) (lus : 1 ≤ us) (hus : us ≤ 96) : CC l Z m_X11_year 7 0 0 [.ref m, .int sd, .int (nI us), .int (nI 2)] h (MOk (foI (fun q m => mxI m ((yE sz kf vf np f sd us).1 (183 + q))) 0 np) m h) := by
  refine ee_entry hst (by decide +kernel) rfl rfl (by simp [Value.category]) (Nat.le_of_ble_eq_true rfl) ?_
  refine ww_lv (lv2 := [.ref m, .int sd, .int (nI us), .int (nI 2), UU, UU]) rfl ?_
  refine ww_aload_n dX11_year_0 rfl rfl ?_
  refine ww_iconst (v := nI 0) dX11_year_1 (by decide) ?_
  refine ww_pfI tyX11 0 dX11_year_2 hM.K0 rfl (by decide) inX11 tyX11_ok nmX11 wg_1240 rfl rfl ?_
  refine ww_aload_n dX11_year_5 rfl rfl ?_
  refine ww_iload_n dX11_year_6 rfl rfl ?_
  refine ww_iconst (v := nI 1) dX11_year_7 (by decide) ?_
  refine ww_bipush (v := nI 96) dX11_year_8 (by decide) ?_
  refine ww_cSr (M := m_X11_year) (pc := 10) (v := .int (nI 1)) (h1 := hp_sF h m 0 (.int (nI 0))) (st := [.ref m]) (d := 7) (bc := 0) (bs := 0) (c_M_within_t hst (nI us) (nI 1) (nI 96) (nI_le (by omega) (by omega)) (nI_le (by omega) (by omega)) _) vv_X11_within dX11_year_10 wg_1601 rfl rfl rfl (Nat.le_of_ble_eq_true rfl) (Nat.le_of_ble_eq_true rfl) (Nat.le_of_ble_eq_true rfl) (Nat.le_of_ble_eq_true rfl) ?_
  refine ww_if_eqN (tgt := 29) dX11_year_13 (by decide) (by omega) (fun c13 => ?_) (fun c13 => ?_)
  · exact absurd c13 (by decide)
  · refine ww_iload_n dX11_year_16 rfl rfl ?_
    refine ww_iconst (v := nI 0) dX11_year_17 (by decide) ?_
    refine ww_iconst (v := nI 3) dX11_year_18 (by decide) ?_
    refine ww_cSr (M := m_X11_year) (pc := 19) (v := .int (nI 1)) (h1 := hp_sF h m 0 (.int (nI 0))) (st := [.ref m]) (d := 7) (bc := 0) (bs := 0) (c_M_within_t hst (nI 2) (nI 0) (nI 3) (by decide) (by decide) _) vv_X11_within dX11_year_19 wg_1601 rfl rfl rfl (Nat.le_of_ble_eq_true rfl) (Nat.le_of_ble_eq_true rfl) (Nat.le_of_ble_eq_true rfl) (Nat.le_of_ble_eq_true rfl) ?_
    refine ww_if_eqN (tgt := 29) dX11_year_22 (by decide) (by omega) (fun c22 => ?_) (fun c22 => ?_)
    · exact absurd c22 (by decide)
    · refine ww_iconst (v := nI 1) dX11_year_25 (by decide) ?_
      refine ww_goto (tgt := 30) dX11_year_26 (by decide) ?_
      refine ww_iconst (v := nI 1) dX11_year_30 (by decide) ?_
      refine ww_iconst (v := nI 1) dX11_year_31 (by decide) ?_
      refine ww_cVr (M := m_X11_year) (pc := 32) (v := .int (nI 1)) (h1 := hp_sF h m 0 (.int (nI 0))) (st := []) (d := 7) (bc := 0) (bs := 0) (c_M_may_t hst (h := hp_sF h m 0 (.int (nI 0))) (ModS.sF hM (by decide)) (hp_F_eq _ _ _ _) (nI 1) (nI 1)) vv_X11_may dX11_year_32 wg_1413 hM.K0 rfl rfl rfl rfl (Nat.le_of_ble_eq_true rfl) (Nat.le_of_ble_eq_true rfl) (Nat.le_of_ble_eq_true rfl) (Nat.le_of_ble_eq_true rfl) ?_
      refine ww_if_neN (tgt := 40) dX11_year_35 (by decide) (by omega) (fun c35 => ?_) (fun c35 => ?_)
      · refine ww_aload_n dX11_year_40 rfl rfl ?_
        refine ww_iload_n dX11_year_41 rfl rfl ?_
        refine ww_iload_n dX11_year_42 rfl rfl ?_
        refine ww_cVq0 (M := m_X11_year) (pc := 43) (st := []) (d := 7) (bc := 0) (bs := 0) (c_M_yearGoes hst hnp h6 hok hf hu (MI.th hM hQ hs) sd us (by omega) (by omega)) vv_X11_yearGoes dX11_year_43 wg_1763 hM.K0 rfl rfl rfl rfl (Nat.le_of_ble_eq_true rfl) (Nat.le_of_ble_eq_true rfl) (Nat.le_of_ble_eq_true rfl) (Nat.le_of_ble_eq_true rfl) (fun hq1 qq1 => ?_)
        obtain ⟨g9, eg9, hy9⟩ := qq1
        have hd9 := yE_dn sz kf vf np f sd us
        generalize hxe : (yE sz kf vf np f sd us) = x at eg9 hy9 hd9 ⊢
        have hnp9 : hp_F hq1 m 15 = .int (nI np) := (hy9.1.2.2.2.1.2.2.1 m 15 (SY_no (by decide))).trans hnp
        refine ww_iload_n dX11_year_46 rfl rfl ?_
        refine ww_iconst (v := nI 2) dX11_year_47 (by decide) ?_
        refine ww_icmp_geN (tgt := 70) dX11_year_48 (by decide) (by omega) (by omega) (fun c48 => ?_) (fun c48 => ?_)
        · refine ww_iconst (v := nI 0) dX11_year_70 (by decide) ?_
          refine ww_sti (lv2 := [.ref m, .int sd, .int (nI us), .int (nI 2), .int (nI 0), UU]) dX11_year_71 rfl (by decide) rfl ?_
          refine ww_iload_n dX11_year_73 rfl rfl ?_
          refine ww_iconst (v := nI 2) dX11_year_74 (by decide) ?_
          refine ww_icmp_neN (tgt := 130) dX11_year_75 (by decide) (by omega) (by omega) (fun c75 => ?_) (fun c75 => ?_)
          · exact absurd c75 (by decide)
          · refine ww_iconst (v := nI 0) dX11_year_78 (by decide) ?_
            refine ww_sti (lv2 := [.ref m, .int sd, .int (nI us), .int (nI 2), .int (nI 0), .int (nI 0)]) dX11_year_79 rfl (by decide) rfl ?_
            refine l_M_yrich hst hy9 hnp9 h6 sd us np 0 (by omega) ?_
            refine ww_iload_n dX11_year_130 rfl rfl ?_
            refine ww_iconst (v := nI 3) dX11_year_131 (by decide) ?_
            refine ww_icmp_neN (tgt := 171) dX11_year_132 (by decide) (by omega) (by omega) (fun c132 => ?_) (fun c132 => ?_)
            · refine ww_iload dX11_year_171 rfl ?_
              exact ww_iret dX11_year_173 rfl ⟨by rw [foI_congr np (fun q hq => by funext m; rw [eg9 _ (by omega)])], hy9.1.2.2.2.1, hy9.1.2.2.2.2⟩
            · exact absurd c132 (by decide)
        · exact absurd c48 (by decide)
      · exact absurd c35 (by decide)
set_option maxHeartbeats 4000000 in
set_option maxRecDepth 100000 in
theorem c_M_year3 {l : Launch} {Z : EE} (hst : l.stackTraces = false) {h : PH} {m : Nat} (hM : ModS h m) {f : Nat → Int32} (hf : hp_I h (m + 14) = f) {g : Nat → Int32} (hs : hp_I h (m + 15) = g) {sz : Nat} {kf vf : Nat → Int32} (hQ : LawM h m sz kf vf) (hok : LawOK kf vf sz) {np : Nat} (hnp : hp_F h m 15 = .int (nI np)) (h6 : np ≤ 6) (hu : RowU f np) (sd : Int32) (us : Nat) (lus : 1 ≤ us) (hus : us ≤ 96) : CC l Z m_X11_year 7 0 0 [.ref m, .int sd, .int (nI us), .int (nI 3)] h (MOk (nI (cnt (fun i => (yE sz kf vf np f sd us).2.2.2 i != 0) 61)) m h) := by
  refine ee_entry hst (by decide +kernel) rfl rfl (by simp [Value.category]) (Nat.le_of_ble_eq_true rfl) ?_
  refine ww_lv (lv2 := [.ref m, .int sd, .int (nI us), .int (nI 3), UU, UU]) rfl ?_
  refine ww_aload_n dX11_year_0 rfl rfl ?_
  refine ww_iconst (v := nI 0) dX11_year_1 (by decide) ?_
  refine ww_pfI tyX11 0 dX11_year_2 hM.K0 rfl (by decide) inX11 tyX11_ok nmX11 wg_1240 rfl rfl ?_
  refine ww_aload_n dX11_year_5 rfl rfl ?_
  refine ww_iload_n dX11_year_6 rfl rfl ?_
  refine ww_iconst (v := nI 1) dX11_year_7 (by decide) ?_
  refine ww_bipush (v := nI 96) dX11_year_8 (by decide) ?_
  refine ww_cSr (M := m_X11_year) (pc := 10) (v := .int (nI 1)) (h1 := hp_sF h m 0 (.int (nI 0))) (st := [.ref m]) (d := 7) (bc := 0) (bs := 0) (c_M_within_t hst (nI us) (nI 1) (nI 96) (nI_le (by omega) (by omega)) (nI_le (by omega) (by omega)) _) vv_X11_within dX11_year_10 wg_1601 rfl rfl rfl (Nat.le_of_ble_eq_true rfl) (Nat.le_of_ble_eq_true rfl) (Nat.le_of_ble_eq_true rfl) (Nat.le_of_ble_eq_true rfl) ?_
  refine ww_if_eqN (tgt := 29) dX11_year_13 (by decide) (by omega) (fun c13 => ?_) (fun c13 => ?_)
  · exact absurd c13 (by decide)
  · refine ww_iload_n dX11_year_16 rfl rfl ?_
    refine ww_iconst (v := nI 0) dX11_year_17 (by decide) ?_
    refine ww_iconst (v := nI 3) dX11_year_18 (by decide) ?_
    refine ww_cSr (M := m_X11_year) (pc := 19) (v := .int (nI 1)) (h1 := hp_sF h m 0 (.int (nI 0))) (st := [.ref m]) (d := 7) (bc := 0) (bs := 0) (c_M_within_t hst (nI 3) (nI 0) (nI 3) (by decide) (by decide) _) vv_X11_within dX11_year_19 wg_1601 rfl rfl rfl (Nat.le_of_ble_eq_true rfl) (Nat.le_of_ble_eq_true rfl) (Nat.le_of_ble_eq_true rfl) (Nat.le_of_ble_eq_true rfl) ?_
    refine ww_if_eqN (tgt := 29) dX11_year_22 (by decide) (by omega) (fun c22 => ?_) (fun c22 => ?_)
    · exact absurd c22 (by decide)
    · refine ww_iconst (v := nI 1) dX11_year_25 (by decide) ?_
      refine ww_goto (tgt := 30) dX11_year_26 (by decide) ?_
      refine ww_iconst (v := nI 1) dX11_year_30 (by decide) ?_
      refine ww_iconst (v := nI 1) dX11_year_31 (by decide) ?_
      refine ww_cVr (M := m_X11_year) (pc := 32) (v := .int (nI 1)) (h1 := hp_sF h m 0 (.int (nI 0))) (st := []) (d := 7) (bc := 0) (bs := 0) (c_M_may_t hst (h := hp_sF h m 0 (.int (nI 0))) (ModS.sF hM (by decide)) (hp_F_eq _ _ _ _) (nI 1) (nI 1)) vv_X11_may dX11_year_32 wg_1413 hM.K0 rfl rfl rfl rfl (Nat.le_of_ble_eq_true rfl) (Nat.le_of_ble_eq_true rfl) (Nat.le_of_ble_eq_true rfl) (Nat.le_of_ble_eq_true rfl) ?_
      refine ww_if_neN (tgt := 40) dX11_year_35 (by decide) (by omega) (fun c35 => ?_) (fun c35 => ?_)
      · refine ww_aload_n dX11_year_40 rfl rfl ?_
        refine ww_iload_n dX11_year_41 rfl rfl ?_
        refine ww_iload_n dX11_year_42 rfl rfl ?_
        refine ww_cVq0 (M := m_X11_year) (pc := 43) (st := []) (d := 7) (bc := 0) (bs := 0) (c_M_yearGoes hst hnp h6 hok hf hu (MI.th hM hQ hs) sd us (by omega) (by omega)) vv_X11_yearGoes dX11_year_43 wg_1763 hM.K0 rfl rfl rfl rfl (Nat.le_of_ble_eq_true rfl) (Nat.le_of_ble_eq_true rfl) (Nat.le_of_ble_eq_true rfl) (Nat.le_of_ble_eq_true rfl) (fun hq1 qq1 => ?_)
        obtain ⟨g9, eg9, hy9⟩ := qq1
        have hd9 := yE_dn sz kf vf np f sd us
        generalize hxe : (yE sz kf vf np f sd us) = x at eg9 hy9 hd9 ⊢
        have hnp9 : hp_F hq1 m 15 = .int (nI np) := (hy9.1.2.2.2.1.2.2.1 m 15 (SY_no (by decide))).trans hnp
        refine ww_iload_n dX11_year_46 rfl rfl ?_
        refine ww_iconst (v := nI 2) dX11_year_47 (by decide) ?_
        refine ww_icmp_geN (tgt := 70) dX11_year_48 (by decide) (by omega) (by omega) (fun c48 => ?_) (fun c48 => ?_)
        · refine ww_iconst (v := nI 0) dX11_year_70 (by decide) ?_
          refine ww_sti (lv2 := [.ref m, .int sd, .int (nI us), .int (nI 3), .int (nI 0), UU]) dX11_year_71 rfl (by decide) rfl ?_
          refine ww_iload_n dX11_year_73 rfl rfl ?_
          refine ww_iconst (v := nI 2) dX11_year_74 (by decide) ?_
          refine ww_icmp_neN (tgt := 130) dX11_year_75 (by decide) (by omega) (by omega) (fun c75 => ?_) (fun c75 => ?_)
          · refine ww_iload_n dX11_year_130 rfl rfl ?_
            refine ww_iconst (v := nI 3) dX11_year_131 (by decide) ?_
            refine ww_icmp_neN (tgt := 171) dX11_year_132 (by decide) (by omega) (by omega) (fun c132 => ?_) (fun c132 => ?_)
            · exact absurd c132 (by decide)
            · refine ww_iconst (v := nI 0) dX11_year_135 (by decide) ?_
              refine ww_sti (lv2 := [.ref m, .int sd, .int (nI us), .int (nI 3), .int (nI 0), .int (nI 0)]) dX11_year_136 rfl (by decide) rfl ?_
              refine l_M_ymet hst hy9 hnp9 h6 sd us 61 0 rfl ?_
              refine ww_iload dX11_year_171 rfl ?_
              exact ww_iret dX11_year_173 rfl ⟨rfl, hy9.1.2.2.2.1, hy9.1.2.2.2.2⟩
          · exact absurd c75 (by decide)
        · exact absurd c48 (by decide)
      · exact absurd c35 (by decide)
set_option maxHeartbeats 4000000 in
set_option maxRecDepth 100000 in
theorem c_M_year_no0 {l : Launch} {Z : EE} (hst : l.stackTraces = false) {h : PH} {m : Nat} (hM : ModS h m) (sd us w : Int32) (hout : outR 1 96 us) : CC l Z m_X11_year 6 0 0 [.ref m, .int sd, .int us, .int w] h (MNo 1 1 m h) := by
  refine ee_entry hst (by decide +kernel) rfl rfl (by simp [Value.category]) (Nat.le_of_ble_eq_true rfl) ?_
  refine ww_lv (lv2 := [.ref m, .int sd, .int us, .int w, UU, UU]) rfl ?_
  refine ww_aload_n dX11_year_0 rfl rfl ?_
  refine ww_iconst (v := nI 0) dX11_year_1 (by decide) ?_
  refine ww_pfI tyX11 0 dX11_year_2 hM.K0 rfl (by decide) inX11 tyX11_ok nmX11 wg_1240 rfl rfl ?_
  refine ww_aload_n dX11_year_5 rfl rfl ?_
  refine ww_iload_n dX11_year_6 rfl rfl ?_
  refine ww_iconst (v := nI 1) dX11_year_7 (by decide) ?_
  refine ww_bipush (v := nI 96) dX11_year_8 (by decide) ?_
  refine ww_cSr (M := m_X11_year) (pc := 10) (v := .int (nI 0)) (h1 := hp_sF h m 0 (.int (nI 0))) (st := [.ref m]) (d := 6) (bc := 0) (bs := 0) (c_M_within_f hst us (nI 1) (nI 96) hout _) vv_X11_within dX11_year_10 wg_1601 rfl rfl rfl (Nat.le_of_ble_eq_true rfl) (Nat.le_of_ble_eq_true rfl) (Nat.le_of_ble_eq_true rfl) (Nat.le_of_ble_eq_true rfl) ?_
  refine ww_if_eqN (tgt := 29) dX11_year_13 (by decide) (by omega) (fun c13 => ?_) (fun c13 => ?_)
  · refine ww_iconst (v := nI 0) dX11_year_29 (by decide) ?_
    refine ww_iconst (v := nI 1) dX11_year_30 (by decide) ?_
    refine ww_iconst (v := nI 1) dX11_year_31 (by decide) ?_
    refine ww_cVr (M := m_X11_year) (pc := 32) (v := .int (nI 0)) (h1 := hp_sI (hp_sF (hp_sF h m 0 (.int (nI 0))) m 0 (.int (nI 1))) (m + 1) (upd (hp_I (hp_sF h m 0 (.int (nI 0))) (m + 1)) 1 (hp_I (hp_sF h m 0 (.int (nI 0))) (m + 1) 1 + nI 1))) (st := []) (d := 6) (bc := 0) (bs := 0) (c_M_may_f hst (h := hp_sF h m 0 (.int (nI 0))) (ModS.sF hM (by decide)) (hp_F_eq _ _ _ _) 1 1 (by decide) (by decide) (by decide)) vv_X11_may dX11_year_32 wg_1413 hM.K0 rfl rfl rfl rfl (Nat.le_of_ble_eq_true rfl) (Nat.le_of_ble_eq_true rfl) (Nat.le_of_ble_eq_true rfl) (Nat.le_of_ble_eq_true rfl) ?_
    refine ww_if_neN (tgt := 40) dX11_year_35 (by decide) (by omega) (fun c35 => ?_) (fun c35 => ?_)
    · exact absurd c35 (by decide)
    · refine ww_iconst (v := nI 0) dX11_year_38 (by decide) ?_
      exact ww_iret dX11_year_39 rfl ⟨rfl, (((Same.rf.sF (SY0 m)).sF (SY0 m)).sI (Or.inr rfl)), (hp_F_sI (hp_F_eq _ _ _ _)), by rw [hp_I_eq]; rfl⟩
  · exact absurd c13 (by decide)
set_option maxHeartbeats 4000000 in
set_option maxRecDepth 100000 in
theorem c_M_year_no1 {l : Launch} {Z : EE} (hst : l.stackTraces = false) {h : PH} {m : Nat} (hM : ModS h m) (sd : Int32) (us : Nat) (lus : 1 ≤ us) (hus : us ≤ 96) (w : Int32) (hout : outR 0 3 w) : CC l Z m_X11_year 6 0 0 [.ref m, .int sd, .int (nI us), .int w] h (MNo 1 1 m h) := by
  refine ee_entry hst (by decide +kernel) rfl rfl (by simp [Value.category]) (Nat.le_of_ble_eq_true rfl) ?_
  refine ww_lv (lv2 := [.ref m, .int sd, .int (nI us), .int w, UU, UU]) rfl ?_
  refine ww_aload_n dX11_year_0 rfl rfl ?_
  refine ww_iconst (v := nI 0) dX11_year_1 (by decide) ?_
  refine ww_pfI tyX11 0 dX11_year_2 hM.K0 rfl (by decide) inX11 tyX11_ok nmX11 wg_1240 rfl rfl ?_
  refine ww_aload_n dX11_year_5 rfl rfl ?_
  refine ww_iload_n dX11_year_6 rfl rfl ?_
  refine ww_iconst (v := nI 1) dX11_year_7 (by decide) ?_
  refine ww_bipush (v := nI 96) dX11_year_8 (by decide) ?_
  refine ww_cSr (M := m_X11_year) (pc := 10) (v := .int (nI 1)) (h1 := hp_sF h m 0 (.int (nI 0))) (st := [.ref m]) (d := 6) (bc := 0) (bs := 0) (c_M_within_t hst (nI us) (nI 1) (nI 96) (nI_le (by omega) (by omega)) (nI_le (by omega) (by omega)) _) vv_X11_within dX11_year_10 wg_1601 rfl rfl rfl (Nat.le_of_ble_eq_true rfl) (Nat.le_of_ble_eq_true rfl) (Nat.le_of_ble_eq_true rfl) (Nat.le_of_ble_eq_true rfl) ?_
  refine ww_if_eqN (tgt := 29) dX11_year_13 (by decide) (by omega) (fun c13 => ?_) (fun c13 => ?_)
  · exact absurd c13 (by decide)
  · refine ww_iload_n dX11_year_16 rfl rfl ?_
    refine ww_iconst (v := nI 0) dX11_year_17 (by decide) ?_
    refine ww_iconst (v := nI 3) dX11_year_18 (by decide) ?_
    refine ww_cSr (M := m_X11_year) (pc := 19) (v := .int (nI 0)) (h1 := hp_sF h m 0 (.int (nI 0))) (st := [.ref m]) (d := 6) (bc := 0) (bs := 0) (c_M_within_f hst w (nI 0) (nI 3) hout _) vv_X11_within dX11_year_19 wg_1601 rfl rfl rfl (Nat.le_of_ble_eq_true rfl) (Nat.le_of_ble_eq_true rfl) (Nat.le_of_ble_eq_true rfl) (Nat.le_of_ble_eq_true rfl) ?_
    refine ww_if_eqN (tgt := 29) dX11_year_22 (by decide) (by omega) (fun c22 => ?_) (fun c22 => ?_)
    · refine ww_iconst (v := nI 0) dX11_year_29 (by decide) ?_
      refine ww_iconst (v := nI 1) dX11_year_30 (by decide) ?_
      refine ww_iconst (v := nI 1) dX11_year_31 (by decide) ?_
      refine ww_cVr (M := m_X11_year) (pc := 32) (v := .int (nI 0)) (h1 := hp_sI (hp_sF (hp_sF h m 0 (.int (nI 0))) m 0 (.int (nI 1))) (m + 1) (upd (hp_I (hp_sF h m 0 (.int (nI 0))) (m + 1)) 1 (hp_I (hp_sF h m 0 (.int (nI 0))) (m + 1) 1 + nI 1))) (st := []) (d := 6) (bc := 0) (bs := 0) (c_M_may_f hst (h := hp_sF h m 0 (.int (nI 0))) (ModS.sF hM (by decide)) (hp_F_eq _ _ _ _) 1 1 (by decide) (by decide) (by decide)) vv_X11_may dX11_year_32 wg_1413 hM.K0 rfl rfl rfl rfl (Nat.le_of_ble_eq_true rfl) (Nat.le_of_ble_eq_true rfl) (Nat.le_of_ble_eq_true rfl) (Nat.le_of_ble_eq_true rfl) ?_
      refine ww_if_neN (tgt := 40) dX11_year_35 (by decide) (by omega) (fun c35 => ?_) (fun c35 => ?_)
      · exact absurd c35 (by decide)
      · refine ww_iconst (v := nI 0) dX11_year_38 (by decide) ?_
        exact ww_iret dX11_year_39 rfl ⟨rfl, (((Same.rf.sF (SY0 m)).sF (SY0 m)).sI (Or.inr rfl)), (hp_F_sI (hp_F_eq _ _ _ _)), by rw [hp_I_eq]; rfl⟩
    · exact absurd c22 (by decide)
theorem spM_s {d : Nat → Nat} {k : Nat} (hd : d k ≤ 96) (e : k = 0 ∨ d k < spM d k) : spM d (k + 1) = d k := by
  rcases e with e | e
  · subst e; show min 96 (d 0) = d 0; omega
  · show min (spM d k) (d k) = d k; omega
theorem spM_n {d : Nat → Nat} {k : Nat} (e : spM d k ≤ d k) : spM d (k + 1) = spM d k := by show min (spM d k) (d k) = spM d k; omega
theorem spX_s {d : Nat → Nat} {k : Nat} (e : spX d k < d k) : spX d (k + 1) = d k := by show max (spX d k) (d k) = d k; omega
theorem spX_n {d : Nat → Nat} {k : Nat} (e : d k ≤ spX d k) : spX d (k + 1) = spX d k := by show max (spX d k) (d k) = spX d k; omega
theorem spA_i1 {np us k : Nat} {d : Nat → Nat} (h : np = 0 ∨ d k = us) : spA np us d (k + 1) = spA np us d k + 1 := by
  have : (decide (np = 0) || d k == us) = true := by rcases h with e | e <;> simp [e]
  simp only [spA, cnt, this, if_true]
theorem spA_i0 {np us k : Nat} {d : Nat → Nat} (h : ¬ d k = us) (h0 : ¬ np = 0) : spA np us d (k + 1) = spA np us d k := by
  have : (decide (np = 0) || d k == us) = false := by simp [h, h0]
  simp only [spA, cnt, this, if_false, Bool.false_eq_true, Nat.add_zero]
theorem MI.goY {m sz : Nat} {kf vf g : Nat → Int32} {x : YS} {h h2 : PH} (hy : MYD m sz kf vf x h h2) : ∃ g', MI m sz kf vf g' h h2 ∧ hp_F h2 m 49 = .int (nI x.2.2.1) := by
  obtain ⟨g', -, h1, -, h3, -⟩ := hy; exact ⟨g', h1, h3⟩
set_option maxHeartbeats 4000000 in
set_option maxRecDepth 100000 in
theorem l_M_span {l : Launch} {Z : EE} (hst : l.stackTraces = false) {h : PH} {m : Nat} (hM : ModS h m) {f : Nat → Int32} (hf : hp_I h (m + 14) = f) {sz : Nat} {kf vf : Nat → Int32} (hok : LawOK kf vf sz) {np : Nat} (hnp : hp_F h m 15 = .int (nI np)) (h6 : np ≤ 6) (hu : RowU f np) (sd : Int32) (us mn : Nat) (lus : 1 ≤ us) (hus : us ≤ 96) (hmn : mn ≤ 20) (w : Int32) {Post : Res → PH → Prop} : ∀ (j k : Nat), 1 ≤ k → ∀ (g2 : Nat → Int32) (hq : PH), MI m sz kf vf g2 h hq → k + j = mn → (∀ g h9, MI m sz kf vf g h h9 → WW l Z m_X11_span 7 0 0 155 [.ref m, .int sd, .int (nI mn), .int (nI us), .int w, .int (nI (spM (dnA sz kf vf np f sd us) mn)), .int (nI (spX (dnA sz kf vf np f sd us) mn)), .int (nI (spA np us (dnA sz kf vf np f sd us) mn)), .int (nI mn)] [] h9 Post) → WW l Z m_X11_span 7 0 0 63 [.ref m, .int sd, .int (nI mn), .int (nI us), .int w, .int (nI (spM (dnA sz kf vf np f sd us) k)), .int (nI (spX (dnA sz kf vf np f sd us) k)), .int (nI (spA np us (dnA sz kf vf np f sd us) k)), .int (nI k)] [] hq Post := by
  have hdl := dnA_le sz kf vf np f sd us
  intro j
  induction j with
  | zero =>
    intro k h1 g2 hq hi hk hex
    have hk0 : k = mn := by omega
    subst hk0
    refine ww_iload dX11_span_63 rfl ?_
    refine ww_iload_n dX11_span_65 rfl rfl ?_
    refine ww_icmp_geN (tgt := 155) dX11_span_66 (by decide) (by omega) (by omega) (fun c66 => ?_) (fun c66 => ?_)
    · exact hex _ hq hi
    · exfalso; omega
  | succ j ih =>
    intro k h1 g2 hq hi hk hex
    have hm9 := spM_le (dnA sz kf vf np f sd us) k
    have hx9 := spX_le (d := (dnA sz kf vf np f sd us)) (us := us) hdl k
    have ha9 := cnt_le (fun i => decide (np = 0) || (dnA sz kf vf np f sd us) i == us) k
    have hd9 := hdl k
    refine ww_iload dX11_span_63 rfl ?_
    refine ww_iload_n dX11_span_65 rfl rfl ?_
    refine ww_icmp_geN (tgt := 155) dX11_span_66 (by decide) (by first | omega | (simp only [spA]; omega)) (by first | omega | (simp only [spA]; omega)) (fun c66 => ?_) (fun c66 => ?_)
    · exfalso; omega
    · refine ww_aload_n dX11_span_69 rfl rfl ?_
      refine ww_iload_n dX11_span_70 rfl rfl ?_
      refine ww_iload dX11_span_71 rfl ?_
      refine ww_iadd dX11_span_73 ?_
      refine ww_iload_n dX11_span_74 rfl rfl ?_
      refine ww_cVq0 (M := m_X11_span) (pc := 75) (st := []) (d := 7) (bc := 0) (bs := 0) (c_M_yearGoes hst hnp h6 hok hf hu hi (sd + nI k) us (by omega) (by omega)) vv_X11_yearGoes dX11_span_75 wg_1763 hi.1.K0 rfl rfl rfl rfl (Nat.le_of_ble_eq_true rfl) (Nat.le_of_ble_eq_true rfl) (Nat.le_of_ble_eq_true rfl) (Nat.le_of_ble_eq_true rfl) (fun hq1 qq1 => ?_)
      obtain ⟨g1, hi1, hu0⟩ := MI.goY (g := g2) qq1
      have hu1 : hp_F hq1 m 49 = .int (nI ((dnA sz kf vf np f sd us) k)) := hu0
      refine ww_iload dX11_span_78 rfl ?_
      refine ww_iconst (v := -1) dX11_span_80 (by decide) ?_
      refine ww_icmp_eq (tgt := 93) dX11_span_81 (by decide) (fun c81 => ?_) (fun c81 => ?_)
      · exact absurd c81 (nI_m1 (by omega))
      · refine ww_aload_n dX11_span_84 rfl rfl ?_
        refine ww_get 49 dX11_span_85 hi1.1.K0 rfl (by decide) inX11 wg_1289 hu1 ?_
        refine ww_iload dX11_span_88 rfl ?_
        refine ww_icmp_geN (tgt := 100) dX11_span_90 (by decide) (by first | omega | (simp only [spA]; omega)) (by first | omega | (simp only [spA]; omega)) (fun c90 => ?_) (fun c90 => ?_)
        · refine ww_iload dX11_span_100 rfl ?_
          refine ww_sti (lv2 := [.ref m, .int sd, .int (nI mn), .int (nI us), .int w, .int (nI (spM (dnA sz kf vf np f sd us) k)), .int (nI (spX (dnA sz kf vf np f sd us) k)), .int (nI (spA np us (dnA sz kf vf np f sd us) k)), .int (nI k)]) dX11_span_102 rfl (by decide) rfl ?_
          refine ww_aload_n dX11_span_104 rfl rfl ?_
          refine ww_get 49 dX11_span_105 hi1.1.K0 rfl (by decide) inX11 wg_1289 hu1 ?_
          refine ww_iload dX11_span_108 rfl ?_
          refine ww_icmp_leN (tgt := 120) dX11_span_110 (by decide) (by first | omega | (simp only [spA]; omega)) (by first | omega | (simp only [spA]; omega)) (fun c110 => ?_) (fun c110 => ?_)
          · refine ww_iload dX11_span_120 rfl ?_
            refine ww_sti (lv2 := [.ref m, .int sd, .int (nI mn), .int (nI us), .int w, .int (nI (spM (dnA sz kf vf np f sd us) k)), .int (nI (spX (dnA sz kf vf np f sd us) k)), .int (nI (spA np us (dnA sz kf vf np f sd us) k)), .int (nI k)]) dX11_span_122 rfl (by decide) rfl ?_
            refine ww_iload dX11_span_124 rfl ?_
            refine ww_aload_n dX11_span_126 rfl rfl ?_
            refine ww_get 49 dX11_span_127 hi1.1.K0 rfl (by decide) inX11 wg_1289 hu1 ?_
            refine ww_iload_n dX11_span_130 rfl rfl ?_
            refine ww_icmp_eqN (tgt := 141) dX11_span_131 (by decide) (by first | omega | (simp only [spA]; omega)) (by first | omega | (simp only [spA]; omega)) (fun c131 => ?_) (fun c131 => ?_)
            · refine ww_iconst (v := nI 1) dX11_span_141 (by decide) ?_
              refine ww_goto (tgt := 146) dX11_span_142 (by decide) ?_
              refine ww_iaddN dX11_span_146 ?_
              refine ww_sti (lv2 := [.ref m, .int sd, .int (nI mn), .int (nI us), .int w, .int (nI (spM (dnA sz kf vf np f sd us) k)), .int (nI (spX (dnA sz kf vf np f sd us) k)), .int (nI ((spA np us (dnA sz kf vf np f sd us) k) + 1)), .int (nI k)]) dX11_span_147 rfl (by decide) rfl ?_
              refine ww_incN (c := 1) (lv2 := [.ref m, .int sd, .int (nI mn), .int (nI us), .int w, .int (nI (spM (dnA sz kf vf np f sd us) k)), .int (nI (spX (dnA sz kf vf np f sd us) k)), .int (nI ((spA np us (dnA sz kf vf np f sd us) k) + 1)), .int (nI (k + 1))]) dX11_span_149 rfl rfl rfl (by decide) rfl ?_
              refine ww_goto (tgt := 63) dX11_span_152 (by decide) ?_
              refine ww_lv (lv2 := [.ref m, .int sd, .int (nI mn), .int (nI us), .int w, .int (nI (spM (dnA sz kf vf np f sd us) (k + 1))), .int (nI (spX (dnA sz kf vf np f sd us) (k + 1))), .int (nI (spA np us (dnA sz kf vf np f sd us) (k + 1))), .int (nI (k + 1))]) ?_ ?_
              · rw [spM_n (by omega), spX_n (by omega), spA_i1 (by omega)]
              exact ih (k + 1) (by omega) _ hq1 hi1 (by omega) hex
            · refine ww_aload_n dX11_span_134 rfl rfl ?_
              refine ww_get 15 dX11_span_135 hi1.1.K0 rfl (by decide) inX11 wg_1255 ((hi1.2.2.2.1.2.2.1 m 15 (SY_no (by decide))).trans hnp) ?_
              refine ww_if_neN (tgt := 145) dX11_span_138 (by decide) (by first | omega | (simp only [spA]; omega)) (fun c138 => ?_) (fun c138 => ?_)
              · refine ww_iconst (v := nI 0) dX11_span_145 (by decide) ?_
                refine ww_iaddN dX11_span_146 ?_
                refine ww_sti (lv2 := [.ref m, .int sd, .int (nI mn), .int (nI us), .int w, .int (nI (spM (dnA sz kf vf np f sd us) k)), .int (nI (spX (dnA sz kf vf np f sd us) k)), .int (nI ((spA np us (dnA sz kf vf np f sd us) k) + 0)), .int (nI k)]) dX11_span_147 rfl (by decide) rfl ?_
                refine ww_incN (c := 1) (lv2 := [.ref m, .int sd, .int (nI mn), .int (nI us), .int w, .int (nI (spM (dnA sz kf vf np f sd us) k)), .int (nI (spX (dnA sz kf vf np f sd us) k)), .int (nI ((spA np us (dnA sz kf vf np f sd us) k) + 0)), .int (nI (k + 1))]) dX11_span_149 rfl rfl rfl (by decide) rfl ?_
                refine ww_goto (tgt := 63) dX11_span_152 (by decide) ?_
                refine ww_lv (lv2 := [.ref m, .int sd, .int (nI mn), .int (nI us), .int w, .int (nI (spM (dnA sz kf vf np f sd us) (k + 1))), .int (nI (spX (dnA sz kf vf np f sd us) (k + 1))), .int (nI (spA np us (dnA sz kf vf np f sd us) (k + 1))), .int (nI (k + 1))]) ?_ ?_
                · rw [spM_n (by omega), spX_n (by omega), spA_i0 (by omega) (by omega), Nat.add_zero]
                exact ih (k + 1) (by omega) _ hq1 hi1 (by omega) hex
              · refine ww_iconst (v := nI 1) dX11_span_141 (by decide) ?_
                refine ww_goto (tgt := 146) dX11_span_142 (by decide) ?_
                refine ww_iaddN dX11_span_146 ?_
                refine ww_sti (lv2 := [.ref m, .int sd, .int (nI mn), .int (nI us), .int w, .int (nI (spM (dnA sz kf vf np f sd us) k)), .int (nI (spX (dnA sz kf vf np f sd us) k)), .int (nI ((spA np us (dnA sz kf vf np f sd us) k) + 1)), .int (nI k)]) dX11_span_147 rfl (by decide) rfl ?_
                refine ww_incN (c := 1) (lv2 := [.ref m, .int sd, .int (nI mn), .int (nI us), .int w, .int (nI (spM (dnA sz kf vf np f sd us) k)), .int (nI (spX (dnA sz kf vf np f sd us) k)), .int (nI ((spA np us (dnA sz kf vf np f sd us) k) + 1)), .int (nI (k + 1))]) dX11_span_149 rfl rfl rfl (by decide) rfl ?_
                refine ww_goto (tgt := 63) dX11_span_152 (by decide) ?_
                refine ww_lv (lv2 := [.ref m, .int sd, .int (nI mn), .int (nI us), .int w, .int (nI (spM (dnA sz kf vf np f sd us) (k + 1))), .int (nI (spX (dnA sz kf vf np f sd us) (k + 1))), .int (nI (spA np us (dnA sz kf vf np f sd us) (k + 1))), .int (nI (k + 1))]) ?_ ?_
                · rw [spM_n (by omega), spX_n (by omega), spA_i1 (by omega)]
                exact ih (k + 1) (by omega) _ hq1 hi1 (by omega) hex
          · refine ww_aload_n dX11_span_113 rfl rfl ?_
            refine ww_get 49 dX11_span_114 hi1.1.K0 rfl (by decide) inX11 wg_1289 hu1 ?_
            refine ww_goto (tgt := 122) dX11_span_117 (by decide) ?_
            refine ww_sti (lv2 := [.ref m, .int sd, .int (nI mn), .int (nI us), .int w, .int (nI (spM (dnA sz kf vf np f sd us) k)), .int (nI ((dnA sz kf vf np f sd us) k)), .int (nI (spA np us (dnA sz kf vf np f sd us) k)), .int (nI k)]) dX11_span_122 rfl (by decide) rfl ?_
            refine ww_iload dX11_span_124 rfl ?_
            refine ww_aload_n dX11_span_126 rfl rfl ?_
            refine ww_get 49 dX11_span_127 hi1.1.K0 rfl (by decide) inX11 wg_1289 hu1 ?_
            refine ww_iload_n dX11_span_130 rfl rfl ?_
            refine ww_icmp_eqN (tgt := 141) dX11_span_131 (by decide) (by first | omega | (simp only [spA]; omega)) (by first | omega | (simp only [spA]; omega)) (fun c131 => ?_) (fun c131 => ?_)
            · refine ww_iconst (v := nI 1) dX11_span_141 (by decide) ?_
              refine ww_goto (tgt := 146) dX11_span_142 (by decide) ?_
              refine ww_iaddN dX11_span_146 ?_
              refine ww_sti (lv2 := [.ref m, .int sd, .int (nI mn), .int (nI us), .int w, .int (nI (spM (dnA sz kf vf np f sd us) k)), .int (nI ((dnA sz kf vf np f sd us) k)), .int (nI ((spA np us (dnA sz kf vf np f sd us) k) + 1)), .int (nI k)]) dX11_span_147 rfl (by decide) rfl ?_
              refine ww_incN (c := 1) (lv2 := [.ref m, .int sd, .int (nI mn), .int (nI us), .int w, .int (nI (spM (dnA sz kf vf np f sd us) k)), .int (nI ((dnA sz kf vf np f sd us) k)), .int (nI ((spA np us (dnA sz kf vf np f sd us) k) + 1)), .int (nI (k + 1))]) dX11_span_149 rfl rfl rfl (by decide) rfl ?_
              refine ww_goto (tgt := 63) dX11_span_152 (by decide) ?_
              refine ww_lv (lv2 := [.ref m, .int sd, .int (nI mn), .int (nI us), .int w, .int (nI (spM (dnA sz kf vf np f sd us) (k + 1))), .int (nI (spX (dnA sz kf vf np f sd us) (k + 1))), .int (nI (spA np us (dnA sz kf vf np f sd us) (k + 1))), .int (nI (k + 1))]) ?_ ?_
              · rw [spM_n (by omega), spX_s (by omega), spA_i1 (by omega)]
              exact ih (k + 1) (by omega) _ hq1 hi1 (by omega) hex
            · refine ww_aload_n dX11_span_134 rfl rfl ?_
              refine ww_get 15 dX11_span_135 hi1.1.K0 rfl (by decide) inX11 wg_1255 ((hi1.2.2.2.1.2.2.1 m 15 (SY_no (by decide))).trans hnp) ?_
              refine ww_if_neN (tgt := 145) dX11_span_138 (by decide) (by first | omega | (simp only [spA]; omega)) (fun c138 => ?_) (fun c138 => ?_)
              · refine ww_iconst (v := nI 0) dX11_span_145 (by decide) ?_
                refine ww_iaddN dX11_span_146 ?_
                refine ww_sti (lv2 := [.ref m, .int sd, .int (nI mn), .int (nI us), .int w, .int (nI (spM (dnA sz kf vf np f sd us) k)), .int (nI ((dnA sz kf vf np f sd us) k)), .int (nI ((spA np us (dnA sz kf vf np f sd us) k) + 0)), .int (nI k)]) dX11_span_147 rfl (by decide) rfl ?_
                refine ww_incN (c := 1) (lv2 := [.ref m, .int sd, .int (nI mn), .int (nI us), .int w, .int (nI (spM (dnA sz kf vf np f sd us) k)), .int (nI ((dnA sz kf vf np f sd us) k)), .int (nI ((spA np us (dnA sz kf vf np f sd us) k) + 0)), .int (nI (k + 1))]) dX11_span_149 rfl rfl rfl (by decide) rfl ?_
                refine ww_goto (tgt := 63) dX11_span_152 (by decide) ?_
                refine ww_lv (lv2 := [.ref m, .int sd, .int (nI mn), .int (nI us), .int w, .int (nI (spM (dnA sz kf vf np f sd us) (k + 1))), .int (nI (spX (dnA sz kf vf np f sd us) (k + 1))), .int (nI (spA np us (dnA sz kf vf np f sd us) (k + 1))), .int (nI (k + 1))]) ?_ ?_
                · rw [spM_n (by omega), spX_s (by omega), spA_i0 (by omega) (by omega), Nat.add_zero]
                exact ih (k + 1) (by omega) _ hq1 hi1 (by omega) hex
              · refine ww_iconst (v := nI 1) dX11_span_141 (by decide) ?_
                refine ww_goto (tgt := 146) dX11_span_142 (by decide) ?_
                refine ww_iaddN dX11_span_146 ?_
                refine ww_sti (lv2 := [.ref m, .int sd, .int (nI mn), .int (nI us), .int w, .int (nI (spM (dnA sz kf vf np f sd us) k)), .int (nI ((dnA sz kf vf np f sd us) k)), .int (nI ((spA np us (dnA sz kf vf np f sd us) k) + 1)), .int (nI k)]) dX11_span_147 rfl (by decide) rfl ?_
                refine ww_incN (c := 1) (lv2 := [.ref m, .int sd, .int (nI mn), .int (nI us), .int w, .int (nI (spM (dnA sz kf vf np f sd us) k)), .int (nI ((dnA sz kf vf np f sd us) k)), .int (nI ((spA np us (dnA sz kf vf np f sd us) k) + 1)), .int (nI (k + 1))]) dX11_span_149 rfl rfl rfl (by decide) rfl ?_
                refine ww_goto (tgt := 63) dX11_span_152 (by decide) ?_
                refine ww_lv (lv2 := [.ref m, .int sd, .int (nI mn), .int (nI us), .int w, .int (nI (spM (dnA sz kf vf np f sd us) (k + 1))), .int (nI (spX (dnA sz kf vf np f sd us) (k + 1))), .int (nI (spA np us (dnA sz kf vf np f sd us) (k + 1))), .int (nI (k + 1))]) ?_ ?_
                · rw [spM_n (by omega), spX_s (by omega), spA_i1 (by omega)]
                exact ih (k + 1) (by omega) _ hq1 hi1 (by omega) hex
        · refine ww_aload_n dX11_span_93 rfl rfl ?_
          refine ww_get 49 dX11_span_94 hi1.1.K0 rfl (by decide) inX11 wg_1289 hu1 ?_
          refine ww_goto (tgt := 102) dX11_span_97 (by decide) ?_
          refine ww_sti (lv2 := [.ref m, .int sd, .int (nI mn), .int (nI us), .int w, .int (nI ((dnA sz kf vf np f sd us) k)), .int (nI (spX (dnA sz kf vf np f sd us) k)), .int (nI (spA np us (dnA sz kf vf np f sd us) k)), .int (nI k)]) dX11_span_102 rfl (by decide) rfl ?_
          refine ww_aload_n dX11_span_104 rfl rfl ?_
          refine ww_get 49 dX11_span_105 hi1.1.K0 rfl (by decide) inX11 wg_1289 hu1 ?_
          refine ww_iload dX11_span_108 rfl ?_
          refine ww_icmp_leN (tgt := 120) dX11_span_110 (by decide) (by first | omega | (simp only [spA]; omega)) (by first | omega | (simp only [spA]; omega)) (fun c110 => ?_) (fun c110 => ?_)
          · refine ww_iload dX11_span_120 rfl ?_
            refine ww_sti (lv2 := [.ref m, .int sd, .int (nI mn), .int (nI us), .int w, .int (nI ((dnA sz kf vf np f sd us) k)), .int (nI (spX (dnA sz kf vf np f sd us) k)), .int (nI (spA np us (dnA sz kf vf np f sd us) k)), .int (nI k)]) dX11_span_122 rfl (by decide) rfl ?_
            refine ww_iload dX11_span_124 rfl ?_
            refine ww_aload_n dX11_span_126 rfl rfl ?_
            refine ww_get 49 dX11_span_127 hi1.1.K0 rfl (by decide) inX11 wg_1289 hu1 ?_
            refine ww_iload_n dX11_span_130 rfl rfl ?_
            refine ww_icmp_eqN (tgt := 141) dX11_span_131 (by decide) (by first | omega | (simp only [spA]; omega)) (by first | omega | (simp only [spA]; omega)) (fun c131 => ?_) (fun c131 => ?_)
            · refine ww_iconst (v := nI 1) dX11_span_141 (by decide) ?_
              refine ww_goto (tgt := 146) dX11_span_142 (by decide) ?_
              refine ww_iaddN dX11_span_146 ?_
              refine ww_sti (lv2 := [.ref m, .int sd, .int (nI mn), .int (nI us), .int w, .int (nI ((dnA sz kf vf np f sd us) k)), .int (nI (spX (dnA sz kf vf np f sd us) k)), .int (nI ((spA np us (dnA sz kf vf np f sd us) k) + 1)), .int (nI k)]) dX11_span_147 rfl (by decide) rfl ?_
              refine ww_incN (c := 1) (lv2 := [.ref m, .int sd, .int (nI mn), .int (nI us), .int w, .int (nI ((dnA sz kf vf np f sd us) k)), .int (nI (spX (dnA sz kf vf np f sd us) k)), .int (nI ((spA np us (dnA sz kf vf np f sd us) k) + 1)), .int (nI (k + 1))]) dX11_span_149 rfl rfl rfl (by decide) rfl ?_
              refine ww_goto (tgt := 63) dX11_span_152 (by decide) ?_
              refine ww_lv (lv2 := [.ref m, .int sd, .int (nI mn), .int (nI us), .int w, .int (nI (spM (dnA sz kf vf np f sd us) (k + 1))), .int (nI (spX (dnA sz kf vf np f sd us) (k + 1))), .int (nI (spA np us (dnA sz kf vf np f sd us) (k + 1))), .int (nI (k + 1))]) ?_ ?_
              · rw [spM_s (by omega) (by omega), spX_n (by omega), spA_i1 (by omega)]
              exact ih (k + 1) (by omega) _ hq1 hi1 (by omega) hex
            · refine ww_aload_n dX11_span_134 rfl rfl ?_
              refine ww_get 15 dX11_span_135 hi1.1.K0 rfl (by decide) inX11 wg_1255 ((hi1.2.2.2.1.2.2.1 m 15 (SY_no (by decide))).trans hnp) ?_
              refine ww_if_neN (tgt := 145) dX11_span_138 (by decide) (by first | omega | (simp only [spA]; omega)) (fun c138 => ?_) (fun c138 => ?_)
              · refine ww_iconst (v := nI 0) dX11_span_145 (by decide) ?_
                refine ww_iaddN dX11_span_146 ?_
                refine ww_sti (lv2 := [.ref m, .int sd, .int (nI mn), .int (nI us), .int w, .int (nI ((dnA sz kf vf np f sd us) k)), .int (nI (spX (dnA sz kf vf np f sd us) k)), .int (nI ((spA np us (dnA sz kf vf np f sd us) k) + 0)), .int (nI k)]) dX11_span_147 rfl (by decide) rfl ?_
                refine ww_incN (c := 1) (lv2 := [.ref m, .int sd, .int (nI mn), .int (nI us), .int w, .int (nI ((dnA sz kf vf np f sd us) k)), .int (nI (spX (dnA sz kf vf np f sd us) k)), .int (nI ((spA np us (dnA sz kf vf np f sd us) k) + 0)), .int (nI (k + 1))]) dX11_span_149 rfl rfl rfl (by decide) rfl ?_
                refine ww_goto (tgt := 63) dX11_span_152 (by decide) ?_
                refine ww_lv (lv2 := [.ref m, .int sd, .int (nI mn), .int (nI us), .int w, .int (nI (spM (dnA sz kf vf np f sd us) (k + 1))), .int (nI (spX (dnA sz kf vf np f sd us) (k + 1))), .int (nI (spA np us (dnA sz kf vf np f sd us) (k + 1))), .int (nI (k + 1))]) ?_ ?_
                · rw [spM_s (by omega) (by omega), spX_n (by omega), spA_i0 (by omega) (by omega), Nat.add_zero]
                exact ih (k + 1) (by omega) _ hq1 hi1 (by omega) hex
              · refine ww_iconst (v := nI 1) dX11_span_141 (by decide) ?_
                refine ww_goto (tgt := 146) dX11_span_142 (by decide) ?_
                refine ww_iaddN dX11_span_146 ?_
                refine ww_sti (lv2 := [.ref m, .int sd, .int (nI mn), .int (nI us), .int w, .int (nI ((dnA sz kf vf np f sd us) k)), .int (nI (spX (dnA sz kf vf np f sd us) k)), .int (nI ((spA np us (dnA sz kf vf np f sd us) k) + 1)), .int (nI k)]) dX11_span_147 rfl (by decide) rfl ?_
                refine ww_incN (c := 1) (lv2 := [.ref m, .int sd, .int (nI mn), .int (nI us), .int w, .int (nI ((dnA sz kf vf np f sd us) k)), .int (nI (spX (dnA sz kf vf np f sd us) k)), .int (nI ((spA np us (dnA sz kf vf np f sd us) k) + 1)), .int (nI (k + 1))]) dX11_span_149 rfl rfl rfl (by decide) rfl ?_
                refine ww_goto (tgt := 63) dX11_span_152 (by decide) ?_
                refine ww_lv (lv2 := [.ref m, .int sd, .int (nI mn), .int (nI us), .int w, .int (nI (spM (dnA sz kf vf np f sd us) (k + 1))), .int (nI (spX (dnA sz kf vf np f sd us) (k + 1))), .int (nI (spA np us (dnA sz kf vf np f sd us) (k + 1))), .int (nI (k + 1))]) ?_ ?_
                · rw [spM_s (by omega) (by omega), spX_n (by omega), spA_i1 (by omega)]
                exact ih (k + 1) (by omega) _ hq1 hi1 (by omega) hex
          · refine ww_aload_n dX11_span_113 rfl rfl ?_
            refine ww_get 49 dX11_span_114 hi1.1.K0 rfl (by decide) inX11 wg_1289 hu1 ?_
            refine ww_goto (tgt := 122) dX11_span_117 (by decide) ?_
            refine ww_sti (lv2 := [.ref m, .int sd, .int (nI mn), .int (nI us), .int w, .int (nI ((dnA sz kf vf np f sd us) k)), .int (nI ((dnA sz kf vf np f sd us) k)), .int (nI (spA np us (dnA sz kf vf np f sd us) k)), .int (nI k)]) dX11_span_122 rfl (by decide) rfl ?_
            refine ww_iload dX11_span_124 rfl ?_
            refine ww_aload_n dX11_span_126 rfl rfl ?_
            refine ww_get 49 dX11_span_127 hi1.1.K0 rfl (by decide) inX11 wg_1289 hu1 ?_
            refine ww_iload_n dX11_span_130 rfl rfl ?_
            refine ww_icmp_eqN (tgt := 141) dX11_span_131 (by decide) (by first | omega | (simp only [spA]; omega)) (by first | omega | (simp only [spA]; omega)) (fun c131 => ?_) (fun c131 => ?_)
            · refine ww_iconst (v := nI 1) dX11_span_141 (by decide) ?_
              refine ww_goto (tgt := 146) dX11_span_142 (by decide) ?_
              refine ww_iaddN dX11_span_146 ?_
              refine ww_sti (lv2 := [.ref m, .int sd, .int (nI mn), .int (nI us), .int w, .int (nI ((dnA sz kf vf np f sd us) k)), .int (nI ((dnA sz kf vf np f sd us) k)), .int (nI ((spA np us (dnA sz kf vf np f sd us) k) + 1)), .int (nI k)]) dX11_span_147 rfl (by decide) rfl ?_
              refine ww_incN (c := 1) (lv2 := [.ref m, .int sd, .int (nI mn), .int (nI us), .int w, .int (nI ((dnA sz kf vf np f sd us) k)), .int (nI ((dnA sz kf vf np f sd us) k)), .int (nI ((spA np us (dnA sz kf vf np f sd us) k) + 1)), .int (nI (k + 1))]) dX11_span_149 rfl rfl rfl (by decide) rfl ?_
              refine ww_goto (tgt := 63) dX11_span_152 (by decide) ?_
              refine ww_lv (lv2 := [.ref m, .int sd, .int (nI mn), .int (nI us), .int w, .int (nI (spM (dnA sz kf vf np f sd us) (k + 1))), .int (nI (spX (dnA sz kf vf np f sd us) (k + 1))), .int (nI (spA np us (dnA sz kf vf np f sd us) (k + 1))), .int (nI (k + 1))]) ?_ ?_
              · rw [spM_s (by omega) (by omega), spX_s (by omega), spA_i1 (by omega)]
              exact ih (k + 1) (by omega) _ hq1 hi1 (by omega) hex
            · refine ww_aload_n dX11_span_134 rfl rfl ?_
              refine ww_get 15 dX11_span_135 hi1.1.K0 rfl (by decide) inX11 wg_1255 ((hi1.2.2.2.1.2.2.1 m 15 (SY_no (by decide))).trans hnp) ?_
              refine ww_if_neN (tgt := 145) dX11_span_138 (by decide) (by first | omega | (simp only [spA]; omega)) (fun c138 => ?_) (fun c138 => ?_)
              · refine ww_iconst (v := nI 0) dX11_span_145 (by decide) ?_
                refine ww_iaddN dX11_span_146 ?_
                refine ww_sti (lv2 := [.ref m, .int sd, .int (nI mn), .int (nI us), .int w, .int (nI ((dnA sz kf vf np f sd us) k)), .int (nI ((dnA sz kf vf np f sd us) k)), .int (nI ((spA np us (dnA sz kf vf np f sd us) k) + 0)), .int (nI k)]) dX11_span_147 rfl (by decide) rfl ?_
                refine ww_incN (c := 1) (lv2 := [.ref m, .int sd, .int (nI mn), .int (nI us), .int w, .int (nI ((dnA sz kf vf np f sd us) k)), .int (nI ((dnA sz kf vf np f sd us) k)), .int (nI ((spA np us (dnA sz kf vf np f sd us) k) + 0)), .int (nI (k + 1))]) dX11_span_149 rfl rfl rfl (by decide) rfl ?_
                refine ww_goto (tgt := 63) dX11_span_152 (by decide) ?_
                refine ww_lv (lv2 := [.ref m, .int sd, .int (nI mn), .int (nI us), .int w, .int (nI (spM (dnA sz kf vf np f sd us) (k + 1))), .int (nI (spX (dnA sz kf vf np f sd us) (k + 1))), .int (nI (spA np us (dnA sz kf vf np f sd us) (k + 1))), .int (nI (k + 1))]) ?_ ?_
                · rw [spM_s (by omega) (by omega), spX_s (by omega), spA_i0 (by omega) (by omega), Nat.add_zero]
                exact ih (k + 1) (by omega) _ hq1 hi1 (by omega) hex
              · refine ww_iconst (v := nI 1) dX11_span_141 (by decide) ?_
                refine ww_goto (tgt := 146) dX11_span_142 (by decide) ?_
                refine ww_iaddN dX11_span_146 ?_
                refine ww_sti (lv2 := [.ref m, .int sd, .int (nI mn), .int (nI us), .int w, .int (nI ((dnA sz kf vf np f sd us) k)), .int (nI ((dnA sz kf vf np f sd us) k)), .int (nI ((spA np us (dnA sz kf vf np f sd us) k) + 1)), .int (nI k)]) dX11_span_147 rfl (by decide) rfl ?_
                refine ww_incN (c := 1) (lv2 := [.ref m, .int sd, .int (nI mn), .int (nI us), .int w, .int (nI ((dnA sz kf vf np f sd us) k)), .int (nI ((dnA sz kf vf np f sd us) k)), .int (nI ((spA np us (dnA sz kf vf np f sd us) k) + 1)), .int (nI (k + 1))]) dX11_span_149 rfl rfl rfl (by decide) rfl ?_
                refine ww_goto (tgt := 63) dX11_span_152 (by decide) ?_
                refine ww_lv (lv2 := [.ref m, .int sd, .int (nI mn), .int (nI us), .int w, .int (nI (spM (dnA sz kf vf np f sd us) (k + 1))), .int (nI (spX (dnA sz kf vf np f sd us) (k + 1))), .int (nI (spA np us (dnA sz kf vf np f sd us) (k + 1))), .int (nI (k + 1))]) ?_ ?_
                · rw [spM_s (by omega) (by omega), spX_s (by omega), spA_i1 (by omega)]
                exact ih (k + 1) (by omega) _ hq1 hi1 (by omega) hex
set_option maxHeartbeats 4000000 in
set_option maxRecDepth 100000 in
theorem c_M_span0 {l : Launch} {Z : EE} (hst : l.stackTraces = false) {h : PH} {m : Nat} (hM : ModS h m) {f : Nat → Int32} (hf : hp_I h (m + 14) = f) {g : Nat → Int32} (hs : hp_I h (m + 15) = g) {sz : Nat} {kf vf : Nat → Int32} (hQ : LawM h m sz kf vf) (hok : LawOK kf vf sz) {np : Nat} (hnp : hp_F h m 15 = .int (nI np)) (h6 : np ≤ 6) (hu : RowU f np) (sd : Int32) (mn : Nat) (lmn : 1 ≤ mn) (hmn : mn ≤ 20) (us : Nat) (lus : 1 ≤ us) (hus : us ≤ 96) : CC l Z m_X11_span 7 0 0 [.ref m, .int sd, .int (nI mn), .int (nI us), .int (nI 0)] h (MOk (nI (spM (dnA sz kf vf np f sd us) mn)) m h) := by
  refine ee_entry hst (by decide +kernel) rfl rfl (by simp [Value.category]) (Nat.le_of_ble_eq_true rfl) ?_
  refine ww_lv (lv2 := [.ref m, .int sd, .int (nI mn), .int (nI us), .int (nI 0), UU, UU, UU, UU]) rfl ?_
  have hdl := dnA_le sz kf vf np f sd us
  have hd9 := hdl 0
  refine ww_aload_n dX11_span_0 rfl rfl ?_
  refine ww_iconst (v := nI 0) dX11_span_1 (by decide) ?_
  refine ww_pfI tyX11 0 dX11_span_2 hM.K0 rfl (by decide) inX11 tyX11_ok nmX11 wg_1240 rfl rfl ?_
  refine ww_aload_n dX11_span_5 rfl rfl ?_
  refine ww_iload_n dX11_span_6 rfl rfl ?_
  refine ww_iconst (v := nI 1) dX11_span_7 (by decide) ?_
  refine ww_bipush (v := nI 20) dX11_span_8 (by decide) ?_
  refine ww_cSr (M := m_X11_span) (pc := 10) (v := .int (nI 1)) (h1 := hp_sF h m 0 (.int (nI 0))) (st := [.ref m]) (d := 7) (bc := 0) (bs := 0) (c_M_within_t hst (nI mn) (nI 1) (nI 20) (nI_le (by omega) (by omega)) (nI_le (by omega) (by omega)) _) vv_X11_within dX11_span_10 wg_1601 rfl rfl rfl (Nat.le_of_ble_eq_true rfl) (Nat.le_of_ble_eq_true rfl) (Nat.le_of_ble_eq_true rfl) (Nat.le_of_ble_eq_true rfl) ?_
  refine ww_if_eqN (tgt := 40) dX11_span_13 (by decide) (by omega) (fun c13 => ?_) (fun c13 => ?_)
  · exact absurd c13 (by decide)
  · refine ww_iload_n dX11_span_16 rfl rfl ?_
    refine ww_iconst (v := nI 1) dX11_span_17 (by decide) ?_
    refine ww_bipush (v := nI 96) dX11_span_18 (by decide) ?_
    refine ww_cSr (M := m_X11_span) (pc := 20) (v := .int (nI 1)) (h1 := hp_sF h m 0 (.int (nI 0))) (st := [.ref m]) (d := 7) (bc := 0) (bs := 0) (c_M_within_t hst (nI us) (nI 1) (nI 96) (nI_le (by omega) (by omega)) (nI_le (by omega) (by omega)) _) vv_X11_within dX11_span_20 wg_1601 rfl rfl rfl (Nat.le_of_ble_eq_true rfl) (Nat.le_of_ble_eq_true rfl) (Nat.le_of_ble_eq_true rfl) (Nat.le_of_ble_eq_true rfl) ?_
    refine ww_if_eqN (tgt := 40) dX11_span_23 (by decide) (by omega) (fun c23 => ?_) (fun c23 => ?_)
    · exact absurd c23 (by decide)
    · refine ww_iload dX11_span_26 rfl ?_
      refine ww_iconst (v := nI 0) dX11_span_28 (by decide) ?_
      refine ww_iconst (v := nI 2) dX11_span_29 (by decide) ?_
      refine ww_cSr (M := m_X11_span) (pc := 30) (v := .int (nI 1)) (h1 := hp_sF h m 0 (.int (nI 0))) (st := [.ref m]) (d := 7) (bc := 0) (bs := 0) (c_M_within_t hst (nI 0) (nI 0) (nI 2) (by decide) (by decide) _) vv_X11_within dX11_span_30 wg_1601 rfl rfl rfl (Nat.le_of_ble_eq_true rfl) (Nat.le_of_ble_eq_true rfl) (Nat.le_of_ble_eq_true rfl) (Nat.le_of_ble_eq_true rfl) ?_
      refine ww_if_eqN (tgt := 40) dX11_span_33 (by decide) (by omega) (fun c33 => ?_) (fun c33 => ?_)
      · exact absurd c33 (by decide)
      · refine ww_iconst (v := nI 1) dX11_span_36 (by decide) ?_
        refine ww_goto (tgt := 41) dX11_span_37 (by decide) ?_
        refine ww_iconst (v := nI 1) dX11_span_41 (by decide) ?_
        refine ww_iconst (v := nI 1) dX11_span_42 (by decide) ?_
        refine ww_cVr (M := m_X11_span) (pc := 43) (v := .int (nI 1)) (h1 := hp_sF h m 0 (.int (nI 0))) (st := []) (d := 7) (bc := 0) (bs := 0) (c_M_may_t hst (h := hp_sF h m 0 (.int (nI 0))) (ModS.sF hM (by decide)) (hp_F_eq _ _ _ _) (nI 1) (nI 1)) vv_X11_may dX11_span_43 wg_1413 hM.K0 rfl rfl rfl rfl (Nat.le_of_ble_eq_true rfl) (Nat.le_of_ble_eq_true rfl) (Nat.le_of_ble_eq_true rfl) (Nat.le_of_ble_eq_true rfl) ?_
        refine ww_if_neN (tgt := 51) dX11_span_46 (by decide) (by omega) (fun c46 => ?_) (fun c46 => ?_)
        · refine ww_iconst (v := -1) dX11_span_51 (by decide) ?_
          refine ww_sti (lv2 := [.ref m, .int sd, .int (nI mn), .int (nI us), .int (nI 0), .int (-1), UU, UU, UU]) dX11_span_52 rfl (by decide) rfl ?_
          refine ww_iconst (v := nI 0) dX11_span_54 (by decide) ?_
          refine ww_sti (lv2 := [.ref m, .int sd, .int (nI mn), .int (nI us), .int (nI 0), .int (-1), .int (nI 0), UU, UU]) dX11_span_55 rfl (by decide) rfl ?_
          refine ww_iconst (v := nI 0) dX11_span_57 (by decide) ?_
          refine ww_sti (lv2 := [.ref m, .int sd, .int (nI mn), .int (nI us), .int (nI 0), .int (-1), .int (nI 0), .int (nI 0), UU]) dX11_span_58 rfl (by decide) rfl ?_
          refine ww_iconst (v := nI 0) dX11_span_60 (by decide) ?_
          refine ww_sti (lv2 := [.ref m, .int sd, .int (nI mn), .int (nI us), .int (nI 0), .int (-1), .int (nI 0), .int (nI 0), .int (nI 0)]) dX11_span_61 rfl (by decide) rfl ?_
          refine ww_iload dX11_span_63 rfl ?_
          refine ww_iload_n dX11_span_65 rfl rfl ?_
          refine ww_icmp_geN (tgt := 155) dX11_span_66 (by decide) (by first | omega | (simp only [spA]; omega)) (by first | omega | (simp only [spA]; omega)) (fun c66 => ?_) (fun c66 => ?_)
          · exfalso; omega
          · refine ww_aload_n dX11_span_69 rfl rfl ?_
            refine ww_iload_n dX11_span_70 rfl rfl ?_
            refine ww_iload dX11_span_71 rfl ?_
            refine ww_iadd dX11_span_73 ?_
            refine ww_iload_n dX11_span_74 rfl rfl ?_
            refine ww_cVq0 (M := m_X11_span) (pc := 75) (st := []) (d := 7) (bc := 0) (bs := 0) (c_M_yearGoes hst hnp h6 hok hf hu (MI.th hM hQ hs) (sd + nI 0) us (by omega) (by omega)) vv_X11_yearGoes dX11_span_75 wg_1763 hM.K0 rfl rfl rfl rfl (Nat.le_of_ble_eq_true rfl) (Nat.le_of_ble_eq_true rfl) (Nat.le_of_ble_eq_true rfl) (Nat.le_of_ble_eq_true rfl) (fun hq1 qq1 => ?_)
            obtain ⟨g1, hi1, hu0⟩ := MI.goY (g := g) qq1
            have hu1 : hp_F hq1 m 49 = .int (nI ((dnA sz kf vf np f sd us) 0)) := hu0
            refine ww_iload dX11_span_78 rfl ?_
            refine ww_iconst (v := -1) dX11_span_80 (by decide) ?_
            refine ww_icmp_eq (tgt := 93) dX11_span_81 (by decide) (fun c81 => ?_) (fun c81 => ?_)
            · refine ww_aload_n dX11_span_93 rfl rfl ?_
              refine ww_get 49 dX11_span_94 hi1.1.K0 rfl (by decide) inX11 wg_1289 hu1 ?_
              refine ww_goto (tgt := 102) dX11_span_97 (by decide) ?_
              refine ww_sti (lv2 := [.ref m, .int sd, .int (nI mn), .int (nI us), .int (nI 0), .int (nI ((dnA sz kf vf np f sd us) 0)), .int (nI 0), .int (nI 0), .int (nI 0)]) dX11_span_102 rfl (by decide) rfl ?_
              refine ww_aload_n dX11_span_104 rfl rfl ?_
              refine ww_get 49 dX11_span_105 hi1.1.K0 rfl (by decide) inX11 wg_1289 hu1 ?_
              refine ww_iload dX11_span_108 rfl ?_
              refine ww_icmp_leN (tgt := 120) dX11_span_110 (by decide) (by first | omega | (simp only [spA]; omega)) (by first | omega | (simp only [spA]; omega)) (fun c110 => ?_) (fun c110 => ?_)
              · refine ww_iload dX11_span_120 rfl ?_
                refine ww_sti (lv2 := [.ref m, .int sd, .int (nI mn), .int (nI us), .int (nI 0), .int (nI ((dnA sz kf vf np f sd us) 0)), .int (nI 0), .int (nI 0), .int (nI 0)]) dX11_span_122 rfl (by decide) rfl ?_
                refine ww_iload dX11_span_124 rfl ?_
                refine ww_aload_n dX11_span_126 rfl rfl ?_
                refine ww_get 49 dX11_span_127 hi1.1.K0 rfl (by decide) inX11 wg_1289 hu1 ?_
                refine ww_iload_n dX11_span_130 rfl rfl ?_
                refine ww_icmp_eqN (tgt := 141) dX11_span_131 (by decide) (by first | omega | (simp only [spA]; omega)) (by first | omega | (simp only [spA]; omega)) (fun c131 => ?_) (fun c131 => ?_)
                · refine ww_iconst (v := nI 1) dX11_span_141 (by decide) ?_
                  refine ww_goto (tgt := 146) dX11_span_142 (by decide) ?_
                  refine ww_iaddN dX11_span_146 ?_
                  refine ww_sti (lv2 := [.ref m, .int sd, .int (nI mn), .int (nI us), .int (nI 0), .int (nI ((dnA sz kf vf np f sd us) 0)), .int (nI 0), .int (nI (0 + 1)), .int (nI 0)]) dX11_span_147 rfl (by decide) rfl ?_
                  refine ww_incN (c := 1) (lv2 := [.ref m, .int sd, .int (nI mn), .int (nI us), .int (nI 0), .int (nI ((dnA sz kf vf np f sd us) 0)), .int (nI 0), .int (nI (0 + 1)), .int (nI 1)]) dX11_span_149 rfl rfl rfl (by decide) rfl ?_
                  refine ww_goto (tgt := 63) dX11_span_152 (by decide) ?_
                  refine ww_lv (lv2 := [.ref m, .int sd, .int (nI mn), .int (nI us), .int (nI 0), .int (nI (spM (dnA sz kf vf np f sd us) ((0 + 1)))), .int (nI (spX (dnA sz kf vf np f sd us) ((0 + 1)))), .int (nI (spA np us (dnA sz kf vf np f sd us) ((0 + 1)))), .int (nI ((0 + 1)))]) (by rw [spM_s (by omega) (Or.inl rfl), spX_n (by show _ ≤ 0; omega), spA_i1 (by omega)] <;> rfl) ?_
                  refine l_M_span hst hM hf hok hnp h6 hu sd us mn lus hus hmn (nI 0) (mn - 1) (0 + 1) (by omega) g1 hq1 hi1 (by omega) (fun g8 h9 hi9 => ?_)
                  refine ww_iload dX11_span_155 rfl ?_
                  refine ww_if_neN (tgt := 165) dX11_span_157 (by decide) (by omega) (fun c157 => ?_) (fun c157 => ?_)
                  · exact absurd c157 (by decide)
                  · refine ww_iload dX11_span_160 rfl ?_
                    refine ww_goto (tgt := 178) dX11_span_162 (by decide) ?_
                    exact ww_iret dX11_span_178 rfl ⟨rfl, hi9.2.2.2.1, hi9.2.2.2.2⟩
                · refine ww_aload_n dX11_span_134 rfl rfl ?_
                  refine ww_get 15 dX11_span_135 hi1.1.K0 rfl (by decide) inX11 wg_1255 ((hi1.2.2.2.1.2.2.1 m 15 (SY_no (by decide))).trans hnp) ?_
                  refine ww_if_neN (tgt := 145) dX11_span_138 (by decide) (by first | omega | (simp only [spA]; omega)) (fun c138 => ?_) (fun c138 => ?_)
                  · refine ww_iconst (v := nI 0) dX11_span_145 (by decide) ?_
                    refine ww_iaddN dX11_span_146 ?_
                    refine ww_sti (lv2 := [.ref m, .int sd, .int (nI mn), .int (nI us), .int (nI 0), .int (nI ((dnA sz kf vf np f sd us) 0)), .int (nI 0), .int (nI (0 + 0)), .int (nI 0)]) dX11_span_147 rfl (by decide) rfl ?_
                    refine ww_incN (c := 1) (lv2 := [.ref m, .int sd, .int (nI mn), .int (nI us), .int (nI 0), .int (nI ((dnA sz kf vf np f sd us) 0)), .int (nI 0), .int (nI (0 + 0)), .int (nI 1)]) dX11_span_149 rfl rfl rfl (by decide) rfl ?_
                    refine ww_goto (tgt := 63) dX11_span_152 (by decide) ?_
                    refine ww_lv (lv2 := [.ref m, .int sd, .int (nI mn), .int (nI us), .int (nI 0), .int (nI (spM (dnA sz kf vf np f sd us) ((0 + 1)))), .int (nI (spX (dnA sz kf vf np f sd us) ((0 + 1)))), .int (nI (spA np us (dnA sz kf vf np f sd us) ((0 + 1)))), .int (nI ((0 + 1)))]) (by rw [spM_s (by omega) (Or.inl rfl), spX_n (by show _ ≤ 0; omega), spA_i0 (by omega) (by omega)] <;> rfl) ?_
                    refine l_M_span hst hM hf hok hnp h6 hu sd us mn lus hus hmn (nI 0) (mn - 1) (0 + 1) (by omega) g1 hq1 hi1 (by omega) (fun g8 h9 hi9 => ?_)
                    refine ww_iload dX11_span_155 rfl ?_
                    refine ww_if_neN (tgt := 165) dX11_span_157 (by decide) (by omega) (fun c157 => ?_) (fun c157 => ?_)
                    · exact absurd c157 (by decide)
                    · refine ww_iload dX11_span_160 rfl ?_
                      refine ww_goto (tgt := 178) dX11_span_162 (by decide) ?_
                      exact ww_iret dX11_span_178 rfl ⟨rfl, hi9.2.2.2.1, hi9.2.2.2.2⟩
                  · refine ww_iconst (v := nI 1) dX11_span_141 (by decide) ?_
                    refine ww_goto (tgt := 146) dX11_span_142 (by decide) ?_
                    refine ww_iaddN dX11_span_146 ?_
                    refine ww_sti (lv2 := [.ref m, .int sd, .int (nI mn), .int (nI us), .int (nI 0), .int (nI ((dnA sz kf vf np f sd us) 0)), .int (nI 0), .int (nI (0 + 1)), .int (nI 0)]) dX11_span_147 rfl (by decide) rfl ?_
                    refine ww_incN (c := 1) (lv2 := [.ref m, .int sd, .int (nI mn), .int (nI us), .int (nI 0), .int (nI ((dnA sz kf vf np f sd us) 0)), .int (nI 0), .int (nI (0 + 1)), .int (nI 1)]) dX11_span_149 rfl rfl rfl (by decide) rfl ?_
                    refine ww_goto (tgt := 63) dX11_span_152 (by decide) ?_
                    refine ww_lv (lv2 := [.ref m, .int sd, .int (nI mn), .int (nI us), .int (nI 0), .int (nI (spM (dnA sz kf vf np f sd us) ((0 + 1)))), .int (nI (spX (dnA sz kf vf np f sd us) ((0 + 1)))), .int (nI (spA np us (dnA sz kf vf np f sd us) ((0 + 1)))), .int (nI ((0 + 1)))]) (by rw [spM_s (by omega) (Or.inl rfl), spX_n (by show _ ≤ 0; omega), spA_i1 (by omega)] <;> rfl) ?_
                    refine l_M_span hst hM hf hok hnp h6 hu sd us mn lus hus hmn (nI 0) (mn - 1) (0 + 1) (by omega) g1 hq1 hi1 (by omega) (fun g8 h9 hi9 => ?_)
                    refine ww_iload dX11_span_155 rfl ?_
                    refine ww_if_neN (tgt := 165) dX11_span_157 (by decide) (by omega) (fun c157 => ?_) (fun c157 => ?_)
                    · exact absurd c157 (by decide)
                    · refine ww_iload dX11_span_160 rfl ?_
                      refine ww_goto (tgt := 178) dX11_span_162 (by decide) ?_
                      exact ww_iret dX11_span_178 rfl ⟨rfl, hi9.2.2.2.1, hi9.2.2.2.2⟩
              · refine ww_aload_n dX11_span_113 rfl rfl ?_
                refine ww_get 49 dX11_span_114 hi1.1.K0 rfl (by decide) inX11 wg_1289 hu1 ?_
                refine ww_goto (tgt := 122) dX11_span_117 (by decide) ?_
                refine ww_sti (lv2 := [.ref m, .int sd, .int (nI mn), .int (nI us), .int (nI 0), .int (nI ((dnA sz kf vf np f sd us) 0)), .int (nI ((dnA sz kf vf np f sd us) 0)), .int (nI 0), .int (nI 0)]) dX11_span_122 rfl (by decide) rfl ?_
                refine ww_iload dX11_span_124 rfl ?_
                refine ww_aload_n dX11_span_126 rfl rfl ?_
                refine ww_get 49 dX11_span_127 hi1.1.K0 rfl (by decide) inX11 wg_1289 hu1 ?_
                refine ww_iload_n dX11_span_130 rfl rfl ?_
                refine ww_icmp_eqN (tgt := 141) dX11_span_131 (by decide) (by first | omega | (simp only [spA]; omega)) (by first | omega | (simp only [spA]; omega)) (fun c131 => ?_) (fun c131 => ?_)
                · refine ww_iconst (v := nI 1) dX11_span_141 (by decide) ?_
                  refine ww_goto (tgt := 146) dX11_span_142 (by decide) ?_
                  refine ww_iaddN dX11_span_146 ?_
                  refine ww_sti (lv2 := [.ref m, .int sd, .int (nI mn), .int (nI us), .int (nI 0), .int (nI ((dnA sz kf vf np f sd us) 0)), .int (nI ((dnA sz kf vf np f sd us) 0)), .int (nI (0 + 1)), .int (nI 0)]) dX11_span_147 rfl (by decide) rfl ?_
                  refine ww_incN (c := 1) (lv2 := [.ref m, .int sd, .int (nI mn), .int (nI us), .int (nI 0), .int (nI ((dnA sz kf vf np f sd us) 0)), .int (nI ((dnA sz kf vf np f sd us) 0)), .int (nI (0 + 1)), .int (nI 1)]) dX11_span_149 rfl rfl rfl (by decide) rfl ?_
                  refine ww_goto (tgt := 63) dX11_span_152 (by decide) ?_
                  refine ww_lv (lv2 := [.ref m, .int sd, .int (nI mn), .int (nI us), .int (nI 0), .int (nI (spM (dnA sz kf vf np f sd us) ((0 + 1)))), .int (nI (spX (dnA sz kf vf np f sd us) ((0 + 1)))), .int (nI (spA np us (dnA sz kf vf np f sd us) ((0 + 1)))), .int (nI ((0 + 1)))]) (by rw [spM_s (by omega) (Or.inl rfl), spX_s (by show 0 < _; omega), spA_i1 (by omega)] <;> rfl) ?_
                  refine l_M_span hst hM hf hok hnp h6 hu sd us mn lus hus hmn (nI 0) (mn - 1) (0 + 1) (by omega) g1 hq1 hi1 (by omega) (fun g8 h9 hi9 => ?_)
                  refine ww_iload dX11_span_155 rfl ?_
                  refine ww_if_neN (tgt := 165) dX11_span_157 (by decide) (by omega) (fun c157 => ?_) (fun c157 => ?_)
                  · exact absurd c157 (by decide)
                  · refine ww_iload dX11_span_160 rfl ?_
                    refine ww_goto (tgt := 178) dX11_span_162 (by decide) ?_
                    exact ww_iret dX11_span_178 rfl ⟨rfl, hi9.2.2.2.1, hi9.2.2.2.2⟩
                · refine ww_aload_n dX11_span_134 rfl rfl ?_
                  refine ww_get 15 dX11_span_135 hi1.1.K0 rfl (by decide) inX11 wg_1255 ((hi1.2.2.2.1.2.2.1 m 15 (SY_no (by decide))).trans hnp) ?_
                  refine ww_if_neN (tgt := 145) dX11_span_138 (by decide) (by first | omega | (simp only [spA]; omega)) (fun c138 => ?_) (fun c138 => ?_)
                  · refine ww_iconst (v := nI 0) dX11_span_145 (by decide) ?_
                    refine ww_iaddN dX11_span_146 ?_
                    refine ww_sti (lv2 := [.ref m, .int sd, .int (nI mn), .int (nI us), .int (nI 0), .int (nI ((dnA sz kf vf np f sd us) 0)), .int (nI ((dnA sz kf vf np f sd us) 0)), .int (nI (0 + 0)), .int (nI 0)]) dX11_span_147 rfl (by decide) rfl ?_
                    refine ww_incN (c := 1) (lv2 := [.ref m, .int sd, .int (nI mn), .int (nI us), .int (nI 0), .int (nI ((dnA sz kf vf np f sd us) 0)), .int (nI ((dnA sz kf vf np f sd us) 0)), .int (nI (0 + 0)), .int (nI 1)]) dX11_span_149 rfl rfl rfl (by decide) rfl ?_
                    refine ww_goto (tgt := 63) dX11_span_152 (by decide) ?_
                    refine ww_lv (lv2 := [.ref m, .int sd, .int (nI mn), .int (nI us), .int (nI 0), .int (nI (spM (dnA sz kf vf np f sd us) ((0 + 1)))), .int (nI (spX (dnA sz kf vf np f sd us) ((0 + 1)))), .int (nI (spA np us (dnA sz kf vf np f sd us) ((0 + 1)))), .int (nI ((0 + 1)))]) (by rw [spM_s (by omega) (Or.inl rfl), spX_s (by show 0 < _; omega), spA_i0 (by omega) (by omega)] <;> rfl) ?_
                    refine l_M_span hst hM hf hok hnp h6 hu sd us mn lus hus hmn (nI 0) (mn - 1) (0 + 1) (by omega) g1 hq1 hi1 (by omega) (fun g8 h9 hi9 => ?_)
                    refine ww_iload dX11_span_155 rfl ?_
                    refine ww_if_neN (tgt := 165) dX11_span_157 (by decide) (by omega) (fun c157 => ?_) (fun c157 => ?_)
                    · exact absurd c157 (by decide)
                    · refine ww_iload dX11_span_160 rfl ?_
                      refine ww_goto (tgt := 178) dX11_span_162 (by decide) ?_
                      exact ww_iret dX11_span_178 rfl ⟨rfl, hi9.2.2.2.1, hi9.2.2.2.2⟩
                  · refine ww_iconst (v := nI 1) dX11_span_141 (by decide) ?_
                    refine ww_goto (tgt := 146) dX11_span_142 (by decide) ?_
                    refine ww_iaddN dX11_span_146 ?_
                    refine ww_sti (lv2 := [.ref m, .int sd, .int (nI mn), .int (nI us), .int (nI 0), .int (nI ((dnA sz kf vf np f sd us) 0)), .int (nI ((dnA sz kf vf np f sd us) 0)), .int (nI (0 + 1)), .int (nI 0)]) dX11_span_147 rfl (by decide) rfl ?_
                    refine ww_incN (c := 1) (lv2 := [.ref m, .int sd, .int (nI mn), .int (nI us), .int (nI 0), .int (nI ((dnA sz kf vf np f sd us) 0)), .int (nI ((dnA sz kf vf np f sd us) 0)), .int (nI (0 + 1)), .int (nI 1)]) dX11_span_149 rfl rfl rfl (by decide) rfl ?_
                    refine ww_goto (tgt := 63) dX11_span_152 (by decide) ?_
                    refine ww_lv (lv2 := [.ref m, .int sd, .int (nI mn), .int (nI us), .int (nI 0), .int (nI (spM (dnA sz kf vf np f sd us) ((0 + 1)))), .int (nI (spX (dnA sz kf vf np f sd us) ((0 + 1)))), .int (nI (spA np us (dnA sz kf vf np f sd us) ((0 + 1)))), .int (nI ((0 + 1)))]) (by rw [spM_s (by omega) (Or.inl rfl), spX_s (by show 0 < _; omega), spA_i1 (by omega)] <;> rfl) ?_
                    refine l_M_span hst hM hf hok hnp h6 hu sd us mn lus hus hmn (nI 0) (mn - 1) (0 + 1) (by omega) g1 hq1 hi1 (by omega) (fun g8 h9 hi9 => ?_)
                    refine ww_iload dX11_span_155 rfl ?_
                    refine ww_if_neN (tgt := 165) dX11_span_157 (by decide) (by omega) (fun c157 => ?_) (fun c157 => ?_)
                    · exact absurd c157 (by decide)
                    · refine ww_iload dX11_span_160 rfl ?_
                      refine ww_goto (tgt := 178) dX11_span_162 (by decide) ?_
                      exact ww_iret dX11_span_178 rfl ⟨rfl, hi9.2.2.2.1, hi9.2.2.2.2⟩
            · exact absurd c81 (by decide)
        · exact absurd c46 (by decide)
set_option maxHeartbeats 4000000 in
set_option maxRecDepth 100000 in
theorem c_M_span1 {l : Launch} {Z : EE} (hst : l.stackTraces = false) {h : PH} {m : Nat} (hM : ModS h m) {f : Nat → Int32} (hf : hp_I h (m + 14) = f) {g : Nat → Int32} (hs : hp_I h (m + 15) = g) {sz : Nat} {kf vf : Nat → Int32} (hQ : LawM h m sz kf vf) (hok : LawOK kf vf sz) {np : Nat} (hnp : hp_F h m 15 = .int (nI np)) (h6 : np ≤ 6) (hu : RowU f np) (sd : Int32) (mn : Nat) (lmn : 1 ≤ mn) (hmn : mn ≤ 20) (us : Nat) (lus : 1 ≤ us) (hus : us ≤ 96) : CC l Z m_X11_span 7 0 0 [.ref m, .int sd, .int (nI mn), .int (nI us), .int (nI 1)] h (MOk (nI (spX (dnA sz kf vf np f sd us) mn)) m h) := by
  refine ee_entry hst (by decide +kernel) rfl rfl (by simp [Value.category]) (Nat.le_of_ble_eq_true rfl) ?_
  refine ww_lv (lv2 := [.ref m, .int sd, .int (nI mn), .int (nI us), .int (nI 1), UU, UU, UU, UU]) rfl ?_
  have hdl := dnA_le sz kf vf np f sd us
  have hd9 := hdl 0
  refine ww_aload_n dX11_span_0 rfl rfl ?_
  refine ww_iconst (v := nI 0) dX11_span_1 (by decide) ?_
  refine ww_pfI tyX11 0 dX11_span_2 hM.K0 rfl (by decide) inX11 tyX11_ok nmX11 wg_1240 rfl rfl ?_
  refine ww_aload_n dX11_span_5 rfl rfl ?_
  refine ww_iload_n dX11_span_6 rfl rfl ?_
  refine ww_iconst (v := nI 1) dX11_span_7 (by decide) ?_
  refine ww_bipush (v := nI 20) dX11_span_8 (by decide) ?_
  refine ww_cSr (M := m_X11_span) (pc := 10) (v := .int (nI 1)) (h1 := hp_sF h m 0 (.int (nI 0))) (st := [.ref m]) (d := 7) (bc := 0) (bs := 0) (c_M_within_t hst (nI mn) (nI 1) (nI 20) (nI_le (by omega) (by omega)) (nI_le (by omega) (by omega)) _) vv_X11_within dX11_span_10 wg_1601 rfl rfl rfl (Nat.le_of_ble_eq_true rfl) (Nat.le_of_ble_eq_true rfl) (Nat.le_of_ble_eq_true rfl) (Nat.le_of_ble_eq_true rfl) ?_
  refine ww_if_eqN (tgt := 40) dX11_span_13 (by decide) (by omega) (fun c13 => ?_) (fun c13 => ?_)
  · exact absurd c13 (by decide)
  · refine ww_iload_n dX11_span_16 rfl rfl ?_
    refine ww_iconst (v := nI 1) dX11_span_17 (by decide) ?_
    refine ww_bipush (v := nI 96) dX11_span_18 (by decide) ?_
    refine ww_cSr (M := m_X11_span) (pc := 20) (v := .int (nI 1)) (h1 := hp_sF h m 0 (.int (nI 0))) (st := [.ref m]) (d := 7) (bc := 0) (bs := 0) (c_M_within_t hst (nI us) (nI 1) (nI 96) (nI_le (by omega) (by omega)) (nI_le (by omega) (by omega)) _) vv_X11_within dX11_span_20 wg_1601 rfl rfl rfl (Nat.le_of_ble_eq_true rfl) (Nat.le_of_ble_eq_true rfl) (Nat.le_of_ble_eq_true rfl) (Nat.le_of_ble_eq_true rfl) ?_
    refine ww_if_eqN (tgt := 40) dX11_span_23 (by decide) (by omega) (fun c23 => ?_) (fun c23 => ?_)
    · exact absurd c23 (by decide)
    · refine ww_iload dX11_span_26 rfl ?_
      refine ww_iconst (v := nI 0) dX11_span_28 (by decide) ?_
      refine ww_iconst (v := nI 2) dX11_span_29 (by decide) ?_
      refine ww_cSr (M := m_X11_span) (pc := 30) (v := .int (nI 1)) (h1 := hp_sF h m 0 (.int (nI 0))) (st := [.ref m]) (d := 7) (bc := 0) (bs := 0) (c_M_within_t hst (nI 1) (nI 0) (nI 2) (by decide) (by decide) _) vv_X11_within dX11_span_30 wg_1601 rfl rfl rfl (Nat.le_of_ble_eq_true rfl) (Nat.le_of_ble_eq_true rfl) (Nat.le_of_ble_eq_true rfl) (Nat.le_of_ble_eq_true rfl) ?_
      refine ww_if_eqN (tgt := 40) dX11_span_33 (by decide) (by omega) (fun c33 => ?_) (fun c33 => ?_)
      · exact absurd c33 (by decide)
      · refine ww_iconst (v := nI 1) dX11_span_36 (by decide) ?_
        refine ww_goto (tgt := 41) dX11_span_37 (by decide) ?_
        refine ww_iconst (v := nI 1) dX11_span_41 (by decide) ?_
        refine ww_iconst (v := nI 1) dX11_span_42 (by decide) ?_
        refine ww_cVr (M := m_X11_span) (pc := 43) (v := .int (nI 1)) (h1 := hp_sF h m 0 (.int (nI 0))) (st := []) (d := 7) (bc := 0) (bs := 0) (c_M_may_t hst (h := hp_sF h m 0 (.int (nI 0))) (ModS.sF hM (by decide)) (hp_F_eq _ _ _ _) (nI 1) (nI 1)) vv_X11_may dX11_span_43 wg_1413 hM.K0 rfl rfl rfl rfl (Nat.le_of_ble_eq_true rfl) (Nat.le_of_ble_eq_true rfl) (Nat.le_of_ble_eq_true rfl) (Nat.le_of_ble_eq_true rfl) ?_
        refine ww_if_neN (tgt := 51) dX11_span_46 (by decide) (by omega) (fun c46 => ?_) (fun c46 => ?_)
        · refine ww_iconst (v := -1) dX11_span_51 (by decide) ?_
          refine ww_sti (lv2 := [.ref m, .int sd, .int (nI mn), .int (nI us), .int (nI 1), .int (-1), UU, UU, UU]) dX11_span_52 rfl (by decide) rfl ?_
          refine ww_iconst (v := nI 0) dX11_span_54 (by decide) ?_
          refine ww_sti (lv2 := [.ref m, .int sd, .int (nI mn), .int (nI us), .int (nI 1), .int (-1), .int (nI 0), UU, UU]) dX11_span_55 rfl (by decide) rfl ?_
          refine ww_iconst (v := nI 0) dX11_span_57 (by decide) ?_
          refine ww_sti (lv2 := [.ref m, .int sd, .int (nI mn), .int (nI us), .int (nI 1), .int (-1), .int (nI 0), .int (nI 0), UU]) dX11_span_58 rfl (by decide) rfl ?_
          refine ww_iconst (v := nI 0) dX11_span_60 (by decide) ?_
          refine ww_sti (lv2 := [.ref m, .int sd, .int (nI mn), .int (nI us), .int (nI 1), .int (-1), .int (nI 0), .int (nI 0), .int (nI 0)]) dX11_span_61 rfl (by decide) rfl ?_
          refine ww_iload dX11_span_63 rfl ?_
          refine ww_iload_n dX11_span_65 rfl rfl ?_
          refine ww_icmp_geN (tgt := 155) dX11_span_66 (by decide) (by first | omega | (simp only [spA]; omega)) (by first | omega | (simp only [spA]; omega)) (fun c66 => ?_) (fun c66 => ?_)
          · exfalso; omega
          · refine ww_aload_n dX11_span_69 rfl rfl ?_
            refine ww_iload_n dX11_span_70 rfl rfl ?_
            refine ww_iload dX11_span_71 rfl ?_
            refine ww_iadd dX11_span_73 ?_
            refine ww_iload_n dX11_span_74 rfl rfl ?_
            refine ww_cVq0 (M := m_X11_span) (pc := 75) (st := []) (d := 7) (bc := 0) (bs := 0) (c_M_yearGoes hst hnp h6 hok hf hu (MI.th hM hQ hs) (sd + nI 0) us (by omega) (by omega)) vv_X11_yearGoes dX11_span_75 wg_1763 hM.K0 rfl rfl rfl rfl (Nat.le_of_ble_eq_true rfl) (Nat.le_of_ble_eq_true rfl) (Nat.le_of_ble_eq_true rfl) (Nat.le_of_ble_eq_true rfl) (fun hq1 qq1 => ?_)
            obtain ⟨g1, hi1, hu0⟩ := MI.goY (g := g) qq1
            have hu1 : hp_F hq1 m 49 = .int (nI ((dnA sz kf vf np f sd us) 0)) := hu0
            refine ww_iload dX11_span_78 rfl ?_
            refine ww_iconst (v := -1) dX11_span_80 (by decide) ?_
            refine ww_icmp_eq (tgt := 93) dX11_span_81 (by decide) (fun c81 => ?_) (fun c81 => ?_)
            · refine ww_aload_n dX11_span_93 rfl rfl ?_
              refine ww_get 49 dX11_span_94 hi1.1.K0 rfl (by decide) inX11 wg_1289 hu1 ?_
              refine ww_goto (tgt := 102) dX11_span_97 (by decide) ?_
              refine ww_sti (lv2 := [.ref m, .int sd, .int (nI mn), .int (nI us), .int (nI 1), .int (nI ((dnA sz kf vf np f sd us) 0)), .int (nI 0), .int (nI 0), .int (nI 0)]) dX11_span_102 rfl (by decide) rfl ?_
              refine ww_aload_n dX11_span_104 rfl rfl ?_
              refine ww_get 49 dX11_span_105 hi1.1.K0 rfl (by decide) inX11 wg_1289 hu1 ?_
              refine ww_iload dX11_span_108 rfl ?_
              refine ww_icmp_leN (tgt := 120) dX11_span_110 (by decide) (by first | omega | (simp only [spA]; omega)) (by first | omega | (simp only [spA]; omega)) (fun c110 => ?_) (fun c110 => ?_)
              · refine ww_iload dX11_span_120 rfl ?_
                refine ww_sti (lv2 := [.ref m, .int sd, .int (nI mn), .int (nI us), .int (nI 1), .int (nI ((dnA sz kf vf np f sd us) 0)), .int (nI 0), .int (nI 0), .int (nI 0)]) dX11_span_122 rfl (by decide) rfl ?_
                refine ww_iload dX11_span_124 rfl ?_
                refine ww_aload_n dX11_span_126 rfl rfl ?_
                refine ww_get 49 dX11_span_127 hi1.1.K0 rfl (by decide) inX11 wg_1289 hu1 ?_
                refine ww_iload_n dX11_span_130 rfl rfl ?_
                refine ww_icmp_eqN (tgt := 141) dX11_span_131 (by decide) (by first | omega | (simp only [spA]; omega)) (by first | omega | (simp only [spA]; omega)) (fun c131 => ?_) (fun c131 => ?_)
                · refine ww_iconst (v := nI 1) dX11_span_141 (by decide) ?_
                  refine ww_goto (tgt := 146) dX11_span_142 (by decide) ?_
                  refine ww_iaddN dX11_span_146 ?_
                  refine ww_sti (lv2 := [.ref m, .int sd, .int (nI mn), .int (nI us), .int (nI 1), .int (nI ((dnA sz kf vf np f sd us) 0)), .int (nI 0), .int (nI (0 + 1)), .int (nI 0)]) dX11_span_147 rfl (by decide) rfl ?_
                  refine ww_incN (c := 1) (lv2 := [.ref m, .int sd, .int (nI mn), .int (nI us), .int (nI 1), .int (nI ((dnA sz kf vf np f sd us) 0)), .int (nI 0), .int (nI (0 + 1)), .int (nI 1)]) dX11_span_149 rfl rfl rfl (by decide) rfl ?_
                  refine ww_goto (tgt := 63) dX11_span_152 (by decide) ?_
                  refine ww_lv (lv2 := [.ref m, .int sd, .int (nI mn), .int (nI us), .int (nI 1), .int (nI (spM (dnA sz kf vf np f sd us) ((0 + 1)))), .int (nI (spX (dnA sz kf vf np f sd us) ((0 + 1)))), .int (nI (spA np us (dnA sz kf vf np f sd us) ((0 + 1)))), .int (nI ((0 + 1)))]) (by rw [spM_s (by omega) (Or.inl rfl), spX_n (by show _ ≤ 0; omega), spA_i1 (by omega)] <;> rfl) ?_
                  refine l_M_span hst hM hf hok hnp h6 hu sd us mn lus hus hmn (nI 1) (mn - 1) (0 + 1) (by omega) g1 hq1 hi1 (by omega) (fun g8 h9 hi9 => ?_)
                  refine ww_iload dX11_span_155 rfl ?_
                  refine ww_if_neN (tgt := 165) dX11_span_157 (by decide) (by omega) (fun c157 => ?_) (fun c157 => ?_)
                  · refine ww_iload dX11_span_165 rfl ?_
                    refine ww_iconst (v := nI 1) dX11_span_167 (by decide) ?_
                    refine ww_icmp_neN (tgt := 176) dX11_span_168 (by decide) (by omega) (by omega) (fun c168 => ?_) (fun c168 => ?_)
                    · exact absurd c168 (by decide)
                    · refine ww_iload dX11_span_171 rfl ?_
                      refine ww_goto (tgt := 178) dX11_span_173 (by decide) ?_
                      exact ww_iret dX11_span_178 rfl ⟨rfl, hi9.2.2.2.1, hi9.2.2.2.2⟩
                  · exact absurd c157 (by decide)
                · refine ww_aload_n dX11_span_134 rfl rfl ?_
                  refine ww_get 15 dX11_span_135 hi1.1.K0 rfl (by decide) inX11 wg_1255 ((hi1.2.2.2.1.2.2.1 m 15 (SY_no (by decide))).trans hnp) ?_
                  refine ww_if_neN (tgt := 145) dX11_span_138 (by decide) (by first | omega | (simp only [spA]; omega)) (fun c138 => ?_) (fun c138 => ?_)
                  · refine ww_iconst (v := nI 0) dX11_span_145 (by decide) ?_
                    refine ww_iaddN dX11_span_146 ?_
                    refine ww_sti (lv2 := [.ref m, .int sd, .int (nI mn), .int (nI us), .int (nI 1), .int (nI ((dnA sz kf vf np f sd us) 0)), .int (nI 0), .int (nI (0 + 0)), .int (nI 0)]) dX11_span_147 rfl (by decide) rfl ?_
                    refine ww_incN (c := 1) (lv2 := [.ref m, .int sd, .int (nI mn), .int (nI us), .int (nI 1), .int (nI ((dnA sz kf vf np f sd us) 0)), .int (nI 0), .int (nI (0 + 0)), .int (nI 1)]) dX11_span_149 rfl rfl rfl (by decide) rfl ?_
                    refine ww_goto (tgt := 63) dX11_span_152 (by decide) ?_
                    refine ww_lv (lv2 := [.ref m, .int sd, .int (nI mn), .int (nI us), .int (nI 1), .int (nI (spM (dnA sz kf vf np f sd us) ((0 + 1)))), .int (nI (spX (dnA sz kf vf np f sd us) ((0 + 1)))), .int (nI (spA np us (dnA sz kf vf np f sd us) ((0 + 1)))), .int (nI ((0 + 1)))]) (by rw [spM_s (by omega) (Or.inl rfl), spX_n (by show _ ≤ 0; omega), spA_i0 (by omega) (by omega)] <;> rfl) ?_
                    refine l_M_span hst hM hf hok hnp h6 hu sd us mn lus hus hmn (nI 1) (mn - 1) (0 + 1) (by omega) g1 hq1 hi1 (by omega) (fun g8 h9 hi9 => ?_)
                    refine ww_iload dX11_span_155 rfl ?_
                    refine ww_if_neN (tgt := 165) dX11_span_157 (by decide) (by omega) (fun c157 => ?_) (fun c157 => ?_)
                    · refine ww_iload dX11_span_165 rfl ?_
                      refine ww_iconst (v := nI 1) dX11_span_167 (by decide) ?_
                      refine ww_icmp_neN (tgt := 176) dX11_span_168 (by decide) (by omega) (by omega) (fun c168 => ?_) (fun c168 => ?_)
                      · exact absurd c168 (by decide)
                      · refine ww_iload dX11_span_171 rfl ?_
                        refine ww_goto (tgt := 178) dX11_span_173 (by decide) ?_
                        exact ww_iret dX11_span_178 rfl ⟨rfl, hi9.2.2.2.1, hi9.2.2.2.2⟩
                    · exact absurd c157 (by decide)
                  · refine ww_iconst (v := nI 1) dX11_span_141 (by decide) ?_
                    refine ww_goto (tgt := 146) dX11_span_142 (by decide) ?_
                    refine ww_iaddN dX11_span_146 ?_
                    refine ww_sti (lv2 := [.ref m, .int sd, .int (nI mn), .int (nI us), .int (nI 1), .int (nI ((dnA sz kf vf np f sd us) 0)), .int (nI 0), .int (nI (0 + 1)), .int (nI 0)]) dX11_span_147 rfl (by decide) rfl ?_
                    refine ww_incN (c := 1) (lv2 := [.ref m, .int sd, .int (nI mn), .int (nI us), .int (nI 1), .int (nI ((dnA sz kf vf np f sd us) 0)), .int (nI 0), .int (nI (0 + 1)), .int (nI 1)]) dX11_span_149 rfl rfl rfl (by decide) rfl ?_
                    refine ww_goto (tgt := 63) dX11_span_152 (by decide) ?_
                    refine ww_lv (lv2 := [.ref m, .int sd, .int (nI mn), .int (nI us), .int (nI 1), .int (nI (spM (dnA sz kf vf np f sd us) ((0 + 1)))), .int (nI (spX (dnA sz kf vf np f sd us) ((0 + 1)))), .int (nI (spA np us (dnA sz kf vf np f sd us) ((0 + 1)))), .int (nI ((0 + 1)))]) (by rw [spM_s (by omega) (Or.inl rfl), spX_n (by show _ ≤ 0; omega), spA_i1 (by omega)] <;> rfl) ?_
                    refine l_M_span hst hM hf hok hnp h6 hu sd us mn lus hus hmn (nI 1) (mn - 1) (0 + 1) (by omega) g1 hq1 hi1 (by omega) (fun g8 h9 hi9 => ?_)
                    refine ww_iload dX11_span_155 rfl ?_
                    refine ww_if_neN (tgt := 165) dX11_span_157 (by decide) (by omega) (fun c157 => ?_) (fun c157 => ?_)
                    · refine ww_iload dX11_span_165 rfl ?_
                      refine ww_iconst (v := nI 1) dX11_span_167 (by decide) ?_
                      refine ww_icmp_neN (tgt := 176) dX11_span_168 (by decide) (by omega) (by omega) (fun c168 => ?_) (fun c168 => ?_)
                      · exact absurd c168 (by decide)
                      · refine ww_iload dX11_span_171 rfl ?_
                        refine ww_goto (tgt := 178) dX11_span_173 (by decide) ?_
                        exact ww_iret dX11_span_178 rfl ⟨rfl, hi9.2.2.2.1, hi9.2.2.2.2⟩
                    · exact absurd c157 (by decide)
              · refine ww_aload_n dX11_span_113 rfl rfl ?_
                refine ww_get 49 dX11_span_114 hi1.1.K0 rfl (by decide) inX11 wg_1289 hu1 ?_
                refine ww_goto (tgt := 122) dX11_span_117 (by decide) ?_
                refine ww_sti (lv2 := [.ref m, .int sd, .int (nI mn), .int (nI us), .int (nI 1), .int (nI ((dnA sz kf vf np f sd us) 0)), .int (nI ((dnA sz kf vf np f sd us) 0)), .int (nI 0), .int (nI 0)]) dX11_span_122 rfl (by decide) rfl ?_
                refine ww_iload dX11_span_124 rfl ?_
                refine ww_aload_n dX11_span_126 rfl rfl ?_
                refine ww_get 49 dX11_span_127 hi1.1.K0 rfl (by decide) inX11 wg_1289 hu1 ?_
                refine ww_iload_n dX11_span_130 rfl rfl ?_
                refine ww_icmp_eqN (tgt := 141) dX11_span_131 (by decide) (by first | omega | (simp only [spA]; omega)) (by first | omega | (simp only [spA]; omega)) (fun c131 => ?_) (fun c131 => ?_)
                · refine ww_iconst (v := nI 1) dX11_span_141 (by decide) ?_
                  refine ww_goto (tgt := 146) dX11_span_142 (by decide) ?_
                  refine ww_iaddN dX11_span_146 ?_
                  refine ww_sti (lv2 := [.ref m, .int sd, .int (nI mn), .int (nI us), .int (nI 1), .int (nI ((dnA sz kf vf np f sd us) 0)), .int (nI ((dnA sz kf vf np f sd us) 0)), .int (nI (0 + 1)), .int (nI 0)]) dX11_span_147 rfl (by decide) rfl ?_
                  refine ww_incN (c := 1) (lv2 := [.ref m, .int sd, .int (nI mn), .int (nI us), .int (nI 1), .int (nI ((dnA sz kf vf np f sd us) 0)), .int (nI ((dnA sz kf vf np f sd us) 0)), .int (nI (0 + 1)), .int (nI 1)]) dX11_span_149 rfl rfl rfl (by decide) rfl ?_
                  refine ww_goto (tgt := 63) dX11_span_152 (by decide) ?_
                  refine ww_lv (lv2 := [.ref m, .int sd, .int (nI mn), .int (nI us), .int (nI 1), .int (nI (spM (dnA sz kf vf np f sd us) ((0 + 1)))), .int (nI (spX (dnA sz kf vf np f sd us) ((0 + 1)))), .int (nI (spA np us (dnA sz kf vf np f sd us) ((0 + 1)))), .int (nI ((0 + 1)))]) (by rw [spM_s (by omega) (Or.inl rfl), spX_s (by show 0 < _; omega), spA_i1 (by omega)] <;> rfl) ?_
                  refine l_M_span hst hM hf hok hnp h6 hu sd us mn lus hus hmn (nI 1) (mn - 1) (0 + 1) (by omega) g1 hq1 hi1 (by omega) (fun g8 h9 hi9 => ?_)
                  refine ww_iload dX11_span_155 rfl ?_
                  refine ww_if_neN (tgt := 165) dX11_span_157 (by decide) (by omega) (fun c157 => ?_) (fun c157 => ?_)
                  · refine ww_iload dX11_span_165 rfl ?_
                    refine ww_iconst (v := nI 1) dX11_span_167 (by decide) ?_
                    refine ww_icmp_neN (tgt := 176) dX11_span_168 (by decide) (by omega) (by omega) (fun c168 => ?_) (fun c168 => ?_)
                    · exact absurd c168 (by decide)
                    · refine ww_iload dX11_span_171 rfl ?_
                      refine ww_goto (tgt := 178) dX11_span_173 (by decide) ?_
                      exact ww_iret dX11_span_178 rfl ⟨rfl, hi9.2.2.2.1, hi9.2.2.2.2⟩
                  · exact absurd c157 (by decide)
                · refine ww_aload_n dX11_span_134 rfl rfl ?_
                  refine ww_get 15 dX11_span_135 hi1.1.K0 rfl (by decide) inX11 wg_1255 ((hi1.2.2.2.1.2.2.1 m 15 (SY_no (by decide))).trans hnp) ?_
                  refine ww_if_neN (tgt := 145) dX11_span_138 (by decide) (by first | omega | (simp only [spA]; omega)) (fun c138 => ?_) (fun c138 => ?_)
                  · refine ww_iconst (v := nI 0) dX11_span_145 (by decide) ?_
                    refine ww_iaddN dX11_span_146 ?_
                    refine ww_sti (lv2 := [.ref m, .int sd, .int (nI mn), .int (nI us), .int (nI 1), .int (nI ((dnA sz kf vf np f sd us) 0)), .int (nI ((dnA sz kf vf np f sd us) 0)), .int (nI (0 + 0)), .int (nI 0)]) dX11_span_147 rfl (by decide) rfl ?_
                    refine ww_incN (c := 1) (lv2 := [.ref m, .int sd, .int (nI mn), .int (nI us), .int (nI 1), .int (nI ((dnA sz kf vf np f sd us) 0)), .int (nI ((dnA sz kf vf np f sd us) 0)), .int (nI (0 + 0)), .int (nI 1)]) dX11_span_149 rfl rfl rfl (by decide) rfl ?_
                    refine ww_goto (tgt := 63) dX11_span_152 (by decide) ?_
                    refine ww_lv (lv2 := [.ref m, .int sd, .int (nI mn), .int (nI us), .int (nI 1), .int (nI (spM (dnA sz kf vf np f sd us) ((0 + 1)))), .int (nI (spX (dnA sz kf vf np f sd us) ((0 + 1)))), .int (nI (spA np us (dnA sz kf vf np f sd us) ((0 + 1)))), .int (nI ((0 + 1)))]) (by rw [spM_s (by omega) (Or.inl rfl), spX_s (by show 0 < _; omega), spA_i0 (by omega) (by omega)] <;> rfl) ?_
                    refine l_M_span hst hM hf hok hnp h6 hu sd us mn lus hus hmn (nI 1) (mn - 1) (0 + 1) (by omega) g1 hq1 hi1 (by omega) (fun g8 h9 hi9 => ?_)
                    refine ww_iload dX11_span_155 rfl ?_
                    refine ww_if_neN (tgt := 165) dX11_span_157 (by decide) (by omega) (fun c157 => ?_) (fun c157 => ?_)
                    · refine ww_iload dX11_span_165 rfl ?_
                      refine ww_iconst (v := nI 1) dX11_span_167 (by decide) ?_
                      refine ww_icmp_neN (tgt := 176) dX11_span_168 (by decide) (by omega) (by omega) (fun c168 => ?_) (fun c168 => ?_)
                      · exact absurd c168 (by decide)
                      · refine ww_iload dX11_span_171 rfl ?_
                        refine ww_goto (tgt := 178) dX11_span_173 (by decide) ?_
                        exact ww_iret dX11_span_178 rfl ⟨rfl, hi9.2.2.2.1, hi9.2.2.2.2⟩
                    · exact absurd c157 (by decide)
                  · refine ww_iconst (v := nI 1) dX11_span_141 (by decide) ?_
                    refine ww_goto (tgt := 146) dX11_span_142 (by decide) ?_
                    refine ww_iaddN dX11_span_146 ?_
                    refine ww_sti (lv2 := [.ref m, .int sd, .int (nI mn), .int (nI us), .int (nI 1), .int (nI ((dnA sz kf vf np f sd us) 0)), .int (nI ((dnA sz kf vf np f sd us) 0)), .int (nI (0 + 1)), .int (nI 0)]) dX11_span_147 rfl (by decide) rfl ?_
                    refine ww_incN (c := 1) (lv2 := [.ref m, .int sd, .int (nI mn), .int (nI us), .int (nI 1), .int (nI ((dnA sz kf vf np f sd us) 0)), .int (nI ((dnA sz kf vf np f sd us) 0)), .int (nI (0 + 1)), .int (nI 1)]) dX11_span_149 rfl rfl rfl (by decide) rfl ?_
                    refine ww_goto (tgt := 63) dX11_span_152 (by decide) ?_
                    refine ww_lv (lv2 := [.ref m, .int sd, .int (nI mn), .int (nI us), .int (nI 1), .int (nI (spM (dnA sz kf vf np f sd us) ((0 + 1)))), .int (nI (spX (dnA sz kf vf np f sd us) ((0 + 1)))), .int (nI (spA np us (dnA sz kf vf np f sd us) ((0 + 1)))), .int (nI ((0 + 1)))]) (by rw [spM_s (by omega) (Or.inl rfl), spX_s (by show 0 < _; omega), spA_i1 (by omega)] <;> rfl) ?_
                    refine l_M_span hst hM hf hok hnp h6 hu sd us mn lus hus hmn (nI 1) (mn - 1) (0 + 1) (by omega) g1 hq1 hi1 (by omega) (fun g8 h9 hi9 => ?_)
                    refine ww_iload dX11_span_155 rfl ?_
                    refine ww_if_neN (tgt := 165) dX11_span_157 (by decide) (by omega) (fun c157 => ?_) (fun c157 => ?_)
                    · refine ww_iload dX11_span_165 rfl ?_
                      refine ww_iconst (v := nI 1) dX11_span_167 (by decide) ?_
                      refine ww_icmp_neN (tgt := 176) dX11_span_168 (by decide) (by omega) (by omega) (fun c168 => ?_) (fun c168 => ?_)
                      · exact absurd c168 (by decide)
                      · refine ww_iload dX11_span_171 rfl ?_
                        refine ww_goto (tgt := 178) dX11_span_173 (by decide) ?_
                        exact ww_iret dX11_span_178 rfl ⟨rfl, hi9.2.2.2.1, hi9.2.2.2.2⟩
                    · exact absurd c157 (by decide)
            · exact absurd c81 (by decide)
        · exact absurd c46 (by decide)
set_option maxHeartbeats 4000000 in
set_option maxRecDepth 100000 in
theorem c_M_span2 {l : Launch} {Z : EE} (hst : l.stackTraces = false) {h : PH} {m : Nat} (hM : ModS h m) {f : Nat → Int32} (hf : hp_I h (m + 14) = f) {g : Nat → Int32} (hs : hp_I h (m + 15) = g) {sz : Nat} {kf vf : Nat → Int32} (hQ : LawM h m sz kf vf) (hok : LawOK kf vf sz) {np : Nat} (hnp : hp_F h m 15 = .int (nI np)) (h6 : np ≤ 6) (hu : RowU f np) (sd : Int32) (mn : Nat) (lmn : 1 ≤ mn) (hmn : mn ≤ 20) (us : Nat) (lus : 1 ≤ us) (hus : us ≤ 96) : CC l Z m_X11_span 7 0 0 [.ref m, .int sd, .int (nI mn), .int (nI us), .int (nI 2)] h (MOk (nI (spA np us (dnA sz kf vf np f sd us) mn)) m h) := by
  refine ee_entry hst (by decide +kernel) rfl rfl (by simp [Value.category]) (Nat.le_of_ble_eq_true rfl) ?_
  refine ww_lv (lv2 := [.ref m, .int sd, .int (nI mn), .int (nI us), .int (nI 2), UU, UU, UU, UU]) rfl ?_
  have hdl := dnA_le sz kf vf np f sd us
  have hd9 := hdl 0
  refine ww_aload_n dX11_span_0 rfl rfl ?_
  refine ww_iconst (v := nI 0) dX11_span_1 (by decide) ?_
  refine ww_pfI tyX11 0 dX11_span_2 hM.K0 rfl (by decide) inX11 tyX11_ok nmX11 wg_1240 rfl rfl ?_
  refine ww_aload_n dX11_span_5 rfl rfl ?_
  refine ww_iload_n dX11_span_6 rfl rfl ?_
  refine ww_iconst (v := nI 1) dX11_span_7 (by decide) ?_
  refine ww_bipush (v := nI 20) dX11_span_8 (by decide) ?_
  refine ww_cSr (M := m_X11_span) (pc := 10) (v := .int (nI 1)) (h1 := hp_sF h m 0 (.int (nI 0))) (st := [.ref m]) (d := 7) (bc := 0) (bs := 0) (c_M_within_t hst (nI mn) (nI 1) (nI 20) (nI_le (by omega) (by omega)) (nI_le (by omega) (by omega)) _) vv_X11_within dX11_span_10 wg_1601 rfl rfl rfl (Nat.le_of_ble_eq_true rfl) (Nat.le_of_ble_eq_true rfl) (Nat.le_of_ble_eq_true rfl) (Nat.le_of_ble_eq_true rfl) ?_
  refine ww_if_eqN (tgt := 40) dX11_span_13 (by decide) (by omega) (fun c13 => ?_) (fun c13 => ?_)
  · exact absurd c13 (by decide)
  · refine ww_iload_n dX11_span_16 rfl rfl ?_
    refine ww_iconst (v := nI 1) dX11_span_17 (by decide) ?_
    refine ww_bipush (v := nI 96) dX11_span_18 (by decide) ?_
    refine ww_cSr (M := m_X11_span) (pc := 20) (v := .int (nI 1)) (h1 := hp_sF h m 0 (.int (nI 0))) (st := [.ref m]) (d := 7) (bc := 0) (bs := 0) (c_M_within_t hst (nI us) (nI 1) (nI 96) (nI_le (by omega) (by omega)) (nI_le (by omega) (by omega)) _) vv_X11_within dX11_span_20 wg_1601 rfl rfl rfl (Nat.le_of_ble_eq_true rfl) (Nat.le_of_ble_eq_true rfl) (Nat.le_of_ble_eq_true rfl) (Nat.le_of_ble_eq_true rfl) ?_
    refine ww_if_eqN (tgt := 40) dX11_span_23 (by decide) (by omega) (fun c23 => ?_) (fun c23 => ?_)
    · exact absurd c23 (by decide)
    · refine ww_iload dX11_span_26 rfl ?_
      refine ww_iconst (v := nI 0) dX11_span_28 (by decide) ?_
      refine ww_iconst (v := nI 2) dX11_span_29 (by decide) ?_
      refine ww_cSr (M := m_X11_span) (pc := 30) (v := .int (nI 1)) (h1 := hp_sF h m 0 (.int (nI 0))) (st := [.ref m]) (d := 7) (bc := 0) (bs := 0) (c_M_within_t hst (nI 2) (nI 0) (nI 2) (by decide) (by decide) _) vv_X11_within dX11_span_30 wg_1601 rfl rfl rfl (Nat.le_of_ble_eq_true rfl) (Nat.le_of_ble_eq_true rfl) (Nat.le_of_ble_eq_true rfl) (Nat.le_of_ble_eq_true rfl) ?_
      refine ww_if_eqN (tgt := 40) dX11_span_33 (by decide) (by omega) (fun c33 => ?_) (fun c33 => ?_)
      · exact absurd c33 (by decide)
      · refine ww_iconst (v := nI 1) dX11_span_36 (by decide) ?_
        refine ww_goto (tgt := 41) dX11_span_37 (by decide) ?_
        refine ww_iconst (v := nI 1) dX11_span_41 (by decide) ?_
        refine ww_iconst (v := nI 1) dX11_span_42 (by decide) ?_
        refine ww_cVr (M := m_X11_span) (pc := 43) (v := .int (nI 1)) (h1 := hp_sF h m 0 (.int (nI 0))) (st := []) (d := 7) (bc := 0) (bs := 0) (c_M_may_t hst (h := hp_sF h m 0 (.int (nI 0))) (ModS.sF hM (by decide)) (hp_F_eq _ _ _ _) (nI 1) (nI 1)) vv_X11_may dX11_span_43 wg_1413 hM.K0 rfl rfl rfl rfl (Nat.le_of_ble_eq_true rfl) (Nat.le_of_ble_eq_true rfl) (Nat.le_of_ble_eq_true rfl) (Nat.le_of_ble_eq_true rfl) ?_
        refine ww_if_neN (tgt := 51) dX11_span_46 (by decide) (by omega) (fun c46 => ?_) (fun c46 => ?_)
        · refine ww_iconst (v := -1) dX11_span_51 (by decide) ?_
          refine ww_sti (lv2 := [.ref m, .int sd, .int (nI mn), .int (nI us), .int (nI 2), .int (-1), UU, UU, UU]) dX11_span_52 rfl (by decide) rfl ?_
          refine ww_iconst (v := nI 0) dX11_span_54 (by decide) ?_
          refine ww_sti (lv2 := [.ref m, .int sd, .int (nI mn), .int (nI us), .int (nI 2), .int (-1), .int (nI 0), UU, UU]) dX11_span_55 rfl (by decide) rfl ?_
          refine ww_iconst (v := nI 0) dX11_span_57 (by decide) ?_
          refine ww_sti (lv2 := [.ref m, .int sd, .int (nI mn), .int (nI us), .int (nI 2), .int (-1), .int (nI 0), .int (nI 0), UU]) dX11_span_58 rfl (by decide) rfl ?_
          refine ww_iconst (v := nI 0) dX11_span_60 (by decide) ?_
          refine ww_sti (lv2 := [.ref m, .int sd, .int (nI mn), .int (nI us), .int (nI 2), .int (-1), .int (nI 0), .int (nI 0), .int (nI 0)]) dX11_span_61 rfl (by decide) rfl ?_
          refine ww_iload dX11_span_63 rfl ?_
          refine ww_iload_n dX11_span_65 rfl rfl ?_
          refine ww_icmp_geN (tgt := 155) dX11_span_66 (by decide) (by first | omega | (simp only [spA]; omega)) (by first | omega | (simp only [spA]; omega)) (fun c66 => ?_) (fun c66 => ?_)
          · exfalso; omega
          · refine ww_aload_n dX11_span_69 rfl rfl ?_
            refine ww_iload_n dX11_span_70 rfl rfl ?_
            refine ww_iload dX11_span_71 rfl ?_
            refine ww_iadd dX11_span_73 ?_
            refine ww_iload_n dX11_span_74 rfl rfl ?_
            refine ww_cVq0 (M := m_X11_span) (pc := 75) (st := []) (d := 7) (bc := 0) (bs := 0) (c_M_yearGoes hst hnp h6 hok hf hu (MI.th hM hQ hs) (sd + nI 0) us (by omega) (by omega)) vv_X11_yearGoes dX11_span_75 wg_1763 hM.K0 rfl rfl rfl rfl (Nat.le_of_ble_eq_true rfl) (Nat.le_of_ble_eq_true rfl) (Nat.le_of_ble_eq_true rfl) (Nat.le_of_ble_eq_true rfl) (fun hq1 qq1 => ?_)
            obtain ⟨g1, hi1, hu0⟩ := MI.goY (g := g) qq1
            have hu1 : hp_F hq1 m 49 = .int (nI ((dnA sz kf vf np f sd us) 0)) := hu0
            refine ww_iload dX11_span_78 rfl ?_
            refine ww_iconst (v := -1) dX11_span_80 (by decide) ?_
            refine ww_icmp_eq (tgt := 93) dX11_span_81 (by decide) (fun c81 => ?_) (fun c81 => ?_)
            · refine ww_aload_n dX11_span_93 rfl rfl ?_
              refine ww_get 49 dX11_span_94 hi1.1.K0 rfl (by decide) inX11 wg_1289 hu1 ?_
              refine ww_goto (tgt := 102) dX11_span_97 (by decide) ?_
              refine ww_sti (lv2 := [.ref m, .int sd, .int (nI mn), .int (nI us), .int (nI 2), .int (nI ((dnA sz kf vf np f sd us) 0)), .int (nI 0), .int (nI 0), .int (nI 0)]) dX11_span_102 rfl (by decide) rfl ?_
              refine ww_aload_n dX11_span_104 rfl rfl ?_
              refine ww_get 49 dX11_span_105 hi1.1.K0 rfl (by decide) inX11 wg_1289 hu1 ?_
              refine ww_iload dX11_span_108 rfl ?_
              refine ww_icmp_leN (tgt := 120) dX11_span_110 (by decide) (by first | omega | (simp only [spA]; omega)) (by first | omega | (simp only [spA]; omega)) (fun c110 => ?_) (fun c110 => ?_)
              · refine ww_iload dX11_span_120 rfl ?_
                refine ww_sti (lv2 := [.ref m, .int sd, .int (nI mn), .int (nI us), .int (nI 2), .int (nI ((dnA sz kf vf np f sd us) 0)), .int (nI 0), .int (nI 0), .int (nI 0)]) dX11_span_122 rfl (by decide) rfl ?_
                refine ww_iload dX11_span_124 rfl ?_
                refine ww_aload_n dX11_span_126 rfl rfl ?_
                refine ww_get 49 dX11_span_127 hi1.1.K0 rfl (by decide) inX11 wg_1289 hu1 ?_
                refine ww_iload_n dX11_span_130 rfl rfl ?_
                refine ww_icmp_eqN (tgt := 141) dX11_span_131 (by decide) (by first | omega | (simp only [spA]; omega)) (by first | omega | (simp only [spA]; omega)) (fun c131 => ?_) (fun c131 => ?_)
                · refine ww_iconst (v := nI 1) dX11_span_141 (by decide) ?_
                  refine ww_goto (tgt := 146) dX11_span_142 (by decide) ?_
                  refine ww_iaddN dX11_span_146 ?_
                  refine ww_sti (lv2 := [.ref m, .int sd, .int (nI mn), .int (nI us), .int (nI 2), .int (nI ((dnA sz kf vf np f sd us) 0)), .int (nI 0), .int (nI (0 + 1)), .int (nI 0)]) dX11_span_147 rfl (by decide) rfl ?_
                  refine ww_incN (c := 1) (lv2 := [.ref m, .int sd, .int (nI mn), .int (nI us), .int (nI 2), .int (nI ((dnA sz kf vf np f sd us) 0)), .int (nI 0), .int (nI (0 + 1)), .int (nI 1)]) dX11_span_149 rfl rfl rfl (by decide) rfl ?_
                  refine ww_goto (tgt := 63) dX11_span_152 (by decide) ?_
                  refine ww_lv (lv2 := [.ref m, .int sd, .int (nI mn), .int (nI us), .int (nI 2), .int (nI (spM (dnA sz kf vf np f sd us) ((0 + 1)))), .int (nI (spX (dnA sz kf vf np f sd us) ((0 + 1)))), .int (nI (spA np us (dnA sz kf vf np f sd us) ((0 + 1)))), .int (nI ((0 + 1)))]) (by rw [spM_s (by omega) (Or.inl rfl), spX_n (by show _ ≤ 0; omega), spA_i1 (by omega)] <;> rfl) ?_
                  refine l_M_span hst hM hf hok hnp h6 hu sd us mn lus hus hmn (nI 2) (mn - 1) (0 + 1) (by omega) g1 hq1 hi1 (by omega) (fun g8 h9 hi9 => ?_)
                  refine ww_iload dX11_span_155 rfl ?_
                  refine ww_if_neN (tgt := 165) dX11_span_157 (by decide) (by omega) (fun c157 => ?_) (fun c157 => ?_)
                  · refine ww_iload dX11_span_165 rfl ?_
                    refine ww_iconst (v := nI 1) dX11_span_167 (by decide) ?_
                    refine ww_icmp_neN (tgt := 176) dX11_span_168 (by decide) (by omega) (by omega) (fun c168 => ?_) (fun c168 => ?_)
                    · refine ww_iload dX11_span_176 rfl ?_
                      exact ww_iret dX11_span_178 rfl ⟨rfl, hi9.2.2.2.1, hi9.2.2.2.2⟩
                    · exact absurd c168 (by decide)
                  · exact absurd c157 (by decide)
                · refine ww_aload_n dX11_span_134 rfl rfl ?_
                  refine ww_get 15 dX11_span_135 hi1.1.K0 rfl (by decide) inX11 wg_1255 ((hi1.2.2.2.1.2.2.1 m 15 (SY_no (by decide))).trans hnp) ?_
                  refine ww_if_neN (tgt := 145) dX11_span_138 (by decide) (by first | omega | (simp only [spA]; omega)) (fun c138 => ?_) (fun c138 => ?_)
                  · refine ww_iconst (v := nI 0) dX11_span_145 (by decide) ?_
                    refine ww_iaddN dX11_span_146 ?_
                    refine ww_sti (lv2 := [.ref m, .int sd, .int (nI mn), .int (nI us), .int (nI 2), .int (nI ((dnA sz kf vf np f sd us) 0)), .int (nI 0), .int (nI (0 + 0)), .int (nI 0)]) dX11_span_147 rfl (by decide) rfl ?_
                    refine ww_incN (c := 1) (lv2 := [.ref m, .int sd, .int (nI mn), .int (nI us), .int (nI 2), .int (nI ((dnA sz kf vf np f sd us) 0)), .int (nI 0), .int (nI (0 + 0)), .int (nI 1)]) dX11_span_149 rfl rfl rfl (by decide) rfl ?_
                    refine ww_goto (tgt := 63) dX11_span_152 (by decide) ?_
                    refine ww_lv (lv2 := [.ref m, .int sd, .int (nI mn), .int (nI us), .int (nI 2), .int (nI (spM (dnA sz kf vf np f sd us) ((0 + 1)))), .int (nI (spX (dnA sz kf vf np f sd us) ((0 + 1)))), .int (nI (spA np us (dnA sz kf vf np f sd us) ((0 + 1)))), .int (nI ((0 + 1)))]) (by rw [spM_s (by omega) (Or.inl rfl), spX_n (by show _ ≤ 0; omega), spA_i0 (by omega) (by omega)] <;> rfl) ?_
                    refine l_M_span hst hM hf hok hnp h6 hu sd us mn lus hus hmn (nI 2) (mn - 1) (0 + 1) (by omega) g1 hq1 hi1 (by omega) (fun g8 h9 hi9 => ?_)
                    refine ww_iload dX11_span_155 rfl ?_
                    refine ww_if_neN (tgt := 165) dX11_span_157 (by decide) (by omega) (fun c157 => ?_) (fun c157 => ?_)
                    · refine ww_iload dX11_span_165 rfl ?_
                      refine ww_iconst (v := nI 1) dX11_span_167 (by decide) ?_
                      refine ww_icmp_neN (tgt := 176) dX11_span_168 (by decide) (by omega) (by omega) (fun c168 => ?_) (fun c168 => ?_)
                      · refine ww_iload dX11_span_176 rfl ?_
                        exact ww_iret dX11_span_178 rfl ⟨rfl, hi9.2.2.2.1, hi9.2.2.2.2⟩
                      · exact absurd c168 (by decide)
                    · exact absurd c157 (by decide)
                  · refine ww_iconst (v := nI 1) dX11_span_141 (by decide) ?_
                    refine ww_goto (tgt := 146) dX11_span_142 (by decide) ?_
                    refine ww_iaddN dX11_span_146 ?_
                    refine ww_sti (lv2 := [.ref m, .int sd, .int (nI mn), .int (nI us), .int (nI 2), .int (nI ((dnA sz kf vf np f sd us) 0)), .int (nI 0), .int (nI (0 + 1)), .int (nI 0)]) dX11_span_147 rfl (by decide) rfl ?_
                    refine ww_incN (c := 1) (lv2 := [.ref m, .int sd, .int (nI mn), .int (nI us), .int (nI 2), .int (nI ((dnA sz kf vf np f sd us) 0)), .int (nI 0), .int (nI (0 + 1)), .int (nI 1)]) dX11_span_149 rfl rfl rfl (by decide) rfl ?_
                    refine ww_goto (tgt := 63) dX11_span_152 (by decide) ?_
                    refine ww_lv (lv2 := [.ref m, .int sd, .int (nI mn), .int (nI us), .int (nI 2), .int (nI (spM (dnA sz kf vf np f sd us) ((0 + 1)))), .int (nI (spX (dnA sz kf vf np f sd us) ((0 + 1)))), .int (nI (spA np us (dnA sz kf vf np f sd us) ((0 + 1)))), .int (nI ((0 + 1)))]) (by rw [spM_s (by omega) (Or.inl rfl), spX_n (by show _ ≤ 0; omega), spA_i1 (by omega)] <;> rfl) ?_
                    refine l_M_span hst hM hf hok hnp h6 hu sd us mn lus hus hmn (nI 2) (mn - 1) (0 + 1) (by omega) g1 hq1 hi1 (by omega) (fun g8 h9 hi9 => ?_)
                    refine ww_iload dX11_span_155 rfl ?_
                    refine ww_if_neN (tgt := 165) dX11_span_157 (by decide) (by omega) (fun c157 => ?_) (fun c157 => ?_)
                    · refine ww_iload dX11_span_165 rfl ?_
                      refine ww_iconst (v := nI 1) dX11_span_167 (by decide) ?_
                      refine ww_icmp_neN (tgt := 176) dX11_span_168 (by decide) (by omega) (by omega) (fun c168 => ?_) (fun c168 => ?_)
                      · refine ww_iload dX11_span_176 rfl ?_
                        exact ww_iret dX11_span_178 rfl ⟨rfl, hi9.2.2.2.1, hi9.2.2.2.2⟩
                      · exact absurd c168 (by decide)
                    · exact absurd c157 (by decide)
              · refine ww_aload_n dX11_span_113 rfl rfl ?_
                refine ww_get 49 dX11_span_114 hi1.1.K0 rfl (by decide) inX11 wg_1289 hu1 ?_
                refine ww_goto (tgt := 122) dX11_span_117 (by decide) ?_
                refine ww_sti (lv2 := [.ref m, .int sd, .int (nI mn), .int (nI us), .int (nI 2), .int (nI ((dnA sz kf vf np f sd us) 0)), .int (nI ((dnA sz kf vf np f sd us) 0)), .int (nI 0), .int (nI 0)]) dX11_span_122 rfl (by decide) rfl ?_
                refine ww_iload dX11_span_124 rfl ?_
                refine ww_aload_n dX11_span_126 rfl rfl ?_
                refine ww_get 49 dX11_span_127 hi1.1.K0 rfl (by decide) inX11 wg_1289 hu1 ?_
                refine ww_iload_n dX11_span_130 rfl rfl ?_
                refine ww_icmp_eqN (tgt := 141) dX11_span_131 (by decide) (by first | omega | (simp only [spA]; omega)) (by first | omega | (simp only [spA]; omega)) (fun c131 => ?_) (fun c131 => ?_)
                · refine ww_iconst (v := nI 1) dX11_span_141 (by decide) ?_
                  refine ww_goto (tgt := 146) dX11_span_142 (by decide) ?_
                  refine ww_iaddN dX11_span_146 ?_
                  refine ww_sti (lv2 := [.ref m, .int sd, .int (nI mn), .int (nI us), .int (nI 2), .int (nI ((dnA sz kf vf np f sd us) 0)), .int (nI ((dnA sz kf vf np f sd us) 0)), .int (nI (0 + 1)), .int (nI 0)]) dX11_span_147 rfl (by decide) rfl ?_
                  refine ww_incN (c := 1) (lv2 := [.ref m, .int sd, .int (nI mn), .int (nI us), .int (nI 2), .int (nI ((dnA sz kf vf np f sd us) 0)), .int (nI ((dnA sz kf vf np f sd us) 0)), .int (nI (0 + 1)), .int (nI 1)]) dX11_span_149 rfl rfl rfl (by decide) rfl ?_
                  refine ww_goto (tgt := 63) dX11_span_152 (by decide) ?_
                  refine ww_lv (lv2 := [.ref m, .int sd, .int (nI mn), .int (nI us), .int (nI 2), .int (nI (spM (dnA sz kf vf np f sd us) ((0 + 1)))), .int (nI (spX (dnA sz kf vf np f sd us) ((0 + 1)))), .int (nI (spA np us (dnA sz kf vf np f sd us) ((0 + 1)))), .int (nI ((0 + 1)))]) (by rw [spM_s (by omega) (Or.inl rfl), spX_s (by show 0 < _; omega), spA_i1 (by omega)] <;> rfl) ?_
                  refine l_M_span hst hM hf hok hnp h6 hu sd us mn lus hus hmn (nI 2) (mn - 1) (0 + 1) (by omega) g1 hq1 hi1 (by omega) (fun g8 h9 hi9 => ?_)
                  refine ww_iload dX11_span_155 rfl ?_
                  refine ww_if_neN (tgt := 165) dX11_span_157 (by decide) (by omega) (fun c157 => ?_) (fun c157 => ?_)
                  · refine ww_iload dX11_span_165 rfl ?_
                    refine ww_iconst (v := nI 1) dX11_span_167 (by decide) ?_
                    refine ww_icmp_neN (tgt := 176) dX11_span_168 (by decide) (by omega) (by omega) (fun c168 => ?_) (fun c168 => ?_)
                    · refine ww_iload dX11_span_176 rfl ?_
                      exact ww_iret dX11_span_178 rfl ⟨rfl, hi9.2.2.2.1, hi9.2.2.2.2⟩
                    · exact absurd c168 (by decide)
                  · exact absurd c157 (by decide)
                · refine ww_aload_n dX11_span_134 rfl rfl ?_
                  refine ww_get 15 dX11_span_135 hi1.1.K0 rfl (by decide) inX11 wg_1255 ((hi1.2.2.2.1.2.2.1 m 15 (SY_no (by decide))).trans hnp) ?_
                  refine ww_if_neN (tgt := 145) dX11_span_138 (by decide) (by first | omega | (simp only [spA]; omega)) (fun c138 => ?_) (fun c138 => ?_)
                  · refine ww_iconst (v := nI 0) dX11_span_145 (by decide) ?_
                    refine ww_iaddN dX11_span_146 ?_
                    refine ww_sti (lv2 := [.ref m, .int sd, .int (nI mn), .int (nI us), .int (nI 2), .int (nI ((dnA sz kf vf np f sd us) 0)), .int (nI ((dnA sz kf vf np f sd us) 0)), .int (nI (0 + 0)), .int (nI 0)]) dX11_span_147 rfl (by decide) rfl ?_
                    refine ww_incN (c := 1) (lv2 := [.ref m, .int sd, .int (nI mn), .int (nI us), .int (nI 2), .int (nI ((dnA sz kf vf np f sd us) 0)), .int (nI ((dnA sz kf vf np f sd us) 0)), .int (nI (0 + 0)), .int (nI 1)]) dX11_span_149 rfl rfl rfl (by decide) rfl ?_
                    refine ww_goto (tgt := 63) dX11_span_152 (by decide) ?_
                    refine ww_lv (lv2 := [.ref m, .int sd, .int (nI mn), .int (nI us), .int (nI 2), .int (nI (spM (dnA sz kf vf np f sd us) ((0 + 1)))), .int (nI (spX (dnA sz kf vf np f sd us) ((0 + 1)))), .int (nI (spA np us (dnA sz kf vf np f sd us) ((0 + 1)))), .int (nI ((0 + 1)))]) (by rw [spM_s (by omega) (Or.inl rfl), spX_s (by show 0 < _; omega), spA_i0 (by omega) (by omega)] <;> rfl) ?_
                    refine l_M_span hst hM hf hok hnp h6 hu sd us mn lus hus hmn (nI 2) (mn - 1) (0 + 1) (by omega) g1 hq1 hi1 (by omega) (fun g8 h9 hi9 => ?_)
                    refine ww_iload dX11_span_155 rfl ?_
                    refine ww_if_neN (tgt := 165) dX11_span_157 (by decide) (by omega) (fun c157 => ?_) (fun c157 => ?_)
                    · refine ww_iload dX11_span_165 rfl ?_
                      refine ww_iconst (v := nI 1) dX11_span_167 (by decide) ?_
                      refine ww_icmp_neN (tgt := 176) dX11_span_168 (by decide) (by omega) (by omega) (fun c168 => ?_) (fun c168 => ?_)
                      · refine ww_iload dX11_span_176 rfl ?_
                        exact ww_iret dX11_span_178 rfl ⟨rfl, hi9.2.2.2.1, hi9.2.2.2.2⟩
                      · exact absurd c168 (by decide)
                    · exact absurd c157 (by decide)
                  · refine ww_iconst (v := nI 1) dX11_span_141 (by decide) ?_
                    refine ww_goto (tgt := 146) dX11_span_142 (by decide) ?_
                    refine ww_iaddN dX11_span_146 ?_
                    refine ww_sti (lv2 := [.ref m, .int sd, .int (nI mn), .int (nI us), .int (nI 2), .int (nI ((dnA sz kf vf np f sd us) 0)), .int (nI ((dnA sz kf vf np f sd us) 0)), .int (nI (0 + 1)), .int (nI 0)]) dX11_span_147 rfl (by decide) rfl ?_
                    refine ww_incN (c := 1) (lv2 := [.ref m, .int sd, .int (nI mn), .int (nI us), .int (nI 2), .int (nI ((dnA sz kf vf np f sd us) 0)), .int (nI ((dnA sz kf vf np f sd us) 0)), .int (nI (0 + 1)), .int (nI 1)]) dX11_span_149 rfl rfl rfl (by decide) rfl ?_
                    refine ww_goto (tgt := 63) dX11_span_152 (by decide) ?_
                    refine ww_lv (lv2 := [.ref m, .int sd, .int (nI mn), .int (nI us), .int (nI 2), .int (nI (spM (dnA sz kf vf np f sd us) ((0 + 1)))), .int (nI (spX (dnA sz kf vf np f sd us) ((0 + 1)))), .int (nI (spA np us (dnA sz kf vf np f sd us) ((0 + 1)))), .int (nI ((0 + 1)))]) (by rw [spM_s (by omega) (Or.inl rfl), spX_s (by show 0 < _; omega), spA_i1 (by omega)] <;> rfl) ?_
                    refine l_M_span hst hM hf hok hnp h6 hu sd us mn lus hus hmn (nI 2) (mn - 1) (0 + 1) (by omega) g1 hq1 hi1 (by omega) (fun g8 h9 hi9 => ?_)
                    refine ww_iload dX11_span_155 rfl ?_
                    refine ww_if_neN (tgt := 165) dX11_span_157 (by decide) (by omega) (fun c157 => ?_) (fun c157 => ?_)
                    · refine ww_iload dX11_span_165 rfl ?_
                      refine ww_iconst (v := nI 1) dX11_span_167 (by decide) ?_
                      refine ww_icmp_neN (tgt := 176) dX11_span_168 (by decide) (by omega) (by omega) (fun c168 => ?_) (fun c168 => ?_)
                      · refine ww_iload dX11_span_176 rfl ?_
                        exact ww_iret dX11_span_178 rfl ⟨rfl, hi9.2.2.2.1, hi9.2.2.2.2⟩
                      · exact absurd c168 (by decide)
                    · exact absurd c157 (by decide)
            · exact absurd c81 (by decide)
        · exact absurd c46 (by decide)
set_option maxHeartbeats 4000000 in
set_option maxRecDepth 100000 in
theorem c_M_span_no0 {l : Launch} {Z : EE} (hst : l.stackTraces = false) {h : PH} {m : Nat} (hM : ModS h m) (sd mn us w : Int32) (hout : outR 1 20 mn) : CC l Z m_X11_span 6 0 0 [.ref m, .int sd, .int mn, .int us, .int w] h (MNo 1 1 m h) := by
  refine ee_entry hst (by decide +kernel) rfl rfl (by simp [Value.category]) (Nat.le_of_ble_eq_true rfl) ?_
  refine ww_lv (lv2 := [.ref m, .int sd, .int mn, .int us, .int w, UU, UU, UU, UU]) rfl ?_
  refine ww_aload_n dX11_span_0 rfl rfl ?_
  refine ww_iconst (v := nI 0) dX11_span_1 (by decide) ?_
  refine ww_pfI tyX11 0 dX11_span_2 hM.K0 rfl (by decide) inX11 tyX11_ok nmX11 wg_1240 rfl rfl ?_
  refine ww_aload_n dX11_span_5 rfl rfl ?_
  refine ww_iload_n dX11_span_6 rfl rfl ?_
  refine ww_iconst (v := nI 1) dX11_span_7 (by decide) ?_
  refine ww_bipush (v := nI 20) dX11_span_8 (by decide) ?_
  refine ww_cSr (M := m_X11_span) (pc := 10) (v := .int (nI 0)) (h1 := hp_sF h m 0 (.int (nI 0))) (st := [.ref m]) (d := 6) (bc := 0) (bs := 0) (c_M_within_f hst mn (nI 1) (nI 20) hout _) vv_X11_within dX11_span_10 wg_1601 rfl rfl rfl (Nat.le_of_ble_eq_true rfl) (Nat.le_of_ble_eq_true rfl) (Nat.le_of_ble_eq_true rfl) (Nat.le_of_ble_eq_true rfl) ?_
  refine ww_if_eqN (tgt := 40) dX11_span_13 (by decide) (by omega) (fun c13 => ?_) (fun c13 => ?_)
  · refine ww_iconst (v := nI 0) dX11_span_40 (by decide) ?_
    refine ww_iconst (v := nI 1) dX11_span_41 (by decide) ?_
    refine ww_iconst (v := nI 1) dX11_span_42 (by decide) ?_
    refine ww_cVr (M := m_X11_span) (pc := 43) (v := .int (nI 0)) (h1 := hp_sI (hp_sF (hp_sF h m 0 (.int (nI 0))) m 0 (.int (nI 1))) (m + 1) (upd (hp_I (hp_sF h m 0 (.int (nI 0))) (m + 1)) 1 (hp_I (hp_sF h m 0 (.int (nI 0))) (m + 1) 1 + nI 1))) (st := []) (d := 6) (bc := 0) (bs := 0) (c_M_may_f hst (h := hp_sF h m 0 (.int (nI 0))) (ModS.sF hM (by decide)) (hp_F_eq _ _ _ _) 1 1 (by decide) (by decide) (by decide)) vv_X11_may dX11_span_43 wg_1413 hM.K0 rfl rfl rfl rfl (Nat.le_of_ble_eq_true rfl) (Nat.le_of_ble_eq_true rfl) (Nat.le_of_ble_eq_true rfl) (Nat.le_of_ble_eq_true rfl) ?_
    refine ww_if_neN (tgt := 51) dX11_span_46 (by decide) (by omega) (fun c46 => ?_) (fun c46 => ?_)
    · exact absurd c46 (by decide)
    · refine ww_iconst (v := nI 0) dX11_span_49 (by decide) ?_
      exact ww_iret dX11_span_50 rfl ⟨rfl, (((Same.rf.sF (SY0 m)).sF (SY0 m)).sI (Or.inr rfl)), (hp_F_sI (hp_F_eq _ _ _ _)), by rw [hp_I_eq]; rfl⟩
  · exact absurd c13 (by decide)
set_option maxHeartbeats 4000000 in
set_option maxRecDepth 100000 in
theorem c_M_span_no1 {l : Launch} {Z : EE} (hst : l.stackTraces = false) {h : PH} {m : Nat} (hM : ModS h m) (sd : Int32) (mn : Nat) (lmn : 1 ≤ mn) (hmn : mn ≤ 20) (us w : Int32) (hout : outR 1 96 us) : CC l Z m_X11_span 6 0 0 [.ref m, .int sd, .int (nI mn), .int us, .int w] h (MNo 1 1 m h) := by
  refine ee_entry hst (by decide +kernel) rfl rfl (by simp [Value.category]) (Nat.le_of_ble_eq_true rfl) ?_
  refine ww_lv (lv2 := [.ref m, .int sd, .int (nI mn), .int us, .int w, UU, UU, UU, UU]) rfl ?_
  refine ww_aload_n dX11_span_0 rfl rfl ?_
  refine ww_iconst (v := nI 0) dX11_span_1 (by decide) ?_
  refine ww_pfI tyX11 0 dX11_span_2 hM.K0 rfl (by decide) inX11 tyX11_ok nmX11 wg_1240 rfl rfl ?_
  refine ww_aload_n dX11_span_5 rfl rfl ?_
  refine ww_iload_n dX11_span_6 rfl rfl ?_
  refine ww_iconst (v := nI 1) dX11_span_7 (by decide) ?_
  refine ww_bipush (v := nI 20) dX11_span_8 (by decide) ?_
  refine ww_cSr (M := m_X11_span) (pc := 10) (v := .int (nI 1)) (h1 := hp_sF h m 0 (.int (nI 0))) (st := [.ref m]) (d := 6) (bc := 0) (bs := 0) (c_M_within_t hst (nI mn) (nI 1) (nI 20) (nI_le (by omega) (by omega)) (nI_le (by omega) (by omega)) _) vv_X11_within dX11_span_10 wg_1601 rfl rfl rfl (Nat.le_of_ble_eq_true rfl) (Nat.le_of_ble_eq_true rfl) (Nat.le_of_ble_eq_true rfl) (Nat.le_of_ble_eq_true rfl) ?_
  refine ww_if_eqN (tgt := 40) dX11_span_13 (by decide) (by omega) (fun c13 => ?_) (fun c13 => ?_)
  · exact absurd c13 (by decide)
  · refine ww_iload_n dX11_span_16 rfl rfl ?_
    refine ww_iconst (v := nI 1) dX11_span_17 (by decide) ?_
    refine ww_bipush (v := nI 96) dX11_span_18 (by decide) ?_
    refine ww_cSr (M := m_X11_span) (pc := 20) (v := .int (nI 0)) (h1 := hp_sF h m 0 (.int (nI 0))) (st := [.ref m]) (d := 6) (bc := 0) (bs := 0) (c_M_within_f hst us (nI 1) (nI 96) hout _) vv_X11_within dX11_span_20 wg_1601 rfl rfl rfl (Nat.le_of_ble_eq_true rfl) (Nat.le_of_ble_eq_true rfl) (Nat.le_of_ble_eq_true rfl) (Nat.le_of_ble_eq_true rfl) ?_
    refine ww_if_eqN (tgt := 40) dX11_span_23 (by decide) (by omega) (fun c23 => ?_) (fun c23 => ?_)
    · refine ww_iconst (v := nI 0) dX11_span_40 (by decide) ?_
      refine ww_iconst (v := nI 1) dX11_span_41 (by decide) ?_
      refine ww_iconst (v := nI 1) dX11_span_42 (by decide) ?_
      refine ww_cVr (M := m_X11_span) (pc := 43) (v := .int (nI 0)) (h1 := hp_sI (hp_sF (hp_sF h m 0 (.int (nI 0))) m 0 (.int (nI 1))) (m + 1) (upd (hp_I (hp_sF h m 0 (.int (nI 0))) (m + 1)) 1 (hp_I (hp_sF h m 0 (.int (nI 0))) (m + 1) 1 + nI 1))) (st := []) (d := 6) (bc := 0) (bs := 0) (c_M_may_f hst (h := hp_sF h m 0 (.int (nI 0))) (ModS.sF hM (by decide)) (hp_F_eq _ _ _ _) 1 1 (by decide) (by decide) (by decide)) vv_X11_may dX11_span_43 wg_1413 hM.K0 rfl rfl rfl rfl (Nat.le_of_ble_eq_true rfl) (Nat.le_of_ble_eq_true rfl) (Nat.le_of_ble_eq_true rfl) (Nat.le_of_ble_eq_true rfl) ?_
      refine ww_if_neN (tgt := 51) dX11_span_46 (by decide) (by omega) (fun c46 => ?_) (fun c46 => ?_)
      · exact absurd c46 (by decide)
      · refine ww_iconst (v := nI 0) dX11_span_49 (by decide) ?_
        exact ww_iret dX11_span_50 rfl ⟨rfl, (((Same.rf.sF (SY0 m)).sF (SY0 m)).sI (Or.inr rfl)), (hp_F_sI (hp_F_eq _ _ _ _)), by rw [hp_I_eq]; rfl⟩
    · exact absurd c23 (by decide)
set_option maxHeartbeats 4000000 in
set_option maxRecDepth 100000 in
theorem c_M_span_no2 {l : Launch} {Z : EE} (hst : l.stackTraces = false) {h : PH} {m : Nat} (hM : ModS h m) (sd : Int32) (mn : Nat) (lmn : 1 ≤ mn) (hmn : mn ≤ 20) (us : Nat) (lus : 1 ≤ us) (hus : us ≤ 96) (w : Int32) (hout : outR 0 2 w) : CC l Z m_X11_span 6 0 0 [.ref m, .int sd, .int (nI mn), .int (nI us), .int w] h (MNo 1 1 m h) := by
  refine ee_entry hst (by decide +kernel) rfl rfl (by simp [Value.category]) (Nat.le_of_ble_eq_true rfl) ?_
  refine ww_lv (lv2 := [.ref m, .int sd, .int (nI mn), .int (nI us), .int w, UU, UU, UU, UU]) rfl ?_
  refine ww_aload_n dX11_span_0 rfl rfl ?_
  refine ww_iconst (v := nI 0) dX11_span_1 (by decide) ?_
  refine ww_pfI tyX11 0 dX11_span_2 hM.K0 rfl (by decide) inX11 tyX11_ok nmX11 wg_1240 rfl rfl ?_
  refine ww_aload_n dX11_span_5 rfl rfl ?_
  refine ww_iload_n dX11_span_6 rfl rfl ?_
  refine ww_iconst (v := nI 1) dX11_span_7 (by decide) ?_
  refine ww_bipush (v := nI 20) dX11_span_8 (by decide) ?_
  refine ww_cSr (M := m_X11_span) (pc := 10) (v := .int (nI 1)) (h1 := hp_sF h m 0 (.int (nI 0))) (st := [.ref m]) (d := 6) (bc := 0) (bs := 0) (c_M_within_t hst (nI mn) (nI 1) (nI 20) (nI_le (by omega) (by omega)) (nI_le (by omega) (by omega)) _) vv_X11_within dX11_span_10 wg_1601 rfl rfl rfl (Nat.le_of_ble_eq_true rfl) (Nat.le_of_ble_eq_true rfl) (Nat.le_of_ble_eq_true rfl) (Nat.le_of_ble_eq_true rfl) ?_
  refine ww_if_eqN (tgt := 40) dX11_span_13 (by decide) (by omega) (fun c13 => ?_) (fun c13 => ?_)
  · exact absurd c13 (by decide)
  · refine ww_iload_n dX11_span_16 rfl rfl ?_
    refine ww_iconst (v := nI 1) dX11_span_17 (by decide) ?_
    refine ww_bipush (v := nI 96) dX11_span_18 (by decide) ?_
    refine ww_cSr (M := m_X11_span) (pc := 20) (v := .int (nI 1)) (h1 := hp_sF h m 0 (.int (nI 0))) (st := [.ref m]) (d := 6) (bc := 0) (bs := 0) (c_M_within_t hst (nI us) (nI 1) (nI 96) (nI_le (by omega) (by omega)) (nI_le (by omega) (by omega)) _) vv_X11_within dX11_span_20 wg_1601 rfl rfl rfl (Nat.le_of_ble_eq_true rfl) (Nat.le_of_ble_eq_true rfl) (Nat.le_of_ble_eq_true rfl) (Nat.le_of_ble_eq_true rfl) ?_
    refine ww_if_eqN (tgt := 40) dX11_span_23 (by decide) (by omega) (fun c23 => ?_) (fun c23 => ?_)
    · exact absurd c23 (by decide)
    · refine ww_iload dX11_span_26 rfl ?_
      refine ww_iconst (v := nI 0) dX11_span_28 (by decide) ?_
      refine ww_iconst (v := nI 2) dX11_span_29 (by decide) ?_
      refine ww_cSr (M := m_X11_span) (pc := 30) (v := .int (nI 0)) (h1 := hp_sF h m 0 (.int (nI 0))) (st := [.ref m]) (d := 6) (bc := 0) (bs := 0) (c_M_within_f hst w (nI 0) (nI 2) hout _) vv_X11_within dX11_span_30 wg_1601 rfl rfl rfl (Nat.le_of_ble_eq_true rfl) (Nat.le_of_ble_eq_true rfl) (Nat.le_of_ble_eq_true rfl) (Nat.le_of_ble_eq_true rfl) ?_
      refine ww_if_eqN (tgt := 40) dX11_span_33 (by decide) (by omega) (fun c33 => ?_) (fun c33 => ?_)
      · refine ww_iconst (v := nI 0) dX11_span_40 (by decide) ?_
        refine ww_iconst (v := nI 1) dX11_span_41 (by decide) ?_
        refine ww_iconst (v := nI 1) dX11_span_42 (by decide) ?_
        refine ww_cVr (M := m_X11_span) (pc := 43) (v := .int (nI 0)) (h1 := hp_sI (hp_sF (hp_sF h m 0 (.int (nI 0))) m 0 (.int (nI 1))) (m + 1) (upd (hp_I (hp_sF h m 0 (.int (nI 0))) (m + 1)) 1 (hp_I (hp_sF h m 0 (.int (nI 0))) (m + 1) 1 + nI 1))) (st := []) (d := 6) (bc := 0) (bs := 0) (c_M_may_f hst (h := hp_sF h m 0 (.int (nI 0))) (ModS.sF hM (by decide)) (hp_F_eq _ _ _ _) 1 1 (by decide) (by decide) (by decide)) vv_X11_may dX11_span_43 wg_1413 hM.K0 rfl rfl rfl rfl (Nat.le_of_ble_eq_true rfl) (Nat.le_of_ble_eq_true rfl) (Nat.le_of_ble_eq_true rfl) (Nat.le_of_ble_eq_true rfl) ?_
        refine ww_if_neN (tgt := 51) dX11_span_46 (by decide) (by omega) (fun c46 => ?_) (fun c46 => ?_)
        · exact absurd c46 (by decide)
        · refine ww_iconst (v := nI 0) dX11_span_49 (by decide) ?_
          exact ww_iret dX11_span_50 rfl ⟨rfl, (((Same.rf.sF (SY0 m)).sF (SY0 m)).sI (Or.inr rfl)), (hp_F_sI (hp_F_eq _ _ _ _)), by rw [hp_I_eq]; rfl⟩
      · exact absurd c33 (by decide)
