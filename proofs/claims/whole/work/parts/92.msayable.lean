/-! ===== the reference's sayable and common ===== -/
theorem lcmp_le {a b : Nat} (ha : a < 2 ^ 62) (hb : b < 2 ^ 62) : lg_cmp (lI a) (lI b) ≤ 0 ↔ a ≤ b := by
  rw [lg_cmp_le, Int64.le_iff_toInt_le, lI_toInt ha, lI_toInt hb]; omega
theorem lcmp_gE {a b : Nat} (ha : a < 2 ^ 62) (hb : b < 2 ^ 62) : 0 ≤ lg_cmp (lI a) (lI b) ↔ b ≤ a := by
  rw [lg_cmp_ge, Int64.le_iff_toInt_le, lI_toInt ha, lI_toInt hb]; omega
theorem fareT_sy {f g9 : Nat → Int32} (hg9 : ∀ i, i < 190 → g9 i = f i) {sz : Nat} {kf vf : Nat → Int32} (k : Nat) : fareT g9 sz kf vf k 1 = nI (syO f sz kf vf k) := by
  rw [fareT_eq hg9]; exact (fareTn_ok f sz kf vf k 1).1
theorem sy_lq (f : Nat → Int32) (sz : Nat) (kf vf : Nat → Int32) (du : Nat) {n x : Nat} (hn : n ≤ 60) (hx : x ≤ 99) : lg_cmp (lI (syL f sz kf vf du n) / 1000000) ((nI x).toInt64) = lg_cmp (lI ((syQ f sz kf vf du).1 n)) (lI x) := by
  have h2 := syL_lt f sz kf vf du hn
  rw [lI_div1 (by omega), syL_d f sz kf vf du hn, nI_long (by omega)]
theorem sy_l0 (f : Nat → Int32) (sz : Nat) (kf vf : Nat → Int32) (du : Nat) {n : Nat} (hn : n ≤ 60) : syL f sz kf vf du n < 1000000 ↔ (syQ f sz kf vf du).1 n = 0 := by
  have h := syQ_le f sz kf vf du hn
  unfold syL; omega
set_option maxHeartbeats 4000000 in
set_option maxRecDepth 100000 in
theorem l_M_sayable {l : Launch} {Z : EE} (hst : l.stackTraces = false) {h1 : PH} {m : Nat} {f : Nat → Int32} {sz : Nat} {kf vf : Nat → Int32} {du : Nat} (hM : ModS h1 m) (hr : ∀ i, i < 61 → hp_L h1 (m + 19) i = lI (syL f sz kf vf du i)) (x : Nat) (hx : x ≤ 99) (w : Int32) {Post : Res → PH → Prop} : ∀ (j k : Nat), k + j = 61 → WW l Z m_X11_sayable 6 0 0 92 [.ref m, .int (nI x), .int w, .int (nI (cnt (fun i => decide ((syQ f sz kf vf du).1 i ≤ x)) 61)), .int (laI (fun i => decide ((syQ f sz kf vf du).1 i ≤ x)) 61), .int (nI 61)] [] h1 Post → WW l Z m_X11_sayable 6 0 0 52 [.ref m, .int (nI x), .int w, .int (nI (cnt (fun i => decide ((syQ f sz kf vf du).1 i ≤ x)) k)), .int (laI (fun i => decide ((syQ f sz kf vf du).1 i ≤ x)) k), .int (nI k)] [] h1 Post := by
  intro j
  induction j with
  | zero =>
    intro k hk hex
    refine ww_iload dX11_sayable_52 rfl ?_
    refine ww_bipush (v := nI 61) dX11_sayable_54 (by decide) ?_
    refine ww_icmp_geN (tgt := 92) dX11_sayable_56 (by decide) (by omega) (by omega) (fun c56 => ?_) (fun c56 => ?_)
    · have hk9 : k = 61 := by omega
      subst hk9
      exact hex
    · exfalso; omega
  | succ j ih =>
    intro k hk hex
    have hcl := cnt_le (fun i => decide ((syQ f sz kf vf du).1 i ≤ x)) k
    have hq9 := syQ_le f sz kf vf du (show k ≤ 60 by omega)
    have hiff := lcmp_le (show (syQ f sz kf vf du).1 k < 2 ^ 62 by omega) (show x < 2 ^ 62 by omega)
    refine ww_iload dX11_sayable_52 rfl ?_
    refine ww_bipush (v := nI 61) dX11_sayable_54 (by decide) ?_
    refine ww_icmp_geN (tgt := 92) dX11_sayable_56 (by decide) (by omega) (by omega) (fun c56 => ?_) (fun c56 => ?_)
    · exfalso; omega
    · refine ww_aload_n dX11_sayable_59 rfl rfl ?_
      refine ww_get 39 dX11_sayable_60 hM.K0 rfl (by decide) inX11 wg_1279 hM.F19 ?_
      refine ww_iload dX11_sayable_63 rfl ?_
      refine ww_laldF dX11_sayable_65 hM.K19 rfl (by omega) (by omega) ?_
      refine ww_sk (st2 := [.long (lI (syL f sz kf vf du k))]) (by rw [hr k (by omega)]) ?_
      refine ww_ldc2 (v := 1000000) dX11_sayable_66 wg_1640 ?_
      refine ww_ldiv dX11_sayable_69 (by decide) ?_
      refine ww_iload_n dX11_sayable_70 rfl rfl ?_
      refine ww_i2l dX11_sayable_71 ?_
      refine ww_lcmp dX11_sayable_72 ?_
      refine ww_sk (st2 := [.int (lg_cmp (lI ((syQ f sz kf vf du).1 k)) (lI x))]) (by rw [sy_lq f sz kf vf du (by omega) hx]) ?_
      refine ww_if_le (tgt := 79) dX11_sayable_73 (by decide) (fun c73 => ?_) (fun c73 => ?_)
      · refine ww_incN (c := 1) (lv2 := [.ref m, .int (nI x), .int w, .int (nI (cnt (fun i => decide ((syQ f sz kf vf du).1 i ≤ x)) k + 1)), .int (laI (fun i => decide ((syQ f sz kf vf du).1 i ≤ x)) k), .int (nI k)]) dX11_sayable_79 rfl rfl rfl (by decide) rfl ?_
        refine ww_iload dX11_sayable_82 rfl ?_
        refine ww_sti (lv2 := [.ref m, .int (nI x), .int w, .int (nI (cnt (fun i => decide ((syQ f sz kf vf du).1 i ≤ x)) k + 1)), .int (nI k), .int (nI k)]) dX11_sayable_84 rfl (by decide) rfl ?_
        refine ww_incN (c := 1) (lv2 := [.ref m, .int (nI x), .int w, .int (nI (cnt (fun i => decide ((syQ f sz kf vf du).1 i ≤ x)) k + 1)), .int (nI k), .int (nI (k + 1))]) dX11_sayable_86 rfl rfl rfl (by decide) rfl ?_
        refine ww_goto (tgt := 52) dX11_sayable_89 (by decide) ?_
        refine ww_lv (lv2 := [.ref m, .int (nI x), .int w, .int (nI (cnt (fun i => decide ((syQ f sz kf vf du).1 i ≤ x)) (k + 1))), .int (laI (fun i => decide ((syQ f sz kf vf du).1 i ≤ x)) (k + 1)), .int (nI (k + 1))]) (by first | (have c9 := hiff.mp c73; simp [cnt, laI, c9]; done) | (have c9 : ¬ (syQ f sz kf vf du).1 k ≤ x := fun q => (by first | exact c73 (hiff.mpr q) | exact absurd (hiff.mpr q) (Int32.not_le.mpr c73)); simp [cnt, laI, c9]; done)) ?_
        exact ih (k + 1) (by omega) hex
      · refine ww_goto (tgt := 86) dX11_sayable_76 (by decide) ?_
        refine ww_incN (c := 1) (lv2 := [.ref m, .int (nI x), .int w, .int (nI (cnt (fun i => decide ((syQ f sz kf vf du).1 i ≤ x)) k)), .int (laI (fun i => decide ((syQ f sz kf vf du).1 i ≤ x)) k), .int (nI (k + 1))]) dX11_sayable_86 rfl rfl rfl (by decide) rfl ?_
        refine ww_goto (tgt := 52) dX11_sayable_89 (by decide) ?_
        refine ww_lv (lv2 := [.ref m, .int (nI x), .int w, .int (nI (cnt (fun i => decide ((syQ f sz kf vf du).1 i ≤ x)) (k + 1))), .int (laI (fun i => decide ((syQ f sz kf vf du).1 i ≤ x)) (k + 1)), .int (nI (k + 1))]) (by first | (have c9 := hiff.mp c73; simp [cnt, laI, c9]; done) | (have c9 : ¬ (syQ f sz kf vf du).1 k ≤ x := fun q => (by first | exact c73 (hiff.mpr q) | exact absurd (hiff.mpr q) (Int32.not_le.mpr c73)); simp [cnt, laI, c9]; done)) ?_
        exact ih (k + 1) (by omega) hex
set_option maxHeartbeats 4000000 in
set_option maxRecDepth 100000 in
theorem c_M_sayable0 {l : Launch} {Z : EE} (hst : l.stackTraces = false) {h : PH} {m : Nat} (hM : ModS h m) {f : Nat → Int32} (hf : hp_I h (m + 14) = f) {g : Nat → Int32} (hs : hp_I h (m + 15) = g) {sz : Nat} {kf vf : Nat → Int32} (hQ : LawM h m sz kf vf) (hok : LawOK kf vf sz) {du : Nat} (hdu : hp_F h m 16 = .int (nI du)) (hd : du ≤ 20) (x : Nat) (hx : x ≤ 99) : CC l Z m_X11_sayable 6 0 0 [.ref m, .int (nI x), .int (nI 0)] h (MOk (nI (cnt (fun i => decide ((syQ f sz kf vf du).1 i ≤ x)) 61)) m h) := by
  refine ee_entry hst (by decide +kernel) rfl rfl (by simp [Value.category]) (Nat.le_of_ble_eq_true rfl) ?_
  refine ww_lv (lv2 := [.ref m, .int (nI x), .int (nI 0), UU, UU, UU]) rfl ?_
  refine ww_aload_n dX11_sayable_0 rfl rfl ?_
  refine ww_iconst (v := nI 0) dX11_sayable_1 (by decide) ?_
  refine ww_pfI tyX11 0 dX11_sayable_2 hM.K0 rfl (by decide) inX11 tyX11_ok nmX11 wg_1240 rfl rfl ?_
  refine ww_aload_n dX11_sayable_5 rfl rfl ?_
  refine ww_iload_n dX11_sayable_6 rfl rfl ?_
  refine ww_iconst (v := nI 0) dX11_sayable_7 (by decide) ?_
  refine ww_bipush (v := nI 99) dX11_sayable_8 (by decide) ?_
  refine ww_cSr (M := m_X11_sayable) (pc := 10) (v := .int (nI 1)) (h1 := hp_sF h m 0 (.int (nI 0))) (st := [.ref m]) (d := 6) (bc := 0) (bs := 0) (c_M_within_t hst (nI x) (nI 0) (nI 99) (nI_le (by omega) (by omega)) (nI_le (by omega) (by omega)) _) vv_X11_within dX11_sayable_10 wg_1601 rfl rfl rfl (Nat.le_of_ble_eq_true rfl) (Nat.le_of_ble_eq_true rfl) (Nat.le_of_ble_eq_true rfl) (Nat.le_of_ble_eq_true rfl) ?_
  refine ww_if_eqN (tgt := 29) dX11_sayable_13 (by decide) (by omega) (fun c13 => ?_) (fun c13 => ?_)
  · exact absurd c13 (by decide)
  · refine ww_iload_n dX11_sayable_16 rfl rfl ?_
    refine ww_iconst (v := nI 0) dX11_sayable_17 (by decide) ?_
    refine ww_iconst (v := nI 1) dX11_sayable_18 (by decide) ?_
    refine ww_cSr (M := m_X11_sayable) (pc := 19) (v := .int (nI 1)) (h1 := hp_sF h m 0 (.int (nI 0))) (st := [.ref m]) (d := 6) (bc := 0) (bs := 0) (c_M_within_t hst (nI 0) (nI 0) (nI 1) (by decide) (by decide) _) vv_X11_within dX11_sayable_19 wg_1601 rfl rfl rfl (Nat.le_of_ble_eq_true rfl) (Nat.le_of_ble_eq_true rfl) (Nat.le_of_ble_eq_true rfl) (Nat.le_of_ble_eq_true rfl) ?_
    refine ww_if_eqN (tgt := 29) dX11_sayable_22 (by decide) (by omega) (fun c22 => ?_) (fun c22 => ?_)
    · exact absurd c22 (by decide)
    · refine ww_iconst (v := nI 1) dX11_sayable_25 (by decide) ?_
      refine ww_goto (tgt := 30) dX11_sayable_26 (by decide) ?_
      refine ww_iconst (v := nI 1) dX11_sayable_30 (by decide) ?_
      refine ww_iconst (v := nI 1) dX11_sayable_31 (by decide) ?_
      refine ww_cVr (M := m_X11_sayable) (pc := 32) (v := .int (nI 1)) (h1 := hp_sF h m 0 (.int (nI 0))) (st := []) (d := 6) (bc := 0) (bs := 0) (c_M_may_t hst (h := hp_sF h m 0 (.int (nI 0))) (ModS.sF hM (by decide)) (hp_F_eq _ _ _ _) (nI 1) (nI 1)) vv_X11_may dX11_sayable_32 wg_1413 hM.K0 rfl rfl rfl rfl (Nat.le_of_ble_eq_true rfl) (Nat.le_of_ble_eq_true rfl) (Nat.le_of_ble_eq_true rfl) (Nat.le_of_ble_eq_true rfl) ?_
      refine ww_if_neN (tgt := 40) dX11_sayable_35 (by decide) (by omega) (fun c35 => ?_) (fun c35 => ?_)
      · refine ww_aload_n dX11_sayable_40 rfl rfl ?_
        have hQ0 : LawM (hp_sF h m 0 (.int (nI 0))) m sz kf vf := hQ.same (Same.rf.sF (SY0 m)) (SX_no (by decide)) (SX_no (by decide)) (SY_no (by decide))
        refine ww_cVq0 (M := m_X11_sayable) (pc := 41) (st := []) (d := 6) (bc := 0) (bs := 0) (c_M_laySaid hst (h := hp_sF h m 0 (.int (nI 0))) (ModS.sF hM (by decide)) hf hs hQ0 hok (hp_F_nj (by decide) hdu) hd (hp_F_eq _ _ _ _)) vv_X11_laySaid dX11_sayable_41 wg_1636 hM.K0 rfl rfl rfl rfl (Nat.le_of_ble_eq_true rfl) (Nat.le_of_ble_eq_true rfl) (Nat.le_of_ble_eq_true rfl) (Nat.le_of_ble_eq_true rfl) (fun hq1 qq1 => ?_)
        have hI1 : MI m sz kf vf (cpF f g 190) h hq1 := ⟨qq1.1.1, qq1.1.2.1, qq1.1.2.2.1, (Same.rf.sF (SY0 m)).tr qq1.1.2.2.2.1, qq1.1.2.2.2.2⟩
        have hr1 := qq1.2.2
        have hdu1 := qq1.2.1
        generalize hge : cpF f g 190 = g9 at hI1
        have hg9 : ∀ i, i < 190 → g9 i = f i := fun i hi => by rw [← hge]; exact cpF_in hi
        refine ww_iconst (v := nI 0) dX11_sayable_44 (by decide) ?_
        refine ww_sti_n (lv2 := [.ref m, .int (nI x), .int (nI 0), .int (nI 0), UU, UU]) dX11_sayable_45 rfl rfl (by decide) rfl ?_
        refine ww_iconst (v := -1) dX11_sayable_46 (by decide) ?_
        refine ww_sti (lv2 := [.ref m, .int (nI x), .int (nI 0), .int (nI 0), .int (-1), UU]) dX11_sayable_47 rfl (by decide) rfl ?_
        refine ww_iconst (v := nI 0) dX11_sayable_49 (by decide) ?_
        refine ww_sti (lv2 := [.ref m, .int (nI x), .int (nI 0), .int (nI 0), .int (-1), .int (nI 0)]) dX11_sayable_50 rfl (by decide) rfl ?_
        refine ww_lv (lv2 := [.ref m, .int (nI x), .int (nI 0), .int (nI (cnt (fun i => decide ((syQ f sz kf vf du).1 i ≤ x)) 0)), .int (laI (fun i => decide ((syQ f sz kf vf du).1 i ≤ x)) 0), .int (nI 0)]) rfl ?_
        refine l_M_sayable hst hI1.1 hr1 x hx (nI 0) 61 0 rfl ?_
        refine ww_iload_n dX11_sayable_92 rfl rfl ?_
        refine ww_if_neN (tgt := 100) dX11_sayable_93 (by decide) (by omega) (fun c93 => ?_) (fun c93 => ?_)
        · exfalso; omega
        · refine ww_iload_n dX11_sayable_96 rfl rfl ?_
          refine ww_goto (tgt := 102) dX11_sayable_97 (by decide) ?_
          exact ww_iret dX11_sayable_102 rfl ⟨rfl, hI1.2.2.2.1, hI1.2.2.2.2⟩
      · exact absurd c35 (by decide)
set_option maxHeartbeats 4000000 in
set_option maxRecDepth 100000 in
theorem c_M_sayable1 {l : Launch} {Z : EE} (hst : l.stackTraces = false) {h : PH} {m : Nat} (hM : ModS h m) {f : Nat → Int32} (hf : hp_I h (m + 14) = f) {g : Nat → Int32} (hs : hp_I h (m + 15) = g) {sz : Nat} {kf vf : Nat → Int32} (hQ : LawM h m sz kf vf) (hok : LawOK kf vf sz) {du : Nat} (hdu : hp_F h m 16 = .int (nI du)) (hd : du ≤ 20) (x : Nat) (hx : x ≤ 99) : CC l Z m_X11_sayable 6 0 0 [.ref m, .int (nI x), .int (nI 1)] h (MOk (laI (fun i => decide ((syQ f sz kf vf du).1 i ≤ x)) 61) m h) := by
  refine ee_entry hst (by decide +kernel) rfl rfl (by simp [Value.category]) (Nat.le_of_ble_eq_true rfl) ?_
  refine ww_lv (lv2 := [.ref m, .int (nI x), .int (nI 1), UU, UU, UU]) rfl ?_
  refine ww_aload_n dX11_sayable_0 rfl rfl ?_
  refine ww_iconst (v := nI 0) dX11_sayable_1 (by decide) ?_
  refine ww_pfI tyX11 0 dX11_sayable_2 hM.K0 rfl (by decide) inX11 tyX11_ok nmX11 wg_1240 rfl rfl ?_
  refine ww_aload_n dX11_sayable_5 rfl rfl ?_
  refine ww_iload_n dX11_sayable_6 rfl rfl ?_
  refine ww_iconst (v := nI 0) dX11_sayable_7 (by decide) ?_
  refine ww_bipush (v := nI 99) dX11_sayable_8 (by decide) ?_
  refine ww_cSr (M := m_X11_sayable) (pc := 10) (v := .int (nI 1)) (h1 := hp_sF h m 0 (.int (nI 0))) (st := [.ref m]) (d := 6) (bc := 0) (bs := 0) (c_M_within_t hst (nI x) (nI 0) (nI 99) (nI_le (by omega) (by omega)) (nI_le (by omega) (by omega)) _) vv_X11_within dX11_sayable_10 wg_1601 rfl rfl rfl (Nat.le_of_ble_eq_true rfl) (Nat.le_of_ble_eq_true rfl) (Nat.le_of_ble_eq_true rfl) (Nat.le_of_ble_eq_true rfl) ?_
  refine ww_if_eqN (tgt := 29) dX11_sayable_13 (by decide) (by omega) (fun c13 => ?_) (fun c13 => ?_)
  · exact absurd c13 (by decide)
  · refine ww_iload_n dX11_sayable_16 rfl rfl ?_
    refine ww_iconst (v := nI 0) dX11_sayable_17 (by decide) ?_
    refine ww_iconst (v := nI 1) dX11_sayable_18 (by decide) ?_
    refine ww_cSr (M := m_X11_sayable) (pc := 19) (v := .int (nI 1)) (h1 := hp_sF h m 0 (.int (nI 0))) (st := [.ref m]) (d := 6) (bc := 0) (bs := 0) (c_M_within_t hst (nI 1) (nI 0) (nI 1) (by decide) (by decide) _) vv_X11_within dX11_sayable_19 wg_1601 rfl rfl rfl (Nat.le_of_ble_eq_true rfl) (Nat.le_of_ble_eq_true rfl) (Nat.le_of_ble_eq_true rfl) (Nat.le_of_ble_eq_true rfl) ?_
    refine ww_if_eqN (tgt := 29) dX11_sayable_22 (by decide) (by omega) (fun c22 => ?_) (fun c22 => ?_)
    · exact absurd c22 (by decide)
    · refine ww_iconst (v := nI 1) dX11_sayable_25 (by decide) ?_
      refine ww_goto (tgt := 30) dX11_sayable_26 (by decide) ?_
      refine ww_iconst (v := nI 1) dX11_sayable_30 (by decide) ?_
      refine ww_iconst (v := nI 1) dX11_sayable_31 (by decide) ?_
      refine ww_cVr (M := m_X11_sayable) (pc := 32) (v := .int (nI 1)) (h1 := hp_sF h m 0 (.int (nI 0))) (st := []) (d := 6) (bc := 0) (bs := 0) (c_M_may_t hst (h := hp_sF h m 0 (.int (nI 0))) (ModS.sF hM (by decide)) (hp_F_eq _ _ _ _) (nI 1) (nI 1)) vv_X11_may dX11_sayable_32 wg_1413 hM.K0 rfl rfl rfl rfl (Nat.le_of_ble_eq_true rfl) (Nat.le_of_ble_eq_true rfl) (Nat.le_of_ble_eq_true rfl) (Nat.le_of_ble_eq_true rfl) ?_
      refine ww_if_neN (tgt := 40) dX11_sayable_35 (by decide) (by omega) (fun c35 => ?_) (fun c35 => ?_)
      · refine ww_aload_n dX11_sayable_40 rfl rfl ?_
        have hQ0 : LawM (hp_sF h m 0 (.int (nI 0))) m sz kf vf := hQ.same (Same.rf.sF (SY0 m)) (SX_no (by decide)) (SX_no (by decide)) (SY_no (by decide))
        refine ww_cVq0 (M := m_X11_sayable) (pc := 41) (st := []) (d := 6) (bc := 0) (bs := 0) (c_M_laySaid hst (h := hp_sF h m 0 (.int (nI 0))) (ModS.sF hM (by decide)) hf hs hQ0 hok (hp_F_nj (by decide) hdu) hd (hp_F_eq _ _ _ _)) vv_X11_laySaid dX11_sayable_41 wg_1636 hM.K0 rfl rfl rfl rfl (Nat.le_of_ble_eq_true rfl) (Nat.le_of_ble_eq_true rfl) (Nat.le_of_ble_eq_true rfl) (Nat.le_of_ble_eq_true rfl) (fun hq1 qq1 => ?_)
        have hI1 : MI m sz kf vf (cpF f g 190) h hq1 := ⟨qq1.1.1, qq1.1.2.1, qq1.1.2.2.1, (Same.rf.sF (SY0 m)).tr qq1.1.2.2.2.1, qq1.1.2.2.2.2⟩
        have hr1 := qq1.2.2
        have hdu1 := qq1.2.1
        generalize hge : cpF f g 190 = g9 at hI1
        have hg9 : ∀ i, i < 190 → g9 i = f i := fun i hi => by rw [← hge]; exact cpF_in hi
        refine ww_iconst (v := nI 0) dX11_sayable_44 (by decide) ?_
        refine ww_sti_n (lv2 := [.ref m, .int (nI x), .int (nI 1), .int (nI 0), UU, UU]) dX11_sayable_45 rfl rfl (by decide) rfl ?_
        refine ww_iconst (v := -1) dX11_sayable_46 (by decide) ?_
        refine ww_sti (lv2 := [.ref m, .int (nI x), .int (nI 1), .int (nI 0), .int (-1), UU]) dX11_sayable_47 rfl (by decide) rfl ?_
        refine ww_iconst (v := nI 0) dX11_sayable_49 (by decide) ?_
        refine ww_sti (lv2 := [.ref m, .int (nI x), .int (nI 1), .int (nI 0), .int (-1), .int (nI 0)]) dX11_sayable_50 rfl (by decide) rfl ?_
        refine ww_lv (lv2 := [.ref m, .int (nI x), .int (nI 1), .int (nI (cnt (fun i => decide ((syQ f sz kf vf du).1 i ≤ x)) 0)), .int (laI (fun i => decide ((syQ f sz kf vf du).1 i ≤ x)) 0), .int (nI 0)]) rfl ?_
        refine l_M_sayable hst hI1.1 hr1 x hx (nI 1) 61 0 rfl ?_
        refine ww_iload_n dX11_sayable_92 rfl rfl ?_
        refine ww_if_neN (tgt := 100) dX11_sayable_93 (by decide) (by omega) (fun c93 => ?_) (fun c93 => ?_)
        · refine ww_iload dX11_sayable_100 rfl ?_
          exact ww_iret dX11_sayable_102 rfl ⟨rfl, hI1.2.2.2.1, hI1.2.2.2.2⟩
        · exfalso; omega
      · exact absurd c35 (by decide)
set_option maxHeartbeats 4000000 in
set_option maxRecDepth 100000 in
theorem c_M_sayable_no0 {l : Launch} {Z : EE} (hst : l.stackTraces = false) {h : PH} {m : Nat} (hM : ModS h m) {f : Nat → Int32} (hf : hp_I h (m + 14) = f) {g : Nat → Int32} (hs : hp_I h (m + 15) = g) {sz : Nat} {kf vf : Nat → Int32} (hQ : LawM h m sz kf vf) (hok : LawOK kf vf sz) (x : Int32) (w : Int32) (hout : outR 0 99 x) : CC l Z m_X11_sayable 6 0 0 [.ref m, .int x, .int w] h (MNo 1 1 m h) := by
  refine ee_entry hst (by decide +kernel) rfl rfl (by simp [Value.category]) (Nat.le_of_ble_eq_true rfl) ?_
  refine ww_lv (lv2 := [.ref m, .int x, .int w, UU, UU, UU]) rfl ?_
  refine ww_aload_n dX11_sayable_0 rfl rfl ?_
  refine ww_iconst (v := nI 0) dX11_sayable_1 (by decide) ?_
  refine ww_pfI tyX11 0 dX11_sayable_2 hM.K0 rfl (by decide) inX11 tyX11_ok nmX11 wg_1240 rfl rfl ?_
  refine ww_aload_n dX11_sayable_5 rfl rfl ?_
  refine ww_iload_n dX11_sayable_6 rfl rfl ?_
  refine ww_iconst (v := nI 0) dX11_sayable_7 (by decide) ?_
  refine ww_bipush (v := nI 99) dX11_sayable_8 (by decide) ?_
  refine ww_cSr (M := m_X11_sayable) (pc := 10) (v := .int (nI 0)) (h1 := hp_sF h m 0 (.int (nI 0))) (st := [.ref m]) (d := 6) (bc := 0) (bs := 0) (c_M_within_f hst x (nI 0) (nI 99) hout _) vv_X11_within dX11_sayable_10 wg_1601 rfl rfl rfl (Nat.le_of_ble_eq_true rfl) (Nat.le_of_ble_eq_true rfl) (Nat.le_of_ble_eq_true rfl) (Nat.le_of_ble_eq_true rfl) ?_
  refine ww_if_eqN (tgt := 29) dX11_sayable_13 (by decide) (by omega) (fun c13 => ?_) (fun c13 => ?_)
  · refine ww_iconst (v := nI 0) dX11_sayable_29 (by decide) ?_
    refine ww_iconst (v := nI 1) dX11_sayable_30 (by decide) ?_
    refine ww_iconst (v := nI 1) dX11_sayable_31 (by decide) ?_
    refine ww_cVr (M := m_X11_sayable) (pc := 32) (v := .int (nI 0)) (h1 := hp_sI (hp_sF (hp_sF h m 0 (.int (nI 0))) m 0 (.int (nI 1))) (m + 1) (upd (hp_I (hp_sF h m 0 (.int (nI 0))) (m + 1)) 1 (hp_I (hp_sF h m 0 (.int (nI 0))) (m + 1) 1 + nI 1))) (st := []) (d := 6) (bc := 0) (bs := 0) (c_M_may_f hst (h := hp_sF h m 0 (.int (nI 0))) (ModS.sF hM (by decide)) (hp_F_eq _ _ _ _) 1 1 (by decide) (by decide) (by decide)) vv_X11_may dX11_sayable_32 wg_1413 hM.K0 rfl rfl rfl rfl (Nat.le_of_ble_eq_true rfl) (Nat.le_of_ble_eq_true rfl) (Nat.le_of_ble_eq_true rfl) (Nat.le_of_ble_eq_true rfl) ?_
    refine ww_if_neN (tgt := 40) dX11_sayable_35 (by decide) (by omega) (fun c35 => ?_) (fun c35 => ?_)
    · exact absurd c35 (by decide)
    · refine ww_iconst (v := nI 0) dX11_sayable_38 (by decide) ?_
      exact ww_iret dX11_sayable_39 rfl ⟨rfl, (((Same.rf.sF (SY0 m)).sF (SY0 m)).sI (Or.inr rfl)), (hp_F_sI (hp_F_eq _ _ _ _)), by rw [hp_I_eq]; rfl⟩
  · exact absurd c13 (by decide)
set_option maxHeartbeats 4000000 in
set_option maxRecDepth 100000 in
theorem c_M_sayable_no1 {l : Launch} {Z : EE} (hst : l.stackTraces = false) {h : PH} {m : Nat} (hM : ModS h m) {f : Nat → Int32} (hf : hp_I h (m + 14) = f) {g : Nat → Int32} (hs : hp_I h (m + 15) = g) {sz : Nat} {kf vf : Nat → Int32} (hQ : LawM h m sz kf vf) (hok : LawOK kf vf sz) (x : Nat) (lx : 0 ≤ x) (hx : x ≤ 99) (w : Int32) (hout : outR 0 1 w) : CC l Z m_X11_sayable 6 0 0 [.ref m, .int (nI x), .int w] h (MNo 1 1 m h) := by
  refine ee_entry hst (by decide +kernel) rfl rfl (by simp [Value.category]) (Nat.le_of_ble_eq_true rfl) ?_
  refine ww_lv (lv2 := [.ref m, .int (nI x), .int w, UU, UU, UU]) rfl ?_
  refine ww_aload_n dX11_sayable_0 rfl rfl ?_
  refine ww_iconst (v := nI 0) dX11_sayable_1 (by decide) ?_
  refine ww_pfI tyX11 0 dX11_sayable_2 hM.K0 rfl (by decide) inX11 tyX11_ok nmX11 wg_1240 rfl rfl ?_
  refine ww_aload_n dX11_sayable_5 rfl rfl ?_
  refine ww_iload_n dX11_sayable_6 rfl rfl ?_
  refine ww_iconst (v := nI 0) dX11_sayable_7 (by decide) ?_
  refine ww_bipush (v := nI 99) dX11_sayable_8 (by decide) ?_
  refine ww_cSr (M := m_X11_sayable) (pc := 10) (v := .int (nI 1)) (h1 := hp_sF h m 0 (.int (nI 0))) (st := [.ref m]) (d := 6) (bc := 0) (bs := 0) (c_M_within_t hst (nI x) (nI 0) (nI 99) (nI_le (by omega) (by omega)) (nI_le (by omega) (by omega)) _) vv_X11_within dX11_sayable_10 wg_1601 rfl rfl rfl (Nat.le_of_ble_eq_true rfl) (Nat.le_of_ble_eq_true rfl) (Nat.le_of_ble_eq_true rfl) (Nat.le_of_ble_eq_true rfl) ?_
  refine ww_if_eqN (tgt := 29) dX11_sayable_13 (by decide) (by omega) (fun c13 => ?_) (fun c13 => ?_)
  · exact absurd c13 (by decide)
  · refine ww_iload_n dX11_sayable_16 rfl rfl ?_
    refine ww_iconst (v := nI 0) dX11_sayable_17 (by decide) ?_
    refine ww_iconst (v := nI 1) dX11_sayable_18 (by decide) ?_
    refine ww_cSr (M := m_X11_sayable) (pc := 19) (v := .int (nI 0)) (h1 := hp_sF h m 0 (.int (nI 0))) (st := [.ref m]) (d := 6) (bc := 0) (bs := 0) (c_M_within_f hst w (nI 0) (nI 1) hout _) vv_X11_within dX11_sayable_19 wg_1601 rfl rfl rfl (Nat.le_of_ble_eq_true rfl) (Nat.le_of_ble_eq_true rfl) (Nat.le_of_ble_eq_true rfl) (Nat.le_of_ble_eq_true rfl) ?_
    refine ww_if_eqN (tgt := 29) dX11_sayable_22 (by decide) (by omega) (fun c22 => ?_) (fun c22 => ?_)
    · refine ww_iconst (v := nI 0) dX11_sayable_29 (by decide) ?_
      refine ww_iconst (v := nI 1) dX11_sayable_30 (by decide) ?_
      refine ww_iconst (v := nI 1) dX11_sayable_31 (by decide) ?_
      refine ww_cVr (M := m_X11_sayable) (pc := 32) (v := .int (nI 0)) (h1 := hp_sI (hp_sF (hp_sF h m 0 (.int (nI 0))) m 0 (.int (nI 1))) (m + 1) (upd (hp_I (hp_sF h m 0 (.int (nI 0))) (m + 1)) 1 (hp_I (hp_sF h m 0 (.int (nI 0))) (m + 1) 1 + nI 1))) (st := []) (d := 6) (bc := 0) (bs := 0) (c_M_may_f hst (h := hp_sF h m 0 (.int (nI 0))) (ModS.sF hM (by decide)) (hp_F_eq _ _ _ _) 1 1 (by decide) (by decide) (by decide)) vv_X11_may dX11_sayable_32 wg_1413 hM.K0 rfl rfl rfl rfl (Nat.le_of_ble_eq_true rfl) (Nat.le_of_ble_eq_true rfl) (Nat.le_of_ble_eq_true rfl) (Nat.le_of_ble_eq_true rfl) ?_
      refine ww_if_neN (tgt := 40) dX11_sayable_35 (by decide) (by omega) (fun c35 => ?_) (fun c35 => ?_)
      · exact absurd c35 (by decide)
      · refine ww_iconst (v := nI 0) dX11_sayable_38 (by decide) ?_
        exact ww_iret dX11_sayable_39 rfl ⟨rfl, (((Same.rf.sF (SY0 m)).sF (SY0 m)).sI (Or.inr rfl)), (hp_F_sI (hp_F_eq _ _ _ _)), by rw [hp_I_eq]; rfl⟩
    · exact absurd c22 (by decide)
set_option maxHeartbeats 4000000 in
set_option maxRecDepth 100000 in
theorem l_M_common0 {l : Launch} {Z : EE} (hst : l.stackTraces = false) {h : PH} {m : Nat} {f g9 : Nat → Int32} (hg9 : ∀ i, i < 190 → g9 i = f i) {sz : Nat} {kf vf : Nat → Int32} (hok : LawOK kf vf sz) {Post : Res → PH → Prop} (hex : ∀ h3, MI m sz kf vf g9 h h3 → WW l Z m_X11_common 6 0 0 79 [.ref m, .int (nI 0), .int (nI (cnt (fun i => (syO f sz kf vf) i == 0) 61)), .int (nI 61)] [] h3 Post) : ∀ (j k : Nat) (h2 : PH), k + j = 61 → MI m sz kf vf g9 h h2 → WW l Z m_X11_common 6 0 0 30 [.ref m, .int (nI 0), .int (nI (cnt (fun i => (syO f sz kf vf) i == 0) k)), .int (nI k)] [] h2 Post := by
  intro j
  induction j with
  | zero =>
    intro k h2 hk hi
    have hk9 : k = 61 := by omega
    subst hk9
    refine ww_iload_n dX11_common_30 rfl rfl ?_
    refine ww_bipush (v := nI 61) dX11_common_31 (by decide) ?_
    refine ww_icmp_geN (tgt := 79) dX11_common_33 (by decide) (by omega) (by omega) (fun c33 => ?_) (fun c33 => ?_)
    · exact hex _ hi
    · exfalso; omega
  | succ j ih =>
    intro k h2 hk hi
    have hcl := cnt_le (fun i => (syO f sz kf vf) i == 0) k
    have hsy := syO_le f sz kf vf k
    refine ww_iload_n dX11_common_30 rfl rfl ?_
    refine ww_bipush (v := nI 61) dX11_common_31 (by decide) ?_
    refine ww_icmp_geN (tgt := 79) dX11_common_33 (by decide) (by omega) (by omega) (fun c33 => ?_) (fun c33 => ?_)
    · exfalso; omega
    · refine ww_iload_n dX11_common_36 rfl rfl ?_
      refine ww_iload_n dX11_common_37 rfl rfl ?_
      refine ww_if_neN (tgt := 53) dX11_common_38 (by decide) (by omega) (fun c38 => ?_) (fun c38 => ?_)
      · exfalso; omega
      · refine ww_aload_n dX11_common_41 rfl rfl ?_
        refine ww_iload_n dX11_common_42 rfl rfl ?_
        refine ww_iconst (v := nI 1) dX11_common_43 (by decide) ?_
        refine ww_cVq (M := m_X11_common) (pc := 44) (v := .int (fareT g9 sz kf vf k 1)) (st := [.int (nI (cnt (fun i => (syO f sz kf vf) i == 0) k))]) (d := 6) (bc := 0) (bs := 0) (c_M_fareT hst hok hi k (by omega) 1 (by omega)) vv_X11_fareBy dX11_common_44 wg_1555 hi.1.K0 rfl rfl rfl rfl (Nat.le_of_ble_eq_true rfl) (Nat.le_of_ble_eq_true rfl) (Nat.le_of_ble_eq_true rfl) (Nat.le_of_ble_eq_true rfl) (fun hq1 qq1 => ?_)
        refine ww_sk (st2 := [.int (nI (syO f sz kf vf k)), .int (nI (cnt (fun i => (syO f sz kf vf) i == 0) k))]) (by rw [fareT_sy hg9 k]) ?_
        refine ww_if_neN (tgt := 70) dX11_common_47 (by decide) (by omega) (fun c47 => ?_) (fun c47 => ?_)
        · refine ww_iconst (v := nI 0) dX11_common_70 (by decide) ?_
          refine ww_iaddN dX11_common_71 ?_
          refine ww_sti_n (lv2 := [.ref m, .int (nI 0), .int (nI ((cnt (fun i => (syO f sz kf vf) i == 0) k) + 0)), .int (nI k)]) dX11_common_72 rfl rfl (by decide) rfl ?_
          refine ww_incN (c := 1) (lv2 := [.ref m, .int (nI 0), .int (nI ((cnt (fun i => (syO f sz kf vf) i == 0) k) + 0)), .int (nI (k + 1))]) dX11_common_73 rfl rfl rfl (by decide) rfl ?_
          refine ww_goto (tgt := 30) dX11_common_76 (by decide) ?_
          refine ww_lv (lv2 := [.ref m, .int (nI 0), .int (nI (cnt (fun i => (syO f sz kf vf) i == 0) (k + 1))), .int (nI (k + 1))]) (by first | (simp [cnt, c47]; done) | simp [cnt, Nat.ne_of_gt c47]) ?_
          exact ih (k + 1) _ (by omega) qq1
        · refine ww_goto (tgt := 66) dX11_common_50 (by decide) ?_
          refine ww_iconst (v := nI 1) dX11_common_66 (by decide) ?_
          refine ww_goto (tgt := 71) dX11_common_67 (by decide) ?_
          refine ww_iaddN dX11_common_71 ?_
          refine ww_sti_n (lv2 := [.ref m, .int (nI 0), .int (nI ((cnt (fun i => (syO f sz kf vf) i == 0) k) + 1)), .int (nI k)]) dX11_common_72 rfl rfl (by decide) rfl ?_
          refine ww_incN (c := 1) (lv2 := [.ref m, .int (nI 0), .int (nI ((cnt (fun i => (syO f sz kf vf) i == 0) k) + 1)), .int (nI (k + 1))]) dX11_common_73 rfl rfl rfl (by decide) rfl ?_
          refine ww_goto (tgt := 30) dX11_common_76 (by decide) ?_
          refine ww_lv (lv2 := [.ref m, .int (nI 0), .int (nI (cnt (fun i => (syO f sz kf vf) i == 0) (k + 1))), .int (nI (k + 1))]) (by first | (simp [cnt, c47]; done) | simp [cnt, Nat.ne_of_gt c47]) ?_
          exact ih (k + 1) _ (by omega) qq1
set_option maxHeartbeats 4000000 in
set_option maxRecDepth 100000 in
theorem c_M_common0 {l : Launch} {Z : EE} (hst : l.stackTraces = false) {h : PH} {m : Nat} (hM : ModS h m) {f : Nat → Int32} (hf : hp_I h (m + 14) = f) {g : Nat → Int32} (hs : hp_I h (m + 15) = g) {sz : Nat} {kf vf : Nat → Int32} (hQ : LawM h m sz kf vf) (hok : LawOK kf vf sz) {du : Nat} (hdu : hp_F h m 16 = .int (nI du)) (hd : du ≤ 20) : CC l Z m_X11_common 6 0 0 [.ref m, .int (nI 0)] h (MOk (nI (cnt (fun i => (syO f sz kf vf) i == 0) 61)) m h) := by
  refine ee_entry hst (by decide +kernel) rfl rfl (by simp [Value.category]) (Nat.le_of_ble_eq_true rfl) ?_
  refine ww_lv (lv2 := [.ref m, .int (nI 0), UU, UU]) rfl ?_
  refine ww_aload_n dX11_common_0 rfl rfl ?_
  refine ww_iconst (v := nI 0) dX11_common_1 (by decide) ?_
  refine ww_pfI tyX11 0 dX11_common_2 hM.K0 rfl (by decide) inX11 tyX11_ok nmX11 wg_1240 rfl rfl ?_
  refine ww_aload_n dX11_common_5 rfl rfl ?_
  refine ww_iload_n dX11_common_6 rfl rfl ?_
  refine ww_iconst (v := nI 0) dX11_common_7 (by decide) ?_
  refine ww_iconst (v := nI 1) dX11_common_8 (by decide) ?_
  refine ww_cSr (M := m_X11_common) (pc := 9) (v := .int (nI 1)) (h1 := hp_sF h m 0 (.int (nI 0))) (st := [.ref m]) (d := 6) (bc := 0) (bs := 0) (c_M_within_t hst (nI 0) (nI 0) (nI 1) (by decide) (by decide) _) vv_X11_within dX11_common_9 wg_1601 rfl rfl rfl (Nat.le_of_ble_eq_true rfl) (Nat.le_of_ble_eq_true rfl) (Nat.le_of_ble_eq_true rfl) (Nat.le_of_ble_eq_true rfl) ?_
  refine ww_iconst (v := nI 1) dX11_common_12 (by decide) ?_
  refine ww_iconst (v := nI 1) dX11_common_13 (by decide) ?_
  refine ww_cVr (M := m_X11_common) (pc := 14) (v := .int (nI 1)) (h1 := hp_sF h m 0 (.int (nI 0))) (st := []) (d := 6) (bc := 0) (bs := 0) (c_M_may_t hst (h := hp_sF h m 0 (.int (nI 0))) (ModS.sF hM (by decide)) (hp_F_eq _ _ _ _) (nI 1) (nI 1)) vv_X11_may dX11_common_14 wg_1413 hM.K0 rfl rfl rfl rfl (Nat.le_of_ble_eq_true rfl) (Nat.le_of_ble_eq_true rfl) (Nat.le_of_ble_eq_true rfl) (Nat.le_of_ble_eq_true rfl) ?_
  refine ww_if_neN (tgt := 22) dX11_common_17 (by decide) (by omega) (fun c17 => ?_) (fun c17 => ?_)
  · refine ww_aload_n dX11_common_22 rfl rfl ?_
    have hQ0 : LawM (hp_sF h m 0 (.int (nI 0))) m sz kf vf := hQ.same (Same.rf.sF (SY0 m)) (SX_no (by decide)) (SX_no (by decide)) (SY_no (by decide))
    refine ww_cVq0 (M := m_X11_common) (pc := 23) (st := []) (d := 6) (bc := 0) (bs := 0) (c_M_laySaid hst (h := hp_sF h m 0 (.int (nI 0))) (ModS.sF hM (by decide)) hf hs hQ0 hok (hp_F_nj (by decide) hdu) hd (hp_F_eq _ _ _ _)) vv_X11_laySaid dX11_common_23 wg_1636 hM.K0 rfl rfl rfl rfl (Nat.le_of_ble_eq_true rfl) (Nat.le_of_ble_eq_true rfl) (Nat.le_of_ble_eq_true rfl) (Nat.le_of_ble_eq_true rfl) (fun hq1 qq1 => ?_)
    have hI1 : MI m sz kf vf (cpF f g 190) h hq1 := ⟨qq1.1.1, qq1.1.2.1, qq1.1.2.2.1, (Same.rf.sF (SY0 m)).tr qq1.1.2.2.2.1, qq1.1.2.2.2.2⟩
    have hr1 := qq1.2.2
    have hdu1 := qq1.2.1
    generalize hge : cpF f g 190 = g9 at hI1
    have hg9 : ∀ i, i < 190 → g9 i = f i := fun i hi => by rw [← hge]; exact cpF_in hi
    refine ww_iconst (v := nI 0) dX11_common_26 (by decide) ?_
    refine ww_sti_n (lv2 := [.ref m, .int (nI 0), .int (nI 0), UU]) dX11_common_27 rfl rfl (by decide) rfl ?_
    refine ww_iconst (v := nI 0) dX11_common_28 (by decide) ?_
    refine ww_sti_n (lv2 := [.ref m, .int (nI 0), .int (nI 0), .int (nI 0)]) dX11_common_29 rfl rfl (by decide) rfl ?_
    refine l_M_common0 hst hg9 hok (fun h3 hi3 => ?_) 61 0 _ rfl hI1
    refine ww_iload_n dX11_common_79 rfl rfl ?_
    exact ww_iret dX11_common_80 rfl ⟨rfl, hi3.2.2.2.1, hi3.2.2.2.2⟩
  · exact absurd c17 (by decide)
set_option maxHeartbeats 4000000 in
set_option maxRecDepth 100000 in
theorem l_M_common1 {l : Launch} {Z : EE} (hst : l.stackTraces = false) {h1 : PH} {m : Nat} {f : Nat → Int32} {sz : Nat} {kf vf : Nat → Int32} {du : Nat} (hM : ModS h1 m) (hr : ∀ i, i < 61 → hp_L h1 (m + 19) i = lI (syL f sz kf vf du i)) {Post : Res → PH → Prop} : ∀ (j k : Nat), k + j = 61 → WW l Z m_X11_common 6 0 0 79 [.ref m, .int (nI 1), .int (nI (cnt (fun i => ((syQ f sz kf vf du).1) i == 0) 61)), .int (nI 61)] [] h1 Post → WW l Z m_X11_common 6 0 0 30 [.ref m, .int (nI 1), .int (nI (cnt (fun i => ((syQ f sz kf vf du).1) i == 0) k)), .int (nI k)] [] h1 Post := by
  intro j
  induction j with
  | zero =>
    intro k hk hex
    refine ww_iload_n dX11_common_30 rfl rfl ?_
    refine ww_bipush (v := nI 61) dX11_common_31 (by decide) ?_
    refine ww_icmp_geN (tgt := 79) dX11_common_33 (by decide) (by omega) (by omega) (fun c33 => ?_) (fun c33 => ?_)
    · have hk9 : k = 61 := by omega
      subst hk9
      exact hex
    · exfalso; omega
  | succ j ih =>
    intro k hk hex
    have hcl := cnt_le (fun i => ((syQ f sz kf vf du).1) i == 0) k
    have hlt := syL_lt f sz kf vf du (show k ≤ 60 by omega)
    have hl0 := sy_l0 f sz kf vf du (show k ≤ 60 by omega)
    have hiff := lcmp_gE (a := syL f sz kf vf du k) (b := 1000000) (by omega) (by omega)
    refine ww_iload_n dX11_common_30 rfl rfl ?_
    refine ww_bipush (v := nI 61) dX11_common_31 (by decide) ?_
    refine ww_icmp_geN (tgt := 79) dX11_common_33 (by decide) (by omega) (by omega) (fun c33 => ?_) (fun c33 => ?_)
    · exfalso; omega
    · refine ww_iload_n dX11_common_36 rfl rfl ?_
      refine ww_iload_n dX11_common_37 rfl rfl ?_
      refine ww_if_neN (tgt := 53) dX11_common_38 (by decide) (by omega) (fun c38 => ?_) (fun c38 => ?_)
      · refine ww_aload_n dX11_common_53 rfl rfl ?_
        refine ww_get 39 dX11_common_54 hM.K0 rfl (by decide) inX11 wg_1279 hM.F19 ?_
        refine ww_iload_n dX11_common_57 rfl rfl ?_
        refine ww_laldF dX11_common_58 hM.K19 rfl (by omega) (by omega) ?_
        refine ww_sk (st2 := [.long (lI (syL f sz kf vf du k)), .int (nI (cnt (fun i => ((syQ f sz kf vf du).1) i == 0) k))]) (by rw [hr k (by omega)]) ?_
        refine ww_ldc2 (v := 1000000) dX11_common_59 wg_1640 ?_
        refine ww_lcmp dX11_common_62 ?_
        refine ww_sk (st2 := [.int (lg_cmp (lI (syL f sz kf vf du k)) (lI 1000000)), .int (nI (cnt (fun i => ((syQ f sz kf vf du).1) i == 0) k))]) (by rw [show (1000000 : Int64) = lI 1000000 from rfl]) ?_
        refine ww_if_ge (tgt := 70) dX11_common_63 (by decide) (fun c63 => ?_) (fun c63 => ?_)
        · refine ww_iconst (v := nI 0) dX11_common_70 (by decide) ?_
          refine ww_iaddN dX11_common_71 ?_
          refine ww_sti_n (lv2 := [.ref m, .int (nI 1), .int (nI ((cnt (fun i => ((syQ f sz kf vf du).1) i == 0) k) + 0)), .int (nI k)]) dX11_common_72 rfl rfl (by decide) rfl ?_
          refine ww_incN (c := 1) (lv2 := [.ref m, .int (nI 1), .int (nI ((cnt (fun i => ((syQ f sz kf vf du).1) i == 0) k) + 0)), .int (nI (k + 1))]) dX11_common_73 rfl rfl rfl (by decide) rfl ?_
          refine ww_goto (tgt := 30) dX11_common_76 (by decide) ?_
          refine ww_lv (lv2 := [.ref m, .int (nI 1), .int (nI (cnt (fun i => ((syQ f sz kf vf du).1) i == 0) (k + 1))), .int (nI (k + 1))]) (by first | (have c9 : ¬ (syQ f sz kf vf du).1 k = 0 := fun q => absurd (hl0.mpr q) (by have := hiff.mp c63; omega); simp [cnt, c9]; done) | (have c9 : (syQ f sz kf vf du).1 k = 0 := hl0.mp (by have q : ¬ 1000000 ≤ syL f sz kf vf du k := fun q => (by first | exact c63 (hiff.mpr q) | exact absurd (hiff.mpr q) (Int32.not_le.mpr c63)); omega); simp [cnt, c9]; done)) ?_
          exact ih (k + 1) (by omega) hex
        · refine ww_iconst (v := nI 1) dX11_common_66 (by decide) ?_
          refine ww_goto (tgt := 71) dX11_common_67 (by decide) ?_
          refine ww_iaddN dX11_common_71 ?_
          refine ww_sti_n (lv2 := [.ref m, .int (nI 1), .int (nI ((cnt (fun i => ((syQ f sz kf vf du).1) i == 0) k) + 1)), .int (nI k)]) dX11_common_72 rfl rfl (by decide) rfl ?_
          refine ww_incN (c := 1) (lv2 := [.ref m, .int (nI 1), .int (nI ((cnt (fun i => ((syQ f sz kf vf du).1) i == 0) k) + 1)), .int (nI (k + 1))]) dX11_common_73 rfl rfl rfl (by decide) rfl ?_
          refine ww_goto (tgt := 30) dX11_common_76 (by decide) ?_
          refine ww_lv (lv2 := [.ref m, .int (nI 1), .int (nI (cnt (fun i => ((syQ f sz kf vf du).1) i == 0) (k + 1))), .int (nI (k + 1))]) (by first | (have c9 : ¬ (syQ f sz kf vf du).1 k = 0 := fun q => absurd (hl0.mpr q) (by have := hiff.mp c63; omega); simp [cnt, c9]; done) | (have c9 : (syQ f sz kf vf du).1 k = 0 := hl0.mp (by have q : ¬ 1000000 ≤ syL f sz kf vf du k := fun q => (by first | exact c63 (hiff.mpr q) | exact absurd (hiff.mpr q) (Int32.not_le.mpr c63)); omega); simp [cnt, c9]; done)) ?_
          exact ih (k + 1) (by omega) hex
      · exfalso; omega
set_option maxHeartbeats 4000000 in
set_option maxRecDepth 100000 in
theorem c_M_common1 {l : Launch} {Z : EE} (hst : l.stackTraces = false) {h : PH} {m : Nat} (hM : ModS h m) {f : Nat → Int32} (hf : hp_I h (m + 14) = f) {g : Nat → Int32} (hs : hp_I h (m + 15) = g) {sz : Nat} {kf vf : Nat → Int32} (hQ : LawM h m sz kf vf) (hok : LawOK kf vf sz) {du : Nat} (hdu : hp_F h m 16 = .int (nI du)) (hd : du ≤ 20) : CC l Z m_X11_common 6 0 0 [.ref m, .int (nI 1)] h (MOk (nI (cnt (fun i => ((syQ f sz kf vf du).1) i == 0) 61)) m h) := by
  refine ee_entry hst (by decide +kernel) rfl rfl (by simp [Value.category]) (Nat.le_of_ble_eq_true rfl) ?_
  refine ww_lv (lv2 := [.ref m, .int (nI 1), UU, UU]) rfl ?_
  refine ww_aload_n dX11_common_0 rfl rfl ?_
  refine ww_iconst (v := nI 0) dX11_common_1 (by decide) ?_
  refine ww_pfI tyX11 0 dX11_common_2 hM.K0 rfl (by decide) inX11 tyX11_ok nmX11 wg_1240 rfl rfl ?_
  refine ww_aload_n dX11_common_5 rfl rfl ?_
  refine ww_iload_n dX11_common_6 rfl rfl ?_
  refine ww_iconst (v := nI 0) dX11_common_7 (by decide) ?_
  refine ww_iconst (v := nI 1) dX11_common_8 (by decide) ?_
  refine ww_cSr (M := m_X11_common) (pc := 9) (v := .int (nI 1)) (h1 := hp_sF h m 0 (.int (nI 0))) (st := [.ref m]) (d := 6) (bc := 0) (bs := 0) (c_M_within_t hst (nI 1) (nI 0) (nI 1) (by decide) (by decide) _) vv_X11_within dX11_common_9 wg_1601 rfl rfl rfl (Nat.le_of_ble_eq_true rfl) (Nat.le_of_ble_eq_true rfl) (Nat.le_of_ble_eq_true rfl) (Nat.le_of_ble_eq_true rfl) ?_
  refine ww_iconst (v := nI 1) dX11_common_12 (by decide) ?_
  refine ww_iconst (v := nI 1) dX11_common_13 (by decide) ?_
  refine ww_cVr (M := m_X11_common) (pc := 14) (v := .int (nI 1)) (h1 := hp_sF h m 0 (.int (nI 0))) (st := []) (d := 6) (bc := 0) (bs := 0) (c_M_may_t hst (h := hp_sF h m 0 (.int (nI 0))) (ModS.sF hM (by decide)) (hp_F_eq _ _ _ _) (nI 1) (nI 1)) vv_X11_may dX11_common_14 wg_1413 hM.K0 rfl rfl rfl rfl (Nat.le_of_ble_eq_true rfl) (Nat.le_of_ble_eq_true rfl) (Nat.le_of_ble_eq_true rfl) (Nat.le_of_ble_eq_true rfl) ?_
  refine ww_if_neN (tgt := 22) dX11_common_17 (by decide) (by omega) (fun c17 => ?_) (fun c17 => ?_)
  · refine ww_aload_n dX11_common_22 rfl rfl ?_
    have hQ0 : LawM (hp_sF h m 0 (.int (nI 0))) m sz kf vf := hQ.same (Same.rf.sF (SY0 m)) (SX_no (by decide)) (SX_no (by decide)) (SY_no (by decide))
    refine ww_cVq0 (M := m_X11_common) (pc := 23) (st := []) (d := 6) (bc := 0) (bs := 0) (c_M_laySaid hst (h := hp_sF h m 0 (.int (nI 0))) (ModS.sF hM (by decide)) hf hs hQ0 hok (hp_F_nj (by decide) hdu) hd (hp_F_eq _ _ _ _)) vv_X11_laySaid dX11_common_23 wg_1636 hM.K0 rfl rfl rfl rfl (Nat.le_of_ble_eq_true rfl) (Nat.le_of_ble_eq_true rfl) (Nat.le_of_ble_eq_true rfl) (Nat.le_of_ble_eq_true rfl) (fun hq1 qq1 => ?_)
    have hI1 : MI m sz kf vf (cpF f g 190) h hq1 := ⟨qq1.1.1, qq1.1.2.1, qq1.1.2.2.1, (Same.rf.sF (SY0 m)).tr qq1.1.2.2.2.1, qq1.1.2.2.2.2⟩
    have hr1 := qq1.2.2
    have hdu1 := qq1.2.1
    generalize hge : cpF f g 190 = g9 at hI1
    have hg9 : ∀ i, i < 190 → g9 i = f i := fun i hi => by rw [← hge]; exact cpF_in hi
    refine ww_iconst (v := nI 0) dX11_common_26 (by decide) ?_
    refine ww_sti_n (lv2 := [.ref m, .int (nI 1), .int (nI 0), UU]) dX11_common_27 rfl rfl (by decide) rfl ?_
    refine ww_iconst (v := nI 0) dX11_common_28 (by decide) ?_
    refine ww_sti_n (lv2 := [.ref m, .int (nI 1), .int (nI 0), .int (nI 0)]) dX11_common_29 rfl rfl (by decide) rfl ?_
    refine l_M_common1 hst hI1.1 hr1 61 0 rfl ?_
    refine ww_iload_n dX11_common_79 rfl rfl ?_
    exact ww_iret dX11_common_80 rfl ⟨rfl, hI1.2.2.2.1, hI1.2.2.2.2⟩
  · exact absurd c17 (by decide)
set_option maxHeartbeats 4000000 in
set_option maxRecDepth 100000 in
theorem c_M_common_no0 {l : Launch} {Z : EE} (hst : l.stackTraces = false) {h : PH} {m : Nat} (hM : ModS h m) {f : Nat → Int32} (hf : hp_I h (m + 14) = f) {g : Nat → Int32} (hs : hp_I h (m + 15) = g) {sz : Nat} {kf vf : Nat → Int32} (hQ : LawM h m sz kf vf) (hok : LawOK kf vf sz) (w : Int32) (hout : outR 0 1 w) : CC l Z m_X11_common 6 0 0 [.ref m, .int w] h (MNo 1 1 m h) := by
  refine ee_entry hst (by decide +kernel) rfl rfl (by simp [Value.category]) (Nat.le_of_ble_eq_true rfl) ?_
  refine ww_lv (lv2 := [.ref m, .int w, UU, UU]) rfl ?_
  refine ww_aload_n dX11_common_0 rfl rfl ?_
  refine ww_iconst (v := nI 0) dX11_common_1 (by decide) ?_
  refine ww_pfI tyX11 0 dX11_common_2 hM.K0 rfl (by decide) inX11 tyX11_ok nmX11 wg_1240 rfl rfl ?_
  refine ww_aload_n dX11_common_5 rfl rfl ?_
  refine ww_iload_n dX11_common_6 rfl rfl ?_
  refine ww_iconst (v := nI 0) dX11_common_7 (by decide) ?_
  refine ww_iconst (v := nI 1) dX11_common_8 (by decide) ?_
  refine ww_cSr (M := m_X11_common) (pc := 9) (v := .int (nI 0)) (h1 := hp_sF h m 0 (.int (nI 0))) (st := [.ref m]) (d := 6) (bc := 0) (bs := 0) (c_M_within_f hst w (nI 0) (nI 1) hout _) vv_X11_within dX11_common_9 wg_1601 rfl rfl rfl (Nat.le_of_ble_eq_true rfl) (Nat.le_of_ble_eq_true rfl) (Nat.le_of_ble_eq_true rfl) (Nat.le_of_ble_eq_true rfl) ?_
  refine ww_iconst (v := nI 1) dX11_common_12 (by decide) ?_
  refine ww_iconst (v := nI 1) dX11_common_13 (by decide) ?_
  refine ww_cVr (M := m_X11_common) (pc := 14) (v := .int (nI 0)) (h1 := hp_sI (hp_sF (hp_sF h m 0 (.int (nI 0))) m 0 (.int (nI 1))) (m + 1) (upd (hp_I (hp_sF h m 0 (.int (nI 0))) (m + 1)) 1 (hp_I (hp_sF h m 0 (.int (nI 0))) (m + 1) 1 + nI 1))) (st := []) (d := 6) (bc := 0) (bs := 0) (c_M_may_f hst (h := hp_sF h m 0 (.int (nI 0))) (ModS.sF hM (by decide)) (hp_F_eq _ _ _ _) 1 1 (by decide) (by decide) (by decide)) vv_X11_may dX11_common_14 wg_1413 hM.K0 rfl rfl rfl rfl (Nat.le_of_ble_eq_true rfl) (Nat.le_of_ble_eq_true rfl) (Nat.le_of_ble_eq_true rfl) (Nat.le_of_ble_eq_true rfl) ?_
  refine ww_if_neN (tgt := 22) dX11_common_17 (by decide) (by omega) (fun c17 => ?_) (fun c17 => ?_)
  · exact absurd c17 (by decide)
  · refine ww_iconst (v := nI 0) dX11_common_20 (by decide) ?_
    exact ww_iret dX11_common_21 rfl ⟨rfl, (((Same.rf.sF (SY0 m)).sF (SY0 m)).sI (Or.inr rfl)), (hp_F_sI (hp_F_eq _ _ _ _)), by rw [hp_I_eq]; rfl⟩
