set_option maxHeartbeats 4000000 in
set_option maxRecDepth 100000 in
theorem l_M_landlord1 {l : Launch} {Z : EE} (hst : l.stackTraces = false) {h : PH} {m : Nat} (hM : ModS h m) {f : Nat → Int32} (hf : hp_I h (m + 14) = f) (w x y : Int32) (q : Nat) {Post : Res → PH → Prop} : ∀ (j k : Nat), k + j = 61 → WW l Z m_X11_landlord 2 0 0 90 [.ref m, .int w, .int x, .int y, .int (nI q), .int (smI (fun n => if f n = nI q then f (61 + n) else 0) 61), .int (nI 61)] [] h Post → WW l Z m_X11_landlord 2 0 0 44 [.ref m, .int w, .int x, .int y, .int (nI q), .int (smI (fun n => if f n = nI q then f (61 + n) else 0) k), .int (nI k)] [] h Post := by
  intro j
  induction j with
  | zero =>
    intro k hk hexit
    have hk0 : k = 61 := by omega
    subst hk0
    refine ww_iload dX11_landlord_44 rfl ?_
    refine ww_bipush (v := nI 61) dX11_landlord_46 (by decide) ?_
    refine ww_icmp_geN (tgt := 90) dX11_landlord_48 (by decide) (by omega) (by omega) (fun c48 => ?_) (fun c48 => ?_)
    · exact hexit
    · exact absurd c48 (by decide)
  | succ j ih =>
    intro k hk hexit
    refine ww_iload dX11_landlord_44 rfl ?_
    refine ww_bipush (v := nI 61) dX11_landlord_46 (by decide) ?_
    refine ww_icmp_geN (tgt := 90) dX11_landlord_48 (by decide) (by omega) (by omega) (fun c48 => ?_) (fun c48 => ?_)
    · exfalso; omega
    · refine ww_iload dX11_landlord_51 rfl ?_
      refine ww_aload_n dX11_landlord_53 rfl rfl ?_
      refine ww_get 33 dX11_landlord_54 hM.K0 rfl (by decide) inX11 wg_1273 hM.F14 ?_
      refine ww_iconst (v := nI 0) dX11_landlord_57 (by decide) ?_
      refine ww_iload dX11_landlord_58 rfl ?_
      refine ww_iadd0 dX11_landlord_60 ?_
      refine ww_ialdF dX11_landlord_61 hM.K14 hf (by omega) (by omega) ?_
      refine ww_iload dX11_landlord_62 rfl ?_
      refine ww_icmp_ne (tgt := 80) dX11_landlord_64 (by decide) (fun c64 => ?_) (fun c64 => ?_)
      · refine ww_iconst (v := nI 0) dX11_landlord_80 (by decide) ?_
        refine ww_iadd dX11_landlord_81 ?_
        refine ww_sti (lv2 := [.ref m, .int w, .int x, .int y, .int (nI q), .int ((smI (fun n => if f n = nI q then f (61 + n) else 0) k) + (nI 0)), .int (nI k)]) dX11_landlord_82 rfl (by decide) rfl ?_
        refine ww_incN (c := 1) (lv2 := [.ref m, .int w, .int x, .int y, .int (nI q), .int ((smI (fun n => if f n = nI q then f (61 + n) else 0) k) + (nI 0)), .int (nI (k + 1))]) dX11_landlord_84 rfl rfl rfl (by decide) rfl ?_
        refine ww_goto (tgt := 44) dX11_landlord_87 (by decide) ?_
        refine ww_lv (lv2 := [.ref m, .int w, .int x, .int y, .int (nI q), .int (smI (fun n => if f n = nI q then f (61 + n) else 0) (k + 1)), .int (nI (k + 1))]) (by simp [smI, c64, nI_0]) ?_
        exact ih (k + 1) (by omega) hexit
      · refine ww_aload_n dX11_landlord_67 rfl rfl ?_
        refine ww_get 33 dX11_landlord_68 hM.K0 rfl (by decide) inX11 wg_1273 hM.F14 ?_
        refine ww_bipush (v := nI 61) dX11_landlord_71 (by decide) ?_
        refine ww_iload dX11_landlord_73 rfl ?_
        refine ww_iaddN dX11_landlord_75 ?_
        refine ww_ialdF dX11_landlord_76 hM.K14 hf (by omega) (by omega) ?_
        refine ww_goto (tgt := 81) dX11_landlord_77 (by decide) ?_
        refine ww_iadd dX11_landlord_81 ?_
        refine ww_sti (lv2 := [.ref m, .int w, .int x, .int y, .int (nI q), .int ((smI (fun n => if f n = nI q then f (61 + n) else 0) k) + (f (61 + k))), .int (nI k)]) dX11_landlord_82 rfl (by decide) rfl ?_
        refine ww_incN (c := 1) (lv2 := [.ref m, .int w, .int x, .int y, .int (nI q), .int ((smI (fun n => if f n = nI q then f (61 + n) else 0) k) + (f (61 + k))), .int (nI (k + 1))]) dX11_landlord_84 rfl rfl rfl (by decide) rfl ?_
        refine ww_goto (tgt := 44) dX11_landlord_87 (by decide) ?_
        refine ww_lv (lv2 := [.ref m, .int w, .int x, .int y, .int (nI q), .int (smI (fun n => if f n = nI q then f (61 + n) else 0) (k + 1)), .int (nI (k + 1))]) (by simp [smI, c64, nI_0]) ?_
        exact ih (k + 1) (by omega) hexit
set_option maxHeartbeats 4000000 in
set_option maxRecDepth 100000 in
theorem l_M_landlord {l : Launch} {Z : EE} (hst : l.stackTraces = false) {h : PH} {m : Nat} (hM : ModS h m) {np : Nat} (hnp : hp_F h m 15 = .int (nI np)) (h6 : np ≤ 6) {f : Nat → Int32} (hf : hp_I h (m + 14) = f) (w : Int32) {Post : Res → PH → Prop} : ∀ (j k : Nat), k + j = np → WW l Z m_X11_landlord 2 0 0 111 [.ref m, .int w, .int ((llF f np).1), .int ((llF f np).2), .int (nI np), UU, UU] [] h Post → WW l Z m_X11_landlord 2 0 0 29 [.ref m, .int w, .int ((llF f k).1), .int ((llF f k).2), .int (nI k), UU, UU] [] h Post := by
  intro j
  induction j with
  | zero =>
    intro k hk hex
    have hk0 : k = np := by omega
    subst hk0
    refine ww_iload dX11_landlord_29 rfl ?_
    refine ww_aload_n dX11_landlord_31 rfl rfl ?_
    refine ww_get 15 dX11_landlord_32 hM.K0 rfl (by decide) inX11 wg_1255 hnp ?_
    refine ww_icmp_geN (tgt := 111) dX11_landlord_35 (by decide) (by omega) (by omega) (fun c35 => ?_) (fun c35 => ?_)
    · exact hex
    · exfalso; omega
  | succ j ih =>
    intro k hk hex
    refine ww_iload dX11_landlord_29 rfl ?_
    refine ww_aload_n dX11_landlord_31 rfl rfl ?_
    refine ww_get 15 dX11_landlord_32 hM.K0 rfl (by decide) inX11 wg_1255 hnp ?_
    refine ww_icmp_geN (tgt := 111) dX11_landlord_35 (by decide) (by omega) (by omega) (fun c35 => ?_) (fun c35 => ?_)
    · exfalso; omega
    · refine ww_iconst (v := nI 0) dX11_landlord_38 (by decide) ?_
      refine ww_sti (lv2 := [.ref m, .int w, .int ((llF f k).1), .int ((llF f k).2), .int (nI k), .int (nI 0), UU]) dX11_landlord_39 rfl (by decide) rfl ?_
      refine ww_iconst (v := nI 0) dX11_landlord_41 (by decide) ?_
      refine ww_sti (lv2 := [.ref m, .int w, .int ((llF f k).1), .int ((llF f k).2), .int (nI k), .int (nI 0), .int (nI 0)]) dX11_landlord_42 rfl (by decide) rfl ?_
      refine l_M_landlord1 hst hM hf w (llF f k).1 (llF f k).2 k 61 0 rfl ?_
      refine ww_iload dX11_landlord_90 rfl ?_
      refine ww_iload_n dX11_landlord_92 rfl rfl ?_
      refine ww_icmp_gt (tgt := 99) dX11_landlord_93 (by decide) (fun c93 => ?_) (fun c93 => ?_)
      · refine ww_iload dX11_landlord_99 rfl ?_
        refine ww_sti_n (lv2 := [.ref m, .int w, .int (nI k), .int ((llF f k).2), .int (nI k), .int (smI (fun n => if f n = nI k then f (61 + n) else 0) 61), .int (nI 61)]) dX11_landlord_101 rfl rfl (by decide) rfl ?_
        refine ww_iload dX11_landlord_102 rfl ?_
        refine ww_sti_n (lv2 := [.ref m, .int w, .int (nI k), .int (smI (fun n => if f n = nI k then f (61 + n) else 0) 61), .int (nI k), .int (smI (fun n => if f n = nI k then f (61 + n) else 0) 61), .int (nI 61)]) dX11_landlord_104 rfl rfl (by decide) rfl ?_
        refine ww_incN (c := 1) (lv2 := [.ref m, .int w, .int (nI k), .int (smI (fun n => if f n = nI k then f (61 + n) else 0) 61), .int (nI (k + 1)), .int (smI (fun n => if f n = nI k then f (61 + n) else 0) 61), .int (nI 61)]) dX11_landlord_105 rfl rfl rfl (by decide) rfl ?_
        refine ww_goto (tgt := 29) dX11_landlord_108 (by decide) ?_
        refine ww_fg (lv2 := [.ref m, .int w, .int (nI k), .int (smI (fun n => if f n = nI k then f (61 + n) else 0) 61), .int (nI (k + 1)), UU, UU]) ⟨Or.inr rfl, Or.inr rfl, Or.inr rfl, Or.inr rfl, Or.inr rfl, Or.inl rfl, Or.inl rfl, trivial⟩ ?_
        refine ww_lv (lv2 := [.ref m, .int w, .int ((llF f ((k + 1))).1), .int ((llF f ((k + 1))).2), .int (nI ((k + 1))), UU, UU]) (by simp [llF, c93]) ?_
        exact ih (k + 1) (by omega) hex
      · refine ww_goto (tgt := 105) dX11_landlord_96 (by decide) ?_
        refine ww_incN (c := 1) (lv2 := [.ref m, .int w, .int ((llF f k).1), .int ((llF f k).2), .int (nI (k + 1)), .int (smI (fun n => if f n = nI k then f (61 + n) else 0) 61), .int (nI 61)]) dX11_landlord_105 rfl rfl rfl (by decide) rfl ?_
        refine ww_goto (tgt := 29) dX11_landlord_108 (by decide) ?_
        refine ww_fg (lv2 := [.ref m, .int w, .int ((llF f k).1), .int ((llF f k).2), .int (nI (k + 1)), UU, UU]) ⟨Or.inr rfl, Or.inr rfl, Or.inr rfl, Or.inr rfl, Or.inr rfl, Or.inl rfl, Or.inl rfl, trivial⟩ ?_
        refine ww_lv (lv2 := [.ref m, .int w, .int ((llF f ((k + 1))).1), .int ((llF f ((k + 1))).2), .int (nI ((k + 1))), UU, UU]) (by simp [llF, c93]) ?_
        exact ih (k + 1) (by omega) hex
set_option maxHeartbeats 4000000 in
set_option maxRecDepth 100000 in
theorem c_M_landlord0 {l : Launch} {Z : EE} (hst : l.stackTraces = false) {h : PH} {m : Nat} (hM : ModS h m) {np : Nat} (hnp : hp_F h m 15 = .int (nI np)) (h6 : np ≤ 6) {f : Nat → Int32} (hf : hp_I h (m + 14) = f) : CC l Z m_X11_landlord 2 0 0 [.ref m, .int (nI 0)] h (MOk ((llF f np).1) m h) := by
  refine ee_entry hst (by decide +kernel) rfl rfl (by simp [Value.category]) (Nat.le_of_ble_eq_true rfl) ?_
  refine ww_lv (lv2 := [.ref m, .int (nI 0), UU, UU, UU, UU, UU]) rfl ?_
  refine ww_aload_n dX11_landlord_0 rfl rfl ?_
  refine ww_iconst (v := nI 0) dX11_landlord_1 (by decide) ?_
  refine ww_pfI tyX11 0 dX11_landlord_2 hM.K0 rfl (by decide) inX11 tyX11_ok nmX11 wg_1240 rfl rfl ?_
  refine ww_aload_n dX11_landlord_5 rfl rfl ?_
  refine ww_iload_n dX11_landlord_6 rfl rfl ?_
  refine ww_iconst (v := nI 0) dX11_landlord_7 (by decide) ?_
  refine ww_iconst (v := nI 1) dX11_landlord_8 (by decide) ?_
  refine ww_cSr (M := m_X11_landlord) (pc := 9) (v := .int (nI 1)) (h1 := hp_sF h m 0 (.int (nI 0))) (st := [.ref m]) (bc := 0) (bs := 0) (c_M_within_t hst (nI 0) (nI 0) (nI 1) (by decide) (by decide) _) vv_X11_within dX11_landlord_9 wg_1601 rfl rfl rfl (Nat.le_of_ble_eq_true rfl) (Nat.le_of_ble_eq_true rfl) (Nat.le_of_ble_eq_true rfl) (Nat.le_of_ble_eq_true rfl) ?_
  refine ww_iconst (v := nI 1) dX11_landlord_12 (by decide) ?_
  refine ww_iconst (v := nI 1) dX11_landlord_13 (by decide) ?_
  refine ww_cVr (M := m_X11_landlord) (pc := 14) (v := .int (nI 1)) (h1 := hp_sF h m 0 (.int (nI 0))) (st := []) (bc := 0) (bs := 0) (c_M_may_t hst (h := hp_sF h m 0 (.int (nI 0))) (ModS.sF hM (by decide)) (hp_F_eq _ _ _ _) (nI 1) (nI 1)) vv_X11_may dX11_landlord_14 wg_1413 hM.K0 rfl rfl rfl rfl (Nat.le_of_ble_eq_true rfl) (Nat.le_of_ble_eq_true rfl) (Nat.le_of_ble_eq_true rfl) (Nat.le_of_ble_eq_true rfl) ?_
  refine ww_if_neN (tgt := 22) dX11_landlord_17 (by decide) (by omega) (fun c17 => ?_) (fun c17 => ?_)
  · refine ww_iconst (v := -1) dX11_landlord_22 (by decide) ?_
    refine ww_sti_n (lv2 := [.ref m, .int (nI 0), .int (-1), UU, UU, UU, UU]) dX11_landlord_23 rfl rfl (by decide) rfl ?_
    refine ww_iconst (v := nI 0) dX11_landlord_24 (by decide) ?_
    refine ww_sti_n (lv2 := [.ref m, .int (nI 0), .int (-1), .int (nI 0), UU, UU, UU]) dX11_landlord_25 rfl rfl (by decide) rfl ?_
    refine ww_iconst (v := nI 0) dX11_landlord_26 (by decide) ?_
    refine ww_sti (lv2 := [.ref m, .int (nI 0), .int (-1), .int (nI 0), .int (nI 0), UU, UU]) dX11_landlord_27 rfl (by decide) rfl ?_
    refine l_M_landlord hst (h := hp_sF h m 0 (.int (nI 0))) (ModS.sF hM (by decide)) (hp_F_nj (by decide) hnp) h6 hf (nI 0) np 0 (by omega) ?_
    refine ww_iload_n dX11_landlord_111 rfl rfl ?_
    refine ww_if_eqN (tgt := 120) dX11_landlord_112 (by decide) (by omega) (fun c112 => ?_) (fun c112 => ?_)
    · refine ww_iload_n dX11_landlord_120 rfl rfl ?_
      refine ww_goto (tgt := 125) dX11_landlord_121 (by decide) ?_
      exact ww_iret dX11_landlord_125 rfl ⟨rfl, (Same.rf.sF (SY0 m)), (hp_F_eq _ _ _ _)⟩
    · exact absurd c112 (by decide)
  · exact absurd c17 (by decide)
set_option maxHeartbeats 4000000 in
set_option maxRecDepth 100000 in
theorem c_M_landlord1 {l : Launch} {Z : EE} (hst : l.stackTraces = false) {h : PH} {m : Nat} (hM : ModS h m) {np : Nat} (hnp : hp_F h m 15 = .int (nI np)) (h6 : np ≤ 6) {f : Nat → Int32} (hf : hp_I h (m + 14) = f) : CC l Z m_X11_landlord 2 0 0 [.ref m, .int (nI 1)] h (MOk (if (llF f np).1 = -1 then -1 else (llF f np).2) m h) := by
  refine ee_entry hst (by decide +kernel) rfl rfl (by simp [Value.category]) (Nat.le_of_ble_eq_true rfl) ?_
  refine ww_lv (lv2 := [.ref m, .int (nI 1), UU, UU, UU, UU, UU]) rfl ?_
  refine ww_aload_n dX11_landlord_0 rfl rfl ?_
  refine ww_iconst (v := nI 0) dX11_landlord_1 (by decide) ?_
  refine ww_pfI tyX11 0 dX11_landlord_2 hM.K0 rfl (by decide) inX11 tyX11_ok nmX11 wg_1240 rfl rfl ?_
  refine ww_aload_n dX11_landlord_5 rfl rfl ?_
  refine ww_iload_n dX11_landlord_6 rfl rfl ?_
  refine ww_iconst (v := nI 0) dX11_landlord_7 (by decide) ?_
  refine ww_iconst (v := nI 1) dX11_landlord_8 (by decide) ?_
  refine ww_cSr (M := m_X11_landlord) (pc := 9) (v := .int (nI 1)) (h1 := hp_sF h m 0 (.int (nI 0))) (st := [.ref m]) (bc := 0) (bs := 0) (c_M_within_t hst (nI 1) (nI 0) (nI 1) (by decide) (by decide) _) vv_X11_within dX11_landlord_9 wg_1601 rfl rfl rfl (Nat.le_of_ble_eq_true rfl) (Nat.le_of_ble_eq_true rfl) (Nat.le_of_ble_eq_true rfl) (Nat.le_of_ble_eq_true rfl) ?_
  refine ww_iconst (v := nI 1) dX11_landlord_12 (by decide) ?_
  refine ww_iconst (v := nI 1) dX11_landlord_13 (by decide) ?_
  refine ww_cVr (M := m_X11_landlord) (pc := 14) (v := .int (nI 1)) (h1 := hp_sF h m 0 (.int (nI 0))) (st := []) (bc := 0) (bs := 0) (c_M_may_t hst (h := hp_sF h m 0 (.int (nI 0))) (ModS.sF hM (by decide)) (hp_F_eq _ _ _ _) (nI 1) (nI 1)) vv_X11_may dX11_landlord_14 wg_1413 hM.K0 rfl rfl rfl rfl (Nat.le_of_ble_eq_true rfl) (Nat.le_of_ble_eq_true rfl) (Nat.le_of_ble_eq_true rfl) (Nat.le_of_ble_eq_true rfl) ?_
  refine ww_if_neN (tgt := 22) dX11_landlord_17 (by decide) (by omega) (fun c17 => ?_) (fun c17 => ?_)
  · refine ww_iconst (v := -1) dX11_landlord_22 (by decide) ?_
    refine ww_sti_n (lv2 := [.ref m, .int (nI 1), .int (-1), UU, UU, UU, UU]) dX11_landlord_23 rfl rfl (by decide) rfl ?_
    refine ww_iconst (v := nI 0) dX11_landlord_24 (by decide) ?_
    refine ww_sti_n (lv2 := [.ref m, .int (nI 1), .int (-1), .int (nI 0), UU, UU, UU]) dX11_landlord_25 rfl rfl (by decide) rfl ?_
    refine ww_iconst (v := nI 0) dX11_landlord_26 (by decide) ?_
    refine ww_sti (lv2 := [.ref m, .int (nI 1), .int (-1), .int (nI 0), .int (nI 0), UU, UU]) dX11_landlord_27 rfl (by decide) rfl ?_
    refine l_M_landlord hst (h := hp_sF h m 0 (.int (nI 0))) (ModS.sF hM (by decide)) (hp_F_nj (by decide) hnp) h6 hf (nI 1) np 0 (by omega) ?_
    refine ww_iload_n dX11_landlord_111 rfl rfl ?_
    refine ww_if_eqN (tgt := 120) dX11_landlord_112 (by decide) (by omega) (fun c112 => ?_) (fun c112 => ?_)
    · exact absurd c112 (by decide)
    · refine ww_iload_n dX11_landlord_115 rfl rfl ?_
      refine ww_iconst (v := -1) dX11_landlord_116 (by decide) ?_
      refine ww_icmp_ne (tgt := 124) dX11_landlord_117 (by decide) (fun c117 => ?_) (fun c117 => ?_)
      · refine ww_iload_n dX11_landlord_124 rfl rfl ?_
        exact ww_iret dX11_landlord_125 rfl ⟨by simp [c117], (Same.rf.sF (SY0 m)), (hp_F_eq _ _ _ _)⟩
      · refine ww_iload_n dX11_landlord_120 rfl rfl ?_
        refine ww_goto (tgt := 125) dX11_landlord_121 (by decide) ?_
        exact ww_iret dX11_landlord_125 rfl ⟨by simp [c117], (Same.rf.sF (SY0 m)), (hp_F_eq _ _ _ _)⟩
  · exact absurd c17 (by decide)
set_option maxHeartbeats 4000000 in
set_option maxRecDepth 100000 in
theorem c_M_landlord_no0 {l : Launch} {Z : EE} (hst : l.stackTraces = false) {h : PH} {m : Nat} (hM : ModS h m) {np : Nat} (hnp : hp_F h m 15 = .int (nI np)) (h6 : np ≤ 6) {f : Nat → Int32} (hf : hp_I h (m + 14) = f) (w : Int32) (hout : outR 0 1 w) : CC l Z m_X11_landlord 2 0 0 [.ref m, .int w] h (MNo 1 1 m h) := by
  refine ee_entry hst (by decide +kernel) rfl rfl (by simp [Value.category]) (Nat.le_of_ble_eq_true rfl) ?_
  refine ww_lv (lv2 := [.ref m, .int w, UU, UU, UU, UU, UU]) rfl ?_
  refine ww_aload_n dX11_landlord_0 rfl rfl ?_
  refine ww_iconst (v := nI 0) dX11_landlord_1 (by decide) ?_
  refine ww_pfI tyX11 0 dX11_landlord_2 hM.K0 rfl (by decide) inX11 tyX11_ok nmX11 wg_1240 rfl rfl ?_
  refine ww_aload_n dX11_landlord_5 rfl rfl ?_
  refine ww_iload_n dX11_landlord_6 rfl rfl ?_
  refine ww_iconst (v := nI 0) dX11_landlord_7 (by decide) ?_
  refine ww_iconst (v := nI 1) dX11_landlord_8 (by decide) ?_
  refine ww_cSr (M := m_X11_landlord) (pc := 9) (v := .int (nI 0)) (h1 := hp_sF h m 0 (.int (nI 0))) (st := [.ref m]) (bc := 0) (bs := 0) (c_M_within_f hst w (nI 0) (nI 1) hout _) vv_X11_within dX11_landlord_9 wg_1601 rfl rfl rfl (Nat.le_of_ble_eq_true rfl) (Nat.le_of_ble_eq_true rfl) (Nat.le_of_ble_eq_true rfl) (Nat.le_of_ble_eq_true rfl) ?_
  refine ww_iconst (v := nI 1) dX11_landlord_12 (by decide) ?_
  refine ww_iconst (v := nI 1) dX11_landlord_13 (by decide) ?_
  refine ww_cVr (M := m_X11_landlord) (pc := 14) (v := .int (nI 0)) (h1 := hp_sI (hp_sF (hp_sF h m 0 (.int (nI 0))) m 0 (.int (nI 1))) (m + 1) (upd (hp_I (hp_sF h m 0 (.int (nI 0))) (m + 1)) 1 (hp_I (hp_sF h m 0 (.int (nI 0))) (m + 1) 1 + nI 1))) (st := []) (bc := 0) (bs := 0) (c_M_may_f hst (h := hp_sF h m 0 (.int (nI 0))) (ModS.sF hM (by decide)) (hp_F_eq _ _ _ _) 1 1 (by decide) (by decide) (by decide)) vv_X11_may dX11_landlord_14 wg_1413 hM.K0 rfl rfl rfl rfl (Nat.le_of_ble_eq_true rfl) (Nat.le_of_ble_eq_true rfl) (Nat.le_of_ble_eq_true rfl) (Nat.le_of_ble_eq_true rfl) ?_
  refine ww_if_neN (tgt := 22) dX11_landlord_17 (by decide) (by omega) (fun c17 => ?_) (fun c17 => ?_)
  · exact absurd c17 (by decide)
  · refine ww_iconst (v := nI 0) dX11_landlord_20 (by decide) ?_
    exact ww_iret dX11_landlord_21 rfl ⟨rfl, (((Same.rf.sF (SY0 m)).sF (SY0 m)).sI (Or.inr rfl)), (hp_F_eq _ _ _ _), by rw [hp_I_eq]; rfl⟩
def poF (f : Nat → Int32) : Nat → Nat × Int32
  | 0 => (0, f 183)
  | k + 1 => if f (183 + (k + 1)) < (poF f k).2 then (k + 1, f (183 + (k + 1))) else poF f k
theorem poF_ok (f : Nat → Int32) : ∀ k, (poF f k).1 ≤ k ∧ (poF f k).2 = f (183 + (poF f k).1)
  | 0 => ⟨Nat.le_refl _, rfl⟩
  | k + 1 => by
    obtain ⟨h1, h2⟩ := poF_ok f k
    simp only [poF]
    split
    · exact ⟨Nat.le_refl _, rfl⟩
    · exact ⟨by omega, h2⟩
set_option maxHeartbeats 4000000 in
set_option maxRecDepth 100000 in
theorem l_M_poorest {l : Launch} {Z : EE} (hst : l.stackTraces = false) {h : PH} {m : Nat} (hM : ModS h m) {np : Nat} (hnp : hp_F h m 15 = .int (nI np)) (h6 : np ≤ 6) {f : Nat → Int32} (hf : hp_I h (m + 14) = f) (w : Int32) {Post : Res → PH → Prop} : ∀ (j k : Nat), k + 1 + j = np → WW l Z m_X11_poorest 2 0 0 70 [.ref m, .int w, .int (nI (poF f (np - 1)).1), .int (nI np)] [] h Post → WW l Z m_X11_poorest 2 0 0 26 [.ref m, .int w, .int (nI ((poF f k).1)), .int (nI (k + 1))] [] h Post := by
  intro j
  induction j with
  | zero =>
    intro k hk hex
    have hk0 : np = k + 1 := by omega
    subst hk0
    refine ww_iload_n dX11_poorest_26 rfl rfl ?_
    refine ww_aload_n dX11_poorest_27 rfl rfl ?_
    refine ww_get 15 dX11_poorest_28 hM.K0 rfl (by decide) inX11 wg_1255 hnp ?_
    refine ww_icmp_geN (tgt := 70) dX11_poorest_31 (by decide) (by omega) (by omega) (fun c31 => ?_) (fun c31 => ?_)
    · exact hex
    · exfalso; omega
  | succ j ih =>
    intro k hk hex
    obtain ⟨ho1, ho2⟩ := poF_ok f k
    refine ww_iload_n dX11_poorest_26 rfl rfl ?_
    refine ww_aload_n dX11_poorest_27 rfl rfl ?_
    refine ww_get 15 dX11_poorest_28 hM.K0 rfl (by decide) inX11 wg_1255 hnp ?_
    refine ww_icmp_geN (tgt := 70) dX11_poorest_31 (by decide) (by omega) (by omega) (fun c31 => ?_) (fun c31 => ?_)
    · exfalso; omega
    · refine ww_iload_n dX11_poorest_34 rfl rfl ?_
      refine ww_iconst (v := -1) dX11_poorest_35 (by decide) ?_
      refine ww_icmp_eq (tgt := 62) dX11_poorest_36 (by decide) (fun c36 => ?_) (fun c36 => ?_)
      · exact absurd c36 (nI_m1 (by omega))
      · refine ww_aload_n dX11_poorest_39 rfl rfl ?_
        refine ww_get 33 dX11_poorest_40 hM.K0 rfl (by decide) inX11 wg_1273 hM.F14 ?_
        refine ww_sipush (v := nI 183) dX11_poorest_43 (by decide) ?_
        refine ww_iload_n dX11_poorest_46 rfl rfl ?_
        refine ww_iaddN dX11_poorest_47 ?_
        refine ww_ialdF dX11_poorest_48 hM.K14 hf (by omega) (by omega) ?_
        refine ww_aload_n dX11_poorest_49 rfl rfl ?_
        refine ww_get 33 dX11_poorest_50 hM.K0 rfl (by decide) inX11 wg_1273 hM.F14 ?_
        refine ww_sipush (v := nI 183) dX11_poorest_53 (by decide) ?_
        refine ww_iload_n dX11_poorest_56 rfl rfl ?_
        refine ww_iaddN dX11_poorest_57 ?_
        refine ww_ialdF dX11_poorest_58 hM.K14 hf (by omega) (by omega) ?_
        refine ww_icmp_ge (tgt := 64) dX11_poorest_59 (by decide) (fun c59 => ?_) (fun c59 => ?_)
        · refine ww_incN (c := 1) (lv2 := [.ref m, .int w, .int (nI ((poF f k).1)), .int (nI (k + 1 + 1))]) dX11_poorest_64 rfl rfl rfl (by decide) rfl ?_
          refine ww_goto (tgt := 26) dX11_poorest_67 (by decide) ?_
          refine ww_lv (lv2 := [.ref m, .int w, .int (nI ((poF f ((k + 1))).1)), .int (nI (((k + 1)) + 1))]) (by simp only [← Int32.not_lt, Classical.not_not, ← ho2] at c59; simp [poF, c59]) ?_
          exact ih (k + 1) (by omega) hex
        · refine ww_iload_n dX11_poorest_62 rfl rfl ?_
          refine ww_sti_n (lv2 := [.ref m, .int w, .int (nI (k + 1)), .int (nI (k + 1))]) dX11_poorest_63 rfl rfl (by decide) rfl ?_
          refine ww_incN (c := 1) (lv2 := [.ref m, .int w, .int (nI (k + 1)), .int (nI (k + 1 + 1))]) dX11_poorest_64 rfl rfl rfl (by decide) rfl ?_
          refine ww_goto (tgt := 26) dX11_poorest_67 (by decide) ?_
          refine ww_lv (lv2 := [.ref m, .int w, .int (nI ((poF f ((k + 1))).1)), .int (nI (((k + 1)) + 1))]) (by simp only [← Int32.not_lt, Classical.not_not, ← ho2] at c59; simp [poF, c59]) ?_
          exact ih (k + 1) (by omega) hex
set_option maxHeartbeats 4000000 in
set_option maxRecDepth 100000 in
theorem c_M_poorest0_z {l : Launch} {Z : EE} (hst : l.stackTraces = false) {h : PH} {m : Nat} (hM : ModS h m) (hnp : hp_F h m 15 = .int (nI 0)) {f : Nat → Int32} (hf : hp_I h (m + 14) = f) : CC l Z m_X11_poorest 2 0 0 [.ref m, .int (nI 0)] h (MOk (-1) m h) := by
  refine ee_entry hst (by decide +kernel) rfl rfl (by simp [Value.category]) (Nat.le_of_ble_eq_true rfl) ?_
  refine ww_lv (lv2 := [.ref m, .int (nI 0), UU, UU]) rfl ?_
  refine ww_aload_n dX11_poorest_0 rfl rfl ?_
  refine ww_iconst (v := nI 0) dX11_poorest_1 (by decide) ?_
  refine ww_pfI tyX11 0 dX11_poorest_2 hM.K0 rfl (by decide) inX11 tyX11_ok nmX11 wg_1240 rfl rfl ?_
  refine ww_aload_n dX11_poorest_5 rfl rfl ?_
  refine ww_iload_n dX11_poorest_6 rfl rfl ?_
  refine ww_iconst (v := nI 0) dX11_poorest_7 (by decide) ?_
  refine ww_iconst (v := nI 1) dX11_poorest_8 (by decide) ?_
  refine ww_cSr (M := m_X11_poorest) (pc := 9) (v := .int (nI 1)) (h1 := hp_sF h m 0 (.int (nI 0))) (st := [.ref m]) (bc := 0) (bs := 0) (c_M_within_t hst (nI 0) (nI 0) (nI 1) (by decide) (by decide) _) vv_X11_within dX11_poorest_9 wg_1601 rfl rfl rfl (Nat.le_of_ble_eq_true rfl) (Nat.le_of_ble_eq_true rfl) (Nat.le_of_ble_eq_true rfl) (Nat.le_of_ble_eq_true rfl) ?_
  refine ww_iconst (v := nI 1) dX11_poorest_12 (by decide) ?_
  refine ww_iconst (v := nI 1) dX11_poorest_13 (by decide) ?_
  refine ww_cVr (M := m_X11_poorest) (pc := 14) (v := .int (nI 1)) (h1 := hp_sF h m 0 (.int (nI 0))) (st := []) (bc := 0) (bs := 0) (c_M_may_t hst (h := hp_sF h m 0 (.int (nI 0))) (ModS.sF hM (by decide)) (hp_F_eq _ _ _ _) (nI 1) (nI 1)) vv_X11_may dX11_poorest_14 wg_1413 hM.K0 rfl rfl rfl rfl (Nat.le_of_ble_eq_true rfl) (Nat.le_of_ble_eq_true rfl) (Nat.le_of_ble_eq_true rfl) (Nat.le_of_ble_eq_true rfl) ?_
  refine ww_if_neN (tgt := 22) dX11_poorest_17 (by decide) (by omega) (fun c17 => ?_) (fun c17 => ?_)
  · refine ww_iconst (v := -1) dX11_poorest_22 (by decide) ?_
    refine ww_sti_n (lv2 := [.ref m, .int (nI 0), .int (-1), UU]) dX11_poorest_23 rfl rfl (by decide) rfl ?_
    refine ww_iconst (v := nI 0) dX11_poorest_24 (by decide) ?_
    refine ww_sti_n (lv2 := [.ref m, .int (nI 0), .int (-1), .int (nI 0)]) dX11_poorest_25 rfl rfl (by decide) rfl ?_
    refine ww_iload_n dX11_poorest_26 rfl rfl ?_
    refine ww_aload_n dX11_poorest_27 rfl rfl ?_
    refine ww_get 15 dX11_poorest_28 hM.K0 rfl (by decide) inX11 wg_1255 (hp_F_nj (by decide) hnp) ?_
    refine ww_icmp_geN (tgt := 70) dX11_poorest_31 (by decide) (by omega) (by omega) (fun c31 => ?_) (fun c31 => ?_)
    · refine ww_iload_n dX11_poorest_70 rfl rfl ?_
      refine ww_if_eqN (tgt := 79) dX11_poorest_71 (by decide) (by omega) (fun c71 => ?_) (fun c71 => ?_)
      · refine ww_iload_n dX11_poorest_79 rfl rfl ?_
        refine ww_goto (tgt := 93) dX11_poorest_80 (by decide) ?_
        exact ww_iret dX11_poorest_93 rfl ⟨rfl, (Same.rf.sF (SY0 m)), (hp_F_eq _ _ _ _)⟩
      · exact absurd c71 (by decide)
    · exact absurd c31 (by decide)
  · exact absurd c17 (by decide)
set_option maxHeartbeats 4000000 in
set_option maxRecDepth 100000 in
theorem c_M_poorest0 {l : Launch} {Z : EE} (hst : l.stackTraces = false) {h : PH} {m : Nat} (hM : ModS h m) {np : Nat} (hnp : hp_F h m 15 = .int (nI np)) (h6 : np ≤ 6) {f : Nat → Int32} (hf : hp_I h (m + 14) = f) (h1 : 1 ≤ np) : CC l Z m_X11_poorest 2 0 0 [.ref m, .int (nI 0)] h (MOk (nI (poF f (np - 1)).1) m h) := by
  refine ee_entry hst (by decide +kernel) rfl rfl (by simp [Value.category]) (Nat.le_of_ble_eq_true rfl) ?_
  refine ww_lv (lv2 := [.ref m, .int (nI 0), UU, UU]) rfl ?_
  refine ww_aload_n dX11_poorest_0 rfl rfl ?_
  refine ww_iconst (v := nI 0) dX11_poorest_1 (by decide) ?_
  refine ww_pfI tyX11 0 dX11_poorest_2 hM.K0 rfl (by decide) inX11 tyX11_ok nmX11 wg_1240 rfl rfl ?_
  refine ww_aload_n dX11_poorest_5 rfl rfl ?_
  refine ww_iload_n dX11_poorest_6 rfl rfl ?_
  refine ww_iconst (v := nI 0) dX11_poorest_7 (by decide) ?_
  refine ww_iconst (v := nI 1) dX11_poorest_8 (by decide) ?_
  refine ww_cSr (M := m_X11_poorest) (pc := 9) (v := .int (nI 1)) (h1 := hp_sF h m 0 (.int (nI 0))) (st := [.ref m]) (bc := 0) (bs := 0) (c_M_within_t hst (nI 0) (nI 0) (nI 1) (by decide) (by decide) _) vv_X11_within dX11_poorest_9 wg_1601 rfl rfl rfl (Nat.le_of_ble_eq_true rfl) (Nat.le_of_ble_eq_true rfl) (Nat.le_of_ble_eq_true rfl) (Nat.le_of_ble_eq_true rfl) ?_
  refine ww_iconst (v := nI 1) dX11_poorest_12 (by decide) ?_
  refine ww_iconst (v := nI 1) dX11_poorest_13 (by decide) ?_
  refine ww_cVr (M := m_X11_poorest) (pc := 14) (v := .int (nI 1)) (h1 := hp_sF h m 0 (.int (nI 0))) (st := []) (bc := 0) (bs := 0) (c_M_may_t hst (h := hp_sF h m 0 (.int (nI 0))) (ModS.sF hM (by decide)) (hp_F_eq _ _ _ _) (nI 1) (nI 1)) vv_X11_may dX11_poorest_14 wg_1413 hM.K0 rfl rfl rfl rfl (Nat.le_of_ble_eq_true rfl) (Nat.le_of_ble_eq_true rfl) (Nat.le_of_ble_eq_true rfl) (Nat.le_of_ble_eq_true rfl) ?_
  refine ww_if_neN (tgt := 22) dX11_poorest_17 (by decide) (by omega) (fun c17 => ?_) (fun c17 => ?_)
  · refine ww_iconst (v := -1) dX11_poorest_22 (by decide) ?_
    refine ww_sti_n (lv2 := [.ref m, .int (nI 0), .int (-1), UU]) dX11_poorest_23 rfl rfl (by decide) rfl ?_
    refine ww_iconst (v := nI 0) dX11_poorest_24 (by decide) ?_
    refine ww_sti_n (lv2 := [.ref m, .int (nI 0), .int (-1), .int (nI 0)]) dX11_poorest_25 rfl rfl (by decide) rfl ?_
    refine ww_iload_n dX11_poorest_26 rfl rfl ?_
    refine ww_aload_n dX11_poorest_27 rfl rfl ?_
    refine ww_get 15 dX11_poorest_28 hM.K0 rfl (by decide) inX11 wg_1255 (hp_F_nj (by decide) hnp) ?_
    refine ww_icmp_geN (tgt := 70) dX11_poorest_31 (by decide) (by omega) (by omega) (fun c31 => ?_) (fun c31 => ?_)
    · exfalso; omega
    · refine ww_iload_n dX11_poorest_34 rfl rfl ?_
      refine ww_iconst (v := -1) dX11_poorest_35 (by decide) ?_
      refine ww_icmp_eq (tgt := 62) dX11_poorest_36 (by decide) (fun c36 => ?_) (fun c36 => ?_)
      · refine ww_iload_n dX11_poorest_62 rfl rfl ?_
        refine ww_sti_n (lv2 := [.ref m, .int (nI 0), .int (nI 0), .int (nI 0)]) dX11_poorest_63 rfl rfl (by decide) rfl ?_
        refine ww_incN (c := 1) (lv2 := [.ref m, .int (nI 0), .int (nI 0), .int (nI 1)]) dX11_poorest_64 rfl rfl rfl (by decide) rfl ?_
        refine ww_goto (tgt := 26) dX11_poorest_67 (by decide) ?_
        refine l_M_poorest hst (h := hp_sF h m 0 (.int (nI 0))) (ModS.sF hM (by decide)) (hp_F_nj (by decide) hnp) h6 hf (nI 0) (np - 1) 0 (by omega) ?_
        obtain ⟨ho1, ho2⟩ := poF_ok f (np - 1)
        refine ww_iload_n dX11_poorest_70 rfl rfl ?_
        refine ww_if_eqN (tgt := 79) dX11_poorest_71 (by decide) (by omega) (fun c71 => ?_) (fun c71 => ?_)
        · refine ww_iload_n dX11_poorest_79 rfl rfl ?_
          refine ww_goto (tgt := 93) dX11_poorest_80 (by decide) ?_
          exact ww_iret dX11_poorest_93 rfl ⟨rfl, (Same.rf.sF (SY0 m)), (hp_F_eq _ _ _ _)⟩
        · exact absurd c71 (by decide)
      · exact absurd rfl c36
  · exact absurd c17 (by decide)
set_option maxHeartbeats 4000000 in
set_option maxRecDepth 100000 in
theorem c_M_poorest1_z {l : Launch} {Z : EE} (hst : l.stackTraces = false) {h : PH} {m : Nat} (hM : ModS h m) (hnp : hp_F h m 15 = .int (nI 0)) {f : Nat → Int32} (hf : hp_I h (m + 14) = f) : CC l Z m_X11_poorest 2 0 0 [.ref m, .int (nI 1)] h (MOk (-1) m h) := by
  refine ee_entry hst (by decide +kernel) rfl rfl (by simp [Value.category]) (Nat.le_of_ble_eq_true rfl) ?_
  refine ww_lv (lv2 := [.ref m, .int (nI 1), UU, UU]) rfl ?_
  refine ww_aload_n dX11_poorest_0 rfl rfl ?_
  refine ww_iconst (v := nI 0) dX11_poorest_1 (by decide) ?_
  refine ww_pfI tyX11 0 dX11_poorest_2 hM.K0 rfl (by decide) inX11 tyX11_ok nmX11 wg_1240 rfl rfl ?_
  refine ww_aload_n dX11_poorest_5 rfl rfl ?_
  refine ww_iload_n dX11_poorest_6 rfl rfl ?_
  refine ww_iconst (v := nI 0) dX11_poorest_7 (by decide) ?_
  refine ww_iconst (v := nI 1) dX11_poorest_8 (by decide) ?_
  refine ww_cSr (M := m_X11_poorest) (pc := 9) (v := .int (nI 1)) (h1 := hp_sF h m 0 (.int (nI 0))) (st := [.ref m]) (bc := 0) (bs := 0) (c_M_within_t hst (nI 1) (nI 0) (nI 1) (by decide) (by decide) _) vv_X11_within dX11_poorest_9 wg_1601 rfl rfl rfl (Nat.le_of_ble_eq_true rfl) (Nat.le_of_ble_eq_true rfl) (Nat.le_of_ble_eq_true rfl) (Nat.le_of_ble_eq_true rfl) ?_
  refine ww_iconst (v := nI 1) dX11_poorest_12 (by decide) ?_
  refine ww_iconst (v := nI 1) dX11_poorest_13 (by decide) ?_
  refine ww_cVr (M := m_X11_poorest) (pc := 14) (v := .int (nI 1)) (h1 := hp_sF h m 0 (.int (nI 0))) (st := []) (bc := 0) (bs := 0) (c_M_may_t hst (h := hp_sF h m 0 (.int (nI 0))) (ModS.sF hM (by decide)) (hp_F_eq _ _ _ _) (nI 1) (nI 1)) vv_X11_may dX11_poorest_14 wg_1413 hM.K0 rfl rfl rfl rfl (Nat.le_of_ble_eq_true rfl) (Nat.le_of_ble_eq_true rfl) (Nat.le_of_ble_eq_true rfl) (Nat.le_of_ble_eq_true rfl) ?_
  refine ww_if_neN (tgt := 22) dX11_poorest_17 (by decide) (by omega) (fun c17 => ?_) (fun c17 => ?_)
  · refine ww_iconst (v := -1) dX11_poorest_22 (by decide) ?_
    refine ww_sti_n (lv2 := [.ref m, .int (nI 1), .int (-1), UU]) dX11_poorest_23 rfl rfl (by decide) rfl ?_
    refine ww_iconst (v := nI 0) dX11_poorest_24 (by decide) ?_
    refine ww_sti_n (lv2 := [.ref m, .int (nI 1), .int (-1), .int (nI 0)]) dX11_poorest_25 rfl rfl (by decide) rfl ?_
    refine ww_iload_n dX11_poorest_26 rfl rfl ?_
    refine ww_aload_n dX11_poorest_27 rfl rfl ?_
    refine ww_get 15 dX11_poorest_28 hM.K0 rfl (by decide) inX11 wg_1255 (hp_F_nj (by decide) hnp) ?_
    refine ww_icmp_geN (tgt := 70) dX11_poorest_31 (by decide) (by omega) (by omega) (fun c31 => ?_) (fun c31 => ?_)
    · refine ww_iload_n dX11_poorest_70 rfl rfl ?_
      refine ww_if_eqN (tgt := 79) dX11_poorest_71 (by decide) (by omega) (fun c71 => ?_) (fun c71 => ?_)
      · exact absurd c71 (by decide)
      · refine ww_iload_n dX11_poorest_74 rfl rfl ?_
        refine ww_iconst (v := -1) dX11_poorest_75 (by decide) ?_
        refine ww_icmp_ne (tgt := 83) dX11_poorest_76 (by decide) (fun c76 => ?_) (fun c76 => ?_)
        · exact absurd rfl c76
        · refine ww_iload_n dX11_poorest_79 rfl rfl ?_
          refine ww_goto (tgt := 93) dX11_poorest_80 (by decide) ?_
          exact ww_iret dX11_poorest_93 rfl ⟨rfl, (Same.rf.sF (SY0 m)), (hp_F_eq _ _ _ _)⟩
    · exact absurd c31 (by decide)
  · exact absurd c17 (by decide)
set_option maxHeartbeats 4000000 in
set_option maxRecDepth 100000 in
theorem c_M_poorest1 {l : Launch} {Z : EE} (hst : l.stackTraces = false) {h : PH} {m : Nat} (hM : ModS h m) {np : Nat} (hnp : hp_F h m 15 = .int (nI np)) (h6 : np ≤ 6) {f : Nat → Int32} (hf : hp_I h (m + 14) = f) (h1 : 1 ≤ np) : CC l Z m_X11_poorest 2 0 0 [.ref m, .int (nI 1)] h (MOk ((poF f (np - 1)).2) m h) := by
  refine ee_entry hst (by decide +kernel) rfl rfl (by simp [Value.category]) (Nat.le_of_ble_eq_true rfl) ?_
  refine ww_lv (lv2 := [.ref m, .int (nI 1), UU, UU]) rfl ?_
  refine ww_aload_n dX11_poorest_0 rfl rfl ?_
  refine ww_iconst (v := nI 0) dX11_poorest_1 (by decide) ?_
  refine ww_pfI tyX11 0 dX11_poorest_2 hM.K0 rfl (by decide) inX11 tyX11_ok nmX11 wg_1240 rfl rfl ?_
  refine ww_aload_n dX11_poorest_5 rfl rfl ?_
  refine ww_iload_n dX11_poorest_6 rfl rfl ?_
  refine ww_iconst (v := nI 0) dX11_poorest_7 (by decide) ?_
  refine ww_iconst (v := nI 1) dX11_poorest_8 (by decide) ?_
  refine ww_cSr (M := m_X11_poorest) (pc := 9) (v := .int (nI 1)) (h1 := hp_sF h m 0 (.int (nI 0))) (st := [.ref m]) (bc := 0) (bs := 0) (c_M_within_t hst (nI 1) (nI 0) (nI 1) (by decide) (by decide) _) vv_X11_within dX11_poorest_9 wg_1601 rfl rfl rfl (Nat.le_of_ble_eq_true rfl) (Nat.le_of_ble_eq_true rfl) (Nat.le_of_ble_eq_true rfl) (Nat.le_of_ble_eq_true rfl) ?_
  refine ww_iconst (v := nI 1) dX11_poorest_12 (by decide) ?_
  refine ww_iconst (v := nI 1) dX11_poorest_13 (by decide) ?_
  refine ww_cVr (M := m_X11_poorest) (pc := 14) (v := .int (nI 1)) (h1 := hp_sF h m 0 (.int (nI 0))) (st := []) (bc := 0) (bs := 0) (c_M_may_t hst (h := hp_sF h m 0 (.int (nI 0))) (ModS.sF hM (by decide)) (hp_F_eq _ _ _ _) (nI 1) (nI 1)) vv_X11_may dX11_poorest_14 wg_1413 hM.K0 rfl rfl rfl rfl (Nat.le_of_ble_eq_true rfl) (Nat.le_of_ble_eq_true rfl) (Nat.le_of_ble_eq_true rfl) (Nat.le_of_ble_eq_true rfl) ?_
  refine ww_if_neN (tgt := 22) dX11_poorest_17 (by decide) (by omega) (fun c17 => ?_) (fun c17 => ?_)
  · refine ww_iconst (v := -1) dX11_poorest_22 (by decide) ?_
    refine ww_sti_n (lv2 := [.ref m, .int (nI 1), .int (-1), UU]) dX11_poorest_23 rfl rfl (by decide) rfl ?_
    refine ww_iconst (v := nI 0) dX11_poorest_24 (by decide) ?_
    refine ww_sti_n (lv2 := [.ref m, .int (nI 1), .int (-1), .int (nI 0)]) dX11_poorest_25 rfl rfl (by decide) rfl ?_
    refine ww_iload_n dX11_poorest_26 rfl rfl ?_
    refine ww_aload_n dX11_poorest_27 rfl rfl ?_
    refine ww_get 15 dX11_poorest_28 hM.K0 rfl (by decide) inX11 wg_1255 (hp_F_nj (by decide) hnp) ?_
    refine ww_icmp_geN (tgt := 70) dX11_poorest_31 (by decide) (by omega) (by omega) (fun c31 => ?_) (fun c31 => ?_)
    · exfalso; omega
    · refine ww_iload_n dX11_poorest_34 rfl rfl ?_
      refine ww_iconst (v := -1) dX11_poorest_35 (by decide) ?_
      refine ww_icmp_eq (tgt := 62) dX11_poorest_36 (by decide) (fun c36 => ?_) (fun c36 => ?_)
      · refine ww_iload_n dX11_poorest_62 rfl rfl ?_
        refine ww_sti_n (lv2 := [.ref m, .int (nI 1), .int (nI 0), .int (nI 0)]) dX11_poorest_63 rfl rfl (by decide) rfl ?_
        refine ww_incN (c := 1) (lv2 := [.ref m, .int (nI 1), .int (nI 0), .int (nI 1)]) dX11_poorest_64 rfl rfl rfl (by decide) rfl ?_
        refine ww_goto (tgt := 26) dX11_poorest_67 (by decide) ?_
        refine l_M_poorest hst (h := hp_sF h m 0 (.int (nI 0))) (ModS.sF hM (by decide)) (hp_F_nj (by decide) hnp) h6 hf (nI 1) (np - 1) 0 (by omega) ?_
        obtain ⟨ho1, ho2⟩ := poF_ok f (np - 1)
        refine ww_iload_n dX11_poorest_70 rfl rfl ?_
        refine ww_if_eqN (tgt := 79) dX11_poorest_71 (by decide) (by omega) (fun c71 => ?_) (fun c71 => ?_)
        · exact absurd c71 (by decide)
        · refine ww_iload_n dX11_poorest_74 rfl rfl ?_
          refine ww_iconst (v := -1) dX11_poorest_75 (by decide) ?_
          refine ww_icmp_ne (tgt := 83) dX11_poorest_76 (by decide) (fun c76 => ?_) (fun c76 => ?_)
          · refine ww_aload_n dX11_poorest_83 rfl rfl ?_
            refine ww_get 33 dX11_poorest_84 hM.K0 rfl (by decide) inX11 wg_1273 (hp_F_nj (by decide) hM.F14) ?_
            refine ww_sipush (v := nI 183) dX11_poorest_87 (by decide) ?_
            refine ww_iload_n dX11_poorest_90 rfl rfl ?_
            refine ww_iaddN dX11_poorest_91 ?_
            refine ww_ialdF dX11_poorest_92 hM.K14 hf (by omega) (by omega) ?_
            exact ww_iret dX11_poorest_93 rfl ⟨by rw [ho2], (Same.rf.sF (SY0 m)), (hp_F_eq _ _ _ _)⟩
          · exact absurd c76 (nI_m1 (by omega))
      · exact absurd rfl c36
  · exact absurd c17 (by decide)
set_option maxHeartbeats 4000000 in
set_option maxRecDepth 100000 in
theorem c_M_poorest_no0 {l : Launch} {Z : EE} (hst : l.stackTraces = false) {h : PH} {m : Nat} (hM : ModS h m) {np : Nat} (hnp : hp_F h m 15 = .int (nI np)) (h6 : np ≤ 6) {f : Nat → Int32} (hf : hp_I h (m + 14) = f) (w : Int32) (hout : outR 0 1 w) : CC l Z m_X11_poorest 2 0 0 [.ref m, .int w] h (MNo 1 1 m h) := by
  refine ee_entry hst (by decide +kernel) rfl rfl (by simp [Value.category]) (Nat.le_of_ble_eq_true rfl) ?_
  refine ww_lv (lv2 := [.ref m, .int w, UU, UU]) rfl ?_
  refine ww_aload_n dX11_poorest_0 rfl rfl ?_
  refine ww_iconst (v := nI 0) dX11_poorest_1 (by decide) ?_
  refine ww_pfI tyX11 0 dX11_poorest_2 hM.K0 rfl (by decide) inX11 tyX11_ok nmX11 wg_1240 rfl rfl ?_
  refine ww_aload_n dX11_poorest_5 rfl rfl ?_
  refine ww_iload_n dX11_poorest_6 rfl rfl ?_
  refine ww_iconst (v := nI 0) dX11_poorest_7 (by decide) ?_
  refine ww_iconst (v := nI 1) dX11_poorest_8 (by decide) ?_
  refine ww_cSr (M := m_X11_poorest) (pc := 9) (v := .int (nI 0)) (h1 := hp_sF h m 0 (.int (nI 0))) (st := [.ref m]) (bc := 0) (bs := 0) (c_M_within_f hst w (nI 0) (nI 1) hout _) vv_X11_within dX11_poorest_9 wg_1601 rfl rfl rfl (Nat.le_of_ble_eq_true rfl) (Nat.le_of_ble_eq_true rfl) (Nat.le_of_ble_eq_true rfl) (Nat.le_of_ble_eq_true rfl) ?_
  refine ww_iconst (v := nI 1) dX11_poorest_12 (by decide) ?_
  refine ww_iconst (v := nI 1) dX11_poorest_13 (by decide) ?_
  refine ww_cVr (M := m_X11_poorest) (pc := 14) (v := .int (nI 0)) (h1 := hp_sI (hp_sF (hp_sF h m 0 (.int (nI 0))) m 0 (.int (nI 1))) (m + 1) (upd (hp_I (hp_sF h m 0 (.int (nI 0))) (m + 1)) 1 (hp_I (hp_sF h m 0 (.int (nI 0))) (m + 1) 1 + nI 1))) (st := []) (bc := 0) (bs := 0) (c_M_may_f hst (h := hp_sF h m 0 (.int (nI 0))) (ModS.sF hM (by decide)) (hp_F_eq _ _ _ _) 1 1 (by decide) (by decide) (by decide)) vv_X11_may dX11_poorest_14 wg_1413 hM.K0 rfl rfl rfl rfl (Nat.le_of_ble_eq_true rfl) (Nat.le_of_ble_eq_true rfl) (Nat.le_of_ble_eq_true rfl) (Nat.le_of_ble_eq_true rfl) ?_
  refine ww_if_neN (tgt := 22) dX11_poorest_17 (by decide) (by omega) (fun c17 => ?_) (fun c17 => ?_)
  · exact absurd c17 (by decide)
  · refine ww_iconst (v := nI 0) dX11_poorest_20 (by decide) ?_
    exact ww_iret dX11_poorest_21 rfl ⟨rfl, (((Same.rf.sF (SY0 m)).sF (SY0 m)).sI (Or.inr rfl)), (hp_F_eq _ _ _ _), by rw [hp_I_eq]; rfl⟩
set_option maxHeartbeats 4000000 in
set_option maxRecDepth 100000 in
theorem c_M_status0 {l : Launch} {Z : EE} (hst : l.stackTraces = false) {h : PH} {m : Nat} (hM : ModS h m) : CC l Z m_X11_status 1 0 0 [.ref m, .int (nI 0)] h (MOk (hp_I h (m + 1) 0) m h) := by
  refine ee_entry hst (by decide +kernel) rfl rfl (by simp [Value.category]) (Nat.le_of_ble_eq_true rfl) ?_
  refine ww_lv (lv2 := [.ref m, .int (nI 0)]) rfl ?_
  refine ww_aload_n dX11_status_0 rfl rfl ?_
  refine ww_iconst (v := nI 0) dX11_status_1 (by decide) ?_
  refine ww_pfI tyX11 0 dX11_status_2 hM.K0 rfl (by decide) inX11 tyX11_ok nmX11 wg_1240 rfl rfl ?_
  refine ww_iload_n dX11_status_5 rfl rfl ?_
  refine ww_iconst (v := nI 0) dX11_status_6 (by decide) ?_
  refine ww_iconst (v := nI 1) dX11_status_7 (by decide) ?_
  refine ww_cSr (M := m_X11_status) (pc := 8) (v := .int (nI 1)) (h1 := hp_sF h m 0 (.int (nI 0))) (st := []) (bc := 0) (bs := 0) (c_M_within_t hst (nI 0) (nI 0) (nI 1) (by decide) (by decide) _) vv_X11_within dX11_status_8 wg_1601 rfl rfl rfl (Nat.le_of_ble_eq_true rfl) (Nat.le_of_ble_eq_true rfl) (Nat.le_of_ble_eq_true rfl) (Nat.le_of_ble_eq_true rfl) ?_
  refine ww_if_eqN (tgt := 23) dX11_status_11 (by decide) (by omega) (fun c11 => ?_) (fun c11 => ?_)
  · exact absurd c11 (by decide)
  · refine ww_aload_n dX11_status_14 rfl rfl ?_
    refine ww_get 1 dX11_status_15 hM.K0 rfl (by decide) inX11 wg_1241 (hp_F_nj (by decide) hM.F1) ?_
    refine ww_iload_n dX11_status_18 rfl rfl ?_
    refine ww_ialdF dX11_status_19 hM.K1 rfl (by omega) (by omega) ?_
    refine ww_goto (tgt := 24) dX11_status_20 (by decide) ?_
    exact ww_iret dX11_status_24 rfl ⟨rfl, (Same.rf.sF (SY0 m)), (hp_F_eq _ _ _ _)⟩
set_option maxHeartbeats 4000000 in
set_option maxRecDepth 100000 in
theorem c_M_status1 {l : Launch} {Z : EE} (hst : l.stackTraces = false) {h : PH} {m : Nat} (hM : ModS h m) : CC l Z m_X11_status 1 0 0 [.ref m, .int (nI 1)] h (MOk (hp_I h (m + 1) 1) m h) := by
  refine ee_entry hst (by decide +kernel) rfl rfl (by simp [Value.category]) (Nat.le_of_ble_eq_true rfl) ?_
  refine ww_lv (lv2 := [.ref m, .int (nI 1)]) rfl ?_
  refine ww_aload_n dX11_status_0 rfl rfl ?_
  refine ww_iconst (v := nI 0) dX11_status_1 (by decide) ?_
  refine ww_pfI tyX11 0 dX11_status_2 hM.K0 rfl (by decide) inX11 tyX11_ok nmX11 wg_1240 rfl rfl ?_
  refine ww_iload_n dX11_status_5 rfl rfl ?_
  refine ww_iconst (v := nI 0) dX11_status_6 (by decide) ?_
  refine ww_iconst (v := nI 1) dX11_status_7 (by decide) ?_
  refine ww_cSr (M := m_X11_status) (pc := 8) (v := .int (nI 1)) (h1 := hp_sF h m 0 (.int (nI 0))) (st := []) (bc := 0) (bs := 0) (c_M_within_t hst (nI 1) (nI 0) (nI 1) (by decide) (by decide) _) vv_X11_within dX11_status_8 wg_1601 rfl rfl rfl (Nat.le_of_ble_eq_true rfl) (Nat.le_of_ble_eq_true rfl) (Nat.le_of_ble_eq_true rfl) (Nat.le_of_ble_eq_true rfl) ?_
  refine ww_if_eqN (tgt := 23) dX11_status_11 (by decide) (by omega) (fun c11 => ?_) (fun c11 => ?_)
  · exact absurd c11 (by decide)
  · refine ww_aload_n dX11_status_14 rfl rfl ?_
    refine ww_get 1 dX11_status_15 hM.K0 rfl (by decide) inX11 wg_1241 (hp_F_nj (by decide) hM.F1) ?_
    refine ww_iload_n dX11_status_18 rfl rfl ?_
    refine ww_ialdF dX11_status_19 hM.K1 rfl (by omega) (by omega) ?_
    refine ww_goto (tgt := 24) dX11_status_20 (by decide) ?_
    exact ww_iret dX11_status_24 rfl ⟨rfl, (Same.rf.sF (SY0 m)), (hp_F_eq _ _ _ _)⟩
set_option maxHeartbeats 4000000 in
set_option maxRecDepth 100000 in
theorem c_M_status_x {l : Launch} {Z : EE} (hst : l.stackTraces = false) {h : PH} {m : Nat} (hM : ModS h m) (x : Int32) (hout : outR 0 1 x) : CC l Z m_X11_status 1 0 0 [.ref m, .int x] h (MOk (-1) m h) := by
  refine ee_entry hst (by decide +kernel) rfl rfl (by simp [Value.category]) (Nat.le_of_ble_eq_true rfl) ?_
  refine ww_lv (lv2 := [.ref m, .int x]) rfl ?_
  refine ww_aload_n dX11_status_0 rfl rfl ?_
  refine ww_iconst (v := nI 0) dX11_status_1 (by decide) ?_
  refine ww_pfI tyX11 0 dX11_status_2 hM.K0 rfl (by decide) inX11 tyX11_ok nmX11 wg_1240 rfl rfl ?_
  refine ww_iload_n dX11_status_5 rfl rfl ?_
  refine ww_iconst (v := nI 0) dX11_status_6 (by decide) ?_
  refine ww_iconst (v := nI 1) dX11_status_7 (by decide) ?_
  refine ww_cSr (M := m_X11_status) (pc := 8) (v := .int (nI 0)) (h1 := hp_sF h m 0 (.int (nI 0))) (st := []) (bc := 0) (bs := 0) (c_M_within_f hst x (nI 0) (nI 1) hout _) vv_X11_within dX11_status_8 wg_1601 rfl rfl rfl (Nat.le_of_ble_eq_true rfl) (Nat.le_of_ble_eq_true rfl) (Nat.le_of_ble_eq_true rfl) (Nat.le_of_ble_eq_true rfl) ?_
  refine ww_if_eqN (tgt := 23) dX11_status_11 (by decide) (by omega) (fun c11 => ?_) (fun c11 => ?_)
  · refine ww_iconst (v := -1) dX11_status_23 (by decide) ?_
    exact ww_iret dX11_status_24 rfl ⟨rfl, (Same.rf.sF (SY0 m)), (hp_F_eq _ _ _ _)⟩
  · exact absurd c11 (by decide)
set_option maxHeartbeats 4000000 in
set_option maxRecDepth 100000 in
theorem c_M_count0 {l : Launch} {Z : EE} (hst : l.stackTraces = false) {h : PH} {m : Nat} (hM : ModS h m) {im tp wk : Nat} (him : hp_F h m 52 = .int (nI im)) (htp : hp_F h m 2 = .int (nI tp)) (hwk : hp_F h m 28 = .int (nI wk)) : CC l Z m_X11_count 0 0 0 [.ref m, .int (nI 0)] h (MOk (nI im) m h) := by
  refine ee_entry hst (by decide +kernel) rfl rfl (by simp [Value.category]) (Nat.le_of_ble_eq_true rfl) ?_
  refine ww_lv (lv2 := [.ref m, .int (nI 0)]) rfl ?_
  refine ww_aload_n dX11_count_0 rfl rfl ?_
  refine ww_iconst (v := nI 0) dX11_count_1 (by decide) ?_
  refine ww_pfI tyX11 0 dX11_count_2 hM.K0 rfl (by decide) inX11 tyX11_ok nmX11 wg_1240 rfl rfl ?_
  refine ww_iload_n dX11_count_5 rfl rfl ?_
  refine ww_if_neN (tgt := 16) dX11_count_6 (by decide) (by omega) (fun c6 => ?_) (fun c6 => ?_)
  · exact absurd c6 (by decide)
  · refine ww_aload_n dX11_count_9 rfl rfl ?_
    refine ww_get 52 dX11_count_10 hM.K0 rfl (by decide) inX11 wg_1292 (hp_F_nj (by decide) him) ?_
    refine ww_goto (tgt := 41) dX11_count_13 (by decide) ?_
    exact ww_iret dX11_count_41 rfl ⟨rfl, (Same.rf.sF (SY0 m)), (hp_F_eq _ _ _ _)⟩
set_option maxHeartbeats 4000000 in
set_option maxRecDepth 100000 in
theorem c_M_count1 {l : Launch} {Z : EE} (hst : l.stackTraces = false) {h : PH} {m : Nat} (hM : ModS h m) {im tp wk : Nat} (him : hp_F h m 52 = .int (nI im)) (htp : hp_F h m 2 = .int (nI tp)) (hwk : hp_F h m 28 = .int (nI wk)) : CC l Z m_X11_count 0 0 0 [.ref m, .int (nI 1)] h (MOk (nI tp) m h) := by
  refine ee_entry hst (by decide +kernel) rfl rfl (by simp [Value.category]) (Nat.le_of_ble_eq_true rfl) ?_
  refine ww_lv (lv2 := [.ref m, .int (nI 1)]) rfl ?_
  refine ww_aload_n dX11_count_0 rfl rfl ?_
  refine ww_iconst (v := nI 0) dX11_count_1 (by decide) ?_
  refine ww_pfI tyX11 0 dX11_count_2 hM.K0 rfl (by decide) inX11 tyX11_ok nmX11 wg_1240 rfl rfl ?_
  refine ww_iload_n dX11_count_5 rfl rfl ?_
  refine ww_if_neN (tgt := 16) dX11_count_6 (by decide) (by omega) (fun c6 => ?_) (fun c6 => ?_)
  · refine ww_iload_n dX11_count_16 rfl rfl ?_
    refine ww_iconst (v := nI 1) dX11_count_17 (by decide) ?_
    refine ww_icmp_neN (tgt := 28) dX11_count_18 (by decide) (by omega) (by omega) (fun c18 => ?_) (fun c18 => ?_)
    · exact absurd c18 (by decide)
    · refine ww_aload_n dX11_count_21 rfl rfl ?_
      refine ww_get 2 dX11_count_22 hM.K0 rfl (by decide) inX11 wg_1242 (hp_F_nj (by decide) htp) ?_
      refine ww_goto (tgt := 41) dX11_count_25 (by decide) ?_
      exact ww_iret dX11_count_41 rfl ⟨rfl, (Same.rf.sF (SY0 m)), (hp_F_eq _ _ _ _)⟩
  · exact absurd c6 (by decide)
set_option maxHeartbeats 4000000 in
set_option maxRecDepth 100000 in
theorem c_M_count2 {l : Launch} {Z : EE} (hst : l.stackTraces = false) {h : PH} {m : Nat} (hM : ModS h m) {im tp wk : Nat} (him : hp_F h m 52 = .int (nI im)) (htp : hp_F h m 2 = .int (nI tp)) (hwk : hp_F h m 28 = .int (nI wk)) : CC l Z m_X11_count 0 0 0 [.ref m, .int (nI 2)] h (MOk (nI wk) m h) := by
  refine ee_entry hst (by decide +kernel) rfl rfl (by simp [Value.category]) (Nat.le_of_ble_eq_true rfl) ?_
  refine ww_lv (lv2 := [.ref m, .int (nI 2)]) rfl ?_
  refine ww_aload_n dX11_count_0 rfl rfl ?_
  refine ww_iconst (v := nI 0) dX11_count_1 (by decide) ?_
  refine ww_pfI tyX11 0 dX11_count_2 hM.K0 rfl (by decide) inX11 tyX11_ok nmX11 wg_1240 rfl rfl ?_
  refine ww_iload_n dX11_count_5 rfl rfl ?_
  refine ww_if_neN (tgt := 16) dX11_count_6 (by decide) (by omega) (fun c6 => ?_) (fun c6 => ?_)
  · refine ww_iload_n dX11_count_16 rfl rfl ?_
    refine ww_iconst (v := nI 1) dX11_count_17 (by decide) ?_
    refine ww_icmp_neN (tgt := 28) dX11_count_18 (by decide) (by omega) (by omega) (fun c18 => ?_) (fun c18 => ?_)
    · refine ww_iload_n dX11_count_28 rfl rfl ?_
      refine ww_iconst (v := nI 2) dX11_count_29 (by decide) ?_
      refine ww_icmp_neN (tgt := 40) dX11_count_30 (by decide) (by omega) (by omega) (fun c30 => ?_) (fun c30 => ?_)
      · exact absurd c30 (by decide)
      · refine ww_aload_n dX11_count_33 rfl rfl ?_
        refine ww_get 28 dX11_count_34 hM.K0 rfl (by decide) inX11 wg_1268 (hp_F_nj (by decide) hwk) ?_
        refine ww_goto (tgt := 41) dX11_count_37 (by decide) ?_
        exact ww_iret dX11_count_41 rfl ⟨rfl, (Same.rf.sF (SY0 m)), (hp_F_eq _ _ _ _)⟩
    · exact absurd c18 (by decide)
  · exact absurd c6 (by decide)
set_option maxHeartbeats 4000000 in
set_option maxRecDepth 100000 in
theorem c_M_count_x {l : Launch} {Z : EE} (hst : l.stackTraces = false) {h : PH} {m : Nat} (hM : ModS h m) {im tp wk : Nat} (him : hp_F h m 52 = .int (nI im)) (htp : hp_F h m 2 = .int (nI tp)) (hwk : hp_F h m 28 = .int (nI wk)) (x : Int32) (hout : outR 0 2 x) : CC l Z m_X11_count 0 0 0 [.ref m, .int x] h (MOk (-1) m h) := by
  refine ee_entry hst (by decide +kernel) rfl rfl (by simp [Value.category]) (Nat.le_of_ble_eq_true rfl) ?_
  refine ww_lv (lv2 := [.ref m, .int x]) rfl ?_
  refine ww_aload_n dX11_count_0 rfl rfl ?_
  refine ww_iconst (v := nI 0) dX11_count_1 (by decide) ?_
  refine ww_pfI tyX11 0 dX11_count_2 hM.K0 rfl (by decide) inX11 tyX11_ok nmX11 wg_1240 rfl rfl ?_
  refine ww_iload_n dX11_count_5 rfl rfl ?_
  refine ww_if_ne (tgt := 16) dX11_count_6 (by decide) (fun c6 => ?_) (fun c6 => ?_)
  · refine ww_iload_n dX11_count_16 rfl rfl ?_
    refine ww_iconst (v := nI 1) dX11_count_17 (by decide) ?_
    refine ww_icmp_ne (tgt := 28) dX11_count_18 (by decide) (fun c18 => ?_) (fun c18 => ?_)
    · refine ww_iload_n dX11_count_28 rfl rfl ?_
      refine ww_iconst (v := nI 2) dX11_count_29 (by decide) ?_
      refine ww_icmp_ne (tgt := 40) dX11_count_30 (by decide) (fun c30 => ?_) (fun c30 => ?_)
      · refine ww_iconst (v := -1) dX11_count_40 (by decide) ?_
        exact ww_iret dX11_count_41 rfl ⟨rfl, (Same.rf.sF (SY0 m)), (hp_F_eq _ _ _ _)⟩
      · exact absurd (by subst c30; decide : nI 0 ≤ x ∧ x ≤ nI 2) hout
    · exact absurd (by subst c18; decide : nI 0 ≤ x ∧ x ≤ nI 2) hout
  · exact absurd (by subst c6; decide : nI 0 ≤ x ∧ x ≤ nI 2) hout
set_option maxHeartbeats 4000000 in
set_option maxRecDepth 100000 in
theorem c_M_fault {l : Launch} {Z : EE} (hst : l.stackTraces = false) {h : PH} {m : Nat} (hM : ModS h m) {fl : Int32} (hfl : hp_F h m 8 = .int fl) : CC l Z m_X11_fault 0 0 0 [.ref m] h (MOk fl m h) := by
  refine ee_entry hst (by decide +kernel) rfl rfl (by simp [Value.category]) (Nat.le_of_ble_eq_true rfl) ?_
  refine ww_lv (lv2 := [.ref m]) rfl ?_
  refine ww_aload_n dX11_fault_0 rfl rfl ?_
  refine ww_iconst (v := nI 0) dX11_fault_1 (by decide) ?_
  refine ww_pfI tyX11 0 dX11_fault_2 hM.K0 rfl (by decide) inX11 tyX11_ok nmX11 wg_1240 rfl rfl ?_
  refine ww_aload_n dX11_fault_5 rfl rfl ?_
  refine ww_get 8 dX11_fault_6 hM.K0 rfl (by decide) inX11 wg_1248 (hp_F_nj (by decide) hfl) ?_
  exact ww_iret dX11_fault_9 rfl ⟨rfl, (Same.rf.sF (SY0 m)), (hp_F_eq _ _ _ _)⟩
