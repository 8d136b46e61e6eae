/-- the first such one, as a loop finds it upwards -/
def frI (q : Nat → Bool) : Nat → Int32
  | 0 => -1
  | k + 1 => if q k = true then (if frI q k = -1 then nI k else frI q k) else frI q k
theorem nI_m1 {k : Nat} (h : k < 2 ^ 31) : ¬ nI k = -1 := fun e => by
  have h1 := nI_pos h
  rw [e] at h1
  exact h1 (by decide)
theorem frI_fs (q : Nat → Bool) : ∀ (j k : Nat), k + j < 2 ^ 31 → frI q (k + j) = if frI q k = -1 then fsI q k j else frI q k
  | 0, k, _ => by
    by_cases e : frI q k = -1
    · rw [if_pos e]; exact e
    · rw [if_neg e]; rfl
  | j + 1, k, hk => by
    rw [show k + (j + 1) = (k + 1) + j by omega, frI_fs q j (k + 1) (by omega)]
    by_cases e2 : q k = true
    · by_cases e : frI q k = -1
      · have e3 : frI q (k + 1) = nI k := by simp [frI, e2, e]
        rw [e3, if_neg (nI_m1 (by omega)), if_pos e]
        simp [fsI, e2]
      · have e3 : frI q (k + 1) = frI q k := by simp [frI, e2, e]
        rw [e3, if_neg e, if_neg e]
    · have e3 : frI q (k + 1) = frI q k := by simp [frI, e2]
      rw [e3]
      simp [fsI, e2]
theorem frI_61 (q : Nat → Bool) : frI q 61 = fsI q 0 61 := by
  have h := frI_fs q 61 0 (by omega)
  rw [if_pos (show frI q 0 = -1 from rfl)] at h
  exact h
/-- the richest landlord of the first k: who, what he has -/
def llF (f : Nat → Int32) : Nat → Int32 × Int32
  | 0 => (-1, 0)
  | p + 1 => if (llF f p).2 < smI (fun n => if f n = nI p then f (61 + n) else 0) 61 then (nI p, smI (fun n => if f n = nI p then f (61 + n) else 0) 61) else llF f p
set_option maxHeartbeats 4000000 in
set_option maxRecDepth 100000 in
theorem l_M_person {l : Launch} {Z : EE} (hst : l.stackTraces = false) {h : PH} {m : Nat} (hM : ModS h m) {f : Nat → Int32} (hf : hp_I h (m + 14) = f) (q : Nat) (w : Int32) {Post : Res → PH → Prop} : ∀ (j k : Nat), k + j = 61 → WW l Z m_X11_person 2 0 0 111 [.ref m, .int (nI q), .int w, .int (nI (cnt (fun n => f n == nI q) 61)), .int (smI (fun n => if f n = nI q then f (61 + n) else 0) 61), .int (frI (fun n => f n == nI q) 61), .int (laI (fun n => f n == nI q) 61), .int (nI 61)] [] h Post → WW l Z m_X11_person 2 0 0 45 [.ref m, .int (nI q), .int w, .int (nI (cnt (fun n => f n == nI q) k)), .int (smI (fun n => if f n = nI q then f (61 + n) else 0) k), .int (frI (fun n => f n == nI q) k), .int (laI (fun n => f n == nI q) k), .int (nI k)] [] h Post := by
  intro j
  induction j with
  | zero =>
    intro k hk hexit
    have hk0 : k = 61 := by omega
    subst hk0
    refine ww_iload dX11_person_45 rfl ?_
    refine ww_bipush (v := nI 61) dX11_person_47 (by decide) ?_
    refine ww_icmp_geN (tgt := 111) dX11_person_49 (by decide) (by omega) (by omega) (fun c49 => ?_) (fun c49 => ?_)
    · exact hexit
    · exact absurd c49 (by decide)
  | succ j ih =>
    intro k hk hexit
    refine ww_iload dX11_person_45 rfl ?_
    refine ww_bipush (v := nI 61) dX11_person_47 (by decide) ?_
    refine ww_icmp_geN (tgt := 111) dX11_person_49 (by decide) (by omega) (by omega) (fun c49 => ?_) (fun c49 => ?_)
    · exfalso; omega
    · refine ww_aload_n dX11_person_52 rfl rfl ?_
      refine ww_get 33 dX11_person_53 hM.K0 rfl (by decide) inX11 wg_1273 hM.F14 ?_
      refine ww_iconst (v := nI 0) dX11_person_56 (by decide) ?_
      refine ww_iload dX11_person_57 rfl ?_
      refine ww_iadd0 dX11_person_59 ?_
      refine ww_ialdF dX11_person_60 hM.K14 hf (by omega) (by omega) ?_
      refine ww_iload_n dX11_person_61 rfl rfl ?_
      refine ww_icmp_eq (tgt := 68) dX11_person_62 (by decide) (fun c62 => ?_) (fun c62 => ?_)
      · refine ww_incN (c := 1) (lv2 := [.ref m, .int (nI q), .int w, .int (nI (cnt (fun n => f n == nI q) k + 1)), .int (smI (fun n => if f n = nI q then f (61 + n) else 0) k), .int (frI (fun n => f n == nI q) k), .int (laI (fun n => f n == nI q) k), .int (nI k)]) dX11_person_68 rfl rfl rfl (by decide) rfl ?_
        refine ww_iload dX11_person_71 rfl ?_
        refine ww_aload_n dX11_person_73 rfl rfl ?_
        refine ww_get 33 dX11_person_74 hM.K0 rfl (by decide) inX11 wg_1273 hM.F14 ?_
        refine ww_bipush (v := nI 61) dX11_person_77 (by decide) ?_
        refine ww_iload dX11_person_79 rfl ?_
        refine ww_iaddN dX11_person_81 ?_
        refine ww_ialdF dX11_person_82 hM.K14 hf (by omega) (by omega) ?_
        refine ww_iadd dX11_person_83 ?_
        refine ww_sti (lv2 := [.ref m, .int (nI q), .int w, .int (nI (cnt (fun n => f n == nI q) k + 1)), .int ((smI (fun n => if f n = nI q then f (61 + n) else 0) k) + (f (61 + k))), .int (frI (fun n => f n == nI q) k), .int (laI (fun n => f n == nI q) k), .int (nI k)]) dX11_person_84 rfl (by decide) rfl ?_
        refine ww_iload dX11_person_86 rfl ?_
        refine ww_iconst (v := -1) dX11_person_88 (by decide) ?_
        refine ww_icmp_ne (tgt := 97) dX11_person_89 (by decide) (fun c89 => ?_) (fun c89 => ?_)
        · refine ww_iload dX11_person_97 rfl ?_
          refine ww_sti (lv2 := [.ref m, .int (nI q), .int w, .int (nI (cnt (fun n => f n == nI q) k + 1)), .int ((smI (fun n => if f n = nI q then f (61 + n) else 0) k) + (f (61 + k))), .int (frI (fun n => f n == nI q) k), .int (laI (fun n => f n == nI q) k), .int (nI k)]) dX11_person_99 rfl (by decide) rfl ?_
          refine ww_iload dX11_person_101 rfl ?_
          refine ww_sti (lv2 := [.ref m, .int (nI q), .int w, .int (nI (cnt (fun n => f n == nI q) k + 1)), .int ((smI (fun n => if f n = nI q then f (61 + n) else 0) k) + (f (61 + k))), .int (frI (fun n => f n == nI q) k), .int (nI k), .int (nI k)]) dX11_person_103 rfl (by decide) rfl ?_
          refine ww_incN (c := 1) (lv2 := [.ref m, .int (nI q), .int w, .int (nI (cnt (fun n => f n == nI q) k + 1)), .int ((smI (fun n => if f n = nI q then f (61 + n) else 0) k) + (f (61 + k))), .int (frI (fun n => f n == nI q) k), .int (nI k), .int (nI (k + 1))]) dX11_person_105 rfl rfl rfl (by decide) rfl ?_
          refine ww_goto (tgt := 45) dX11_person_108 (by decide) ?_
          refine ww_lv (lv2 := [.ref m, .int (nI q), .int w, .int (nI (cnt (fun n => f n == nI q) (k + 1))), .int (smI (fun n => if f n = nI q then f (61 + n) else 0) (k + 1)), .int (frI (fun n => f n == nI q) (k + 1)), .int (laI (fun n => f n == nI q) (k + 1)), .int (nI (k + 1))]) (by first | (simp [cnt, smI, frI, laI, c62]; done) | (simp [cnt, smI, frI, laI, c62, c89])) ?_
          exact ih (k + 1) (by omega) hexit
        · refine ww_iload dX11_person_92 rfl ?_
          refine ww_goto (tgt := 99) dX11_person_94 (by decide) ?_
          refine ww_sti (lv2 := [.ref m, .int (nI q), .int w, .int (nI (cnt (fun n => f n == nI q) k + 1)), .int ((smI (fun n => if f n = nI q then f (61 + n) else 0) k) + (f (61 + k))), .int (nI k), .int (laI (fun n => f n == nI q) k), .int (nI k)]) dX11_person_99 rfl (by decide) rfl ?_
          refine ww_iload dX11_person_101 rfl ?_
          refine ww_sti (lv2 := [.ref m, .int (nI q), .int w, .int (nI (cnt (fun n => f n == nI q) k + 1)), .int ((smI (fun n => if f n = nI q then f (61 + n) else 0) k) + (f (61 + k))), .int (nI k), .int (nI k), .int (nI k)]) dX11_person_103 rfl (by decide) rfl ?_
          refine ww_incN (c := 1) (lv2 := [.ref m, .int (nI q), .int w, .int (nI (cnt (fun n => f n == nI q) k + 1)), .int ((smI (fun n => if f n = nI q then f (61 + n) else 0) k) + (f (61 + k))), .int (nI k), .int (nI k), .int (nI (k + 1))]) dX11_person_105 rfl rfl rfl (by decide) rfl ?_
          refine ww_goto (tgt := 45) dX11_person_108 (by decide) ?_
          refine ww_lv (lv2 := [.ref m, .int (nI q), .int w, .int (nI (cnt (fun n => f n == nI q) (k + 1))), .int (smI (fun n => if f n = nI q then f (61 + n) else 0) (k + 1)), .int (frI (fun n => f n == nI q) (k + 1)), .int (laI (fun n => f n == nI q) (k + 1)), .int (nI (k + 1))]) (by first | (simp [cnt, smI, frI, laI, c62]; done) | (simp [cnt, smI, frI, laI, c62, c89])) ?_
          exact ih (k + 1) (by omega) hexit
      · refine ww_goto (tgt := 105) dX11_person_65 (by decide) ?_
        refine ww_incN (c := 1) (lv2 := [.ref m, .int (nI q), .int w, .int (nI (cnt (fun n => f n == nI q) k)), .int (smI (fun n => if f n = nI q then f (61 + n) else 0) k), .int (frI (fun n => f n == nI q) k), .int (laI (fun n => f n == nI q) k), .int (nI (k + 1))]) dX11_person_105 rfl rfl rfl (by decide) rfl ?_
        refine ww_goto (tgt := 45) dX11_person_108 (by decide) ?_
        refine ww_lv (lv2 := [.ref m, .int (nI q), .int w, .int (nI (cnt (fun n => f n == nI q) (k + 1))), .int (smI (fun n => if f n = nI q then f (61 + n) else 0) (k + 1)), .int (frI (fun n => f n == nI q) (k + 1)), .int (laI (fun n => f n == nI q) (k + 1)), .int (nI (k + 1))]) (by first | (simp [cnt, smI, frI, laI, c62]; done) | (simp [cnt, smI, frI, laI, c62, c89])) ?_
        exact ih (k + 1) (by omega) hexit
set_option maxHeartbeats 4000000 in
set_option maxRecDepth 100000 in
theorem c_M_person0 {l : Launch} {Z : EE} (hst : l.stackTraces = false) {h : PH} {m : Nat} (hM : ModS h m) {np : Nat} (hnp : hp_F h m 15 = .int (nI np)) (h6 : np ≤ 6) {f : Nat → Int32} (hf : hp_I h (m + 14) = f) (q : Nat) (hq : q < np) : CC l Z m_X11_person 2 0 0 [.ref m, .int (nI q), .int (nI 0)] h (MOk (f (183 + q)) m h) := by
  refine ee_entry hst (by decide +kernel) rfl rfl (by simp [Value.category]) (Nat.le_of_ble_eq_true rfl) ?_
  refine ww_lv (lv2 := [.ref m, .int (nI q), .int (nI 0), UU, UU, UU, UU, UU]) rfl ?_
  have hx6 : np ≤ 6 := h6
  refine ww_aload_n dX11_person_0 rfl rfl ?_
  refine ww_iconst (v := nI 0) dX11_person_1 (by decide) ?_
  refine ww_pfI tyX11 0 dX11_person_2 hM.K0 rfl (by decide) inX11 tyX11_ok nmX11 wg_1240 rfl rfl ?_
  refine ww_aload_n dX11_person_5 rfl rfl ?_
  refine ww_iload_n dX11_person_6 rfl rfl ?_
  refine ww_iconst (v := nI 1) dX11_person_7 (by decide) ?_
  refine ww_cVr (M := m_X11_person) (pc := 8) (v := .int (nI 1)) (h1 := hp_sF h m 0 (.int (nI 0))) (st := []) (bc := 0) (bs := 0) (c_M_isPerson_t hst (h := hp_sF h m 0 (.int (nI 0))) (ModS.sF hM (by decide)) (hp_F_eq _ _ _ _) (hp_F_nj (by decide) hnp) h6 q hq) vv_X11_isPerson dX11_person_8 wg_1612 hM.K0 rfl rfl rfl rfl (Nat.le_of_ble_eq_true rfl) (Nat.le_of_ble_eq_true rfl) (Nat.le_of_ble_eq_true rfl) (Nat.le_of_ble_eq_true rfl) ?_
  refine ww_if_eqN (tgt := 29) dX11_person_11 (by decide) (by omega) (fun c11 => ?_) (fun c11 => ?_)
  · exact absurd c11 (by decide)
  · refine ww_aload_n dX11_person_14 rfl rfl ?_
    refine ww_iload_n dX11_person_15 rfl rfl ?_
    refine ww_iconst (v := nI 0) dX11_person_16 (by decide) ?_
    refine ww_iconst (v := nI 4) dX11_person_17 (by decide) ?_
    refine ww_cSr (M := m_X11_person) (pc := 18) (v := .int (nI 1)) (h1 := hp_sF h m 0 (.int (nI 0))) (st := [.ref m]) (bc := 0) (bs := 0) (c_M_within_t hst (nI 0) (nI 0) (nI 4) (by decide) (by decide) _) vv_X11_within dX11_person_18 wg_1601 rfl rfl rfl (Nat.le_of_ble_eq_true rfl) (Nat.le_of_ble_eq_true rfl) (Nat.le_of_ble_eq_true rfl) (Nat.le_of_ble_eq_true rfl) ?_
    refine ww_iconst (v := nI 2) dX11_person_21 (by decide) ?_
    refine ww_iconst (v := nI 1) dX11_person_22 (by decide) ?_
    refine ww_cVr (M := m_X11_person) (pc := 23) (v := .int (nI 1)) (h1 := hp_sF h m 0 (.int (nI 0))) (st := []) (bc := 0) (bs := 0) (c_M_may_t hst (h := hp_sF h m 0 (.int (nI 0))) (ModS.sF hM (by decide)) (hp_F_eq _ _ _ _) (nI 2) (nI 1)) vv_X11_may dX11_person_23 wg_1413 hM.K0 rfl rfl rfl rfl (Nat.le_of_ble_eq_true rfl) (Nat.le_of_ble_eq_true rfl) (Nat.le_of_ble_eq_true rfl) (Nat.le_of_ble_eq_true rfl) ?_
    refine ww_if_neN (tgt := 31) dX11_person_26 (by decide) (by omega) (fun c26 => ?_) (fun c26 => ?_)
    · refine ww_iconst (v := nI 0) dX11_person_31 (by decide) ?_
      refine ww_sti_n (lv2 := [.ref m, .int (nI q), .int (nI 0), .int (nI 0), UU, UU, UU, UU]) dX11_person_32 rfl rfl (by decide) rfl ?_
      refine ww_iconst (v := nI 0) dX11_person_33 (by decide) ?_
      refine ww_sti (lv2 := [.ref m, .int (nI q), .int (nI 0), .int (nI 0), .int (nI 0), UU, UU, UU]) dX11_person_34 rfl (by decide) rfl ?_
      refine ww_iconst (v := -1) dX11_person_36 (by decide) ?_
      refine ww_sti (lv2 := [.ref m, .int (nI q), .int (nI 0), .int (nI 0), .int (nI 0), .int (-1), UU, UU]) dX11_person_37 rfl (by decide) rfl ?_
      refine ww_iconst (v := -1) dX11_person_39 (by decide) ?_
      refine ww_sti (lv2 := [.ref m, .int (nI q), .int (nI 0), .int (nI 0), .int (nI 0), .int (-1), .int (-1), UU]) dX11_person_40 rfl (by decide) rfl ?_
      refine ww_iconst (v := nI 0) dX11_person_42 (by decide) ?_
      refine ww_sti (lv2 := [.ref m, .int (nI q), .int (nI 0), .int (nI 0), .int (nI 0), .int (-1), .int (-1), .int (nI 0)]) dX11_person_43 rfl (by decide) rfl ?_
      refine l_M_person hst (h := hp_sF h m 0 (.int (nI 0))) (ModS.sF hM (by decide)) hf q (nI 0) 61 0 rfl ?_
      refine ww_iload_n dX11_person_111 rfl rfl ?_
      refine ww_if_neN (tgt := 128) dX11_person_112 (by decide) (by omega) (fun c112 => ?_) (fun c112 => ?_)
      · exact absurd c112 (by decide)
      · refine ww_aload_n dX11_person_115 rfl rfl ?_
        refine ww_get 33 dX11_person_116 hM.K0 rfl (by decide) inX11 wg_1273 (hp_F_nj (by decide) hM.F14) ?_
        refine ww_sipush (v := nI 183) dX11_person_119 (by decide) ?_
        refine ww_iload_n dX11_person_122 rfl rfl ?_
        refine ww_iaddN dX11_person_123 ?_
        refine ww_ialdF dX11_person_124 hM.K14 hf (by omega) (by omega) ?_
        refine ww_goto (tgt := 159) dX11_person_125 (by decide) ?_
        exact ww_iret dX11_person_159 rfl ⟨rfl, (Same.rf.sF (SY0 m)), (hp_F_eq _ _ _ _)⟩
    · exact absurd c26 (by decide)
set_option maxHeartbeats 4000000 in
set_option maxRecDepth 100000 in
theorem c_M_person1 {l : Launch} {Z : EE} (hst : l.stackTraces = false) {h : PH} {m : Nat} (hM : ModS h m) {np : Nat} (hnp : hp_F h m 15 = .int (nI np)) (h6 : np ≤ 6) {f : Nat → Int32} (hf : hp_I h (m + 14) = f) (q : Nat) (hq : q < np) : CC l Z m_X11_person 2 0 0 [.ref m, .int (nI q), .int (nI 1)] h (MOk (nI (cnt (fun n => f n == nI q) 61)) m h) := by
  refine ee_entry hst (by decide +kernel) rfl rfl (by simp [Value.category]) (Nat.le_of_ble_eq_true rfl) ?_
  refine ww_lv (lv2 := [.ref m, .int (nI q), .int (nI 1), UU, UU, UU, UU, UU]) rfl ?_
  have hx6 : np ≤ 6 := h6
  refine ww_aload_n dX11_person_0 rfl rfl ?_
  refine ww_iconst (v := nI 0) dX11_person_1 (by decide) ?_
  refine ww_pfI tyX11 0 dX11_person_2 hM.K0 rfl (by decide) inX11 tyX11_ok nmX11 wg_1240 rfl rfl ?_
  refine ww_aload_n dX11_person_5 rfl rfl ?_
  refine ww_iload_n dX11_person_6 rfl rfl ?_
  refine ww_iconst (v := nI 1) dX11_person_7 (by decide) ?_
  refine ww_cVr (M := m_X11_person) (pc := 8) (v := .int (nI 1)) (h1 := hp_sF h m 0 (.int (nI 0))) (st := []) (bc := 0) (bs := 0) (c_M_isPerson_t hst (h := hp_sF h m 0 (.int (nI 0))) (ModS.sF hM (by decide)) (hp_F_eq _ _ _ _) (hp_F_nj (by decide) hnp) h6 q hq) vv_X11_isPerson dX11_person_8 wg_1612 hM.K0 rfl rfl rfl rfl (Nat.le_of_ble_eq_true rfl) (Nat.le_of_ble_eq_true rfl) (Nat.le_of_ble_eq_true rfl) (Nat.le_of_ble_eq_true rfl) ?_
  refine ww_if_eqN (tgt := 29) dX11_person_11 (by decide) (by omega) (fun c11 => ?_) (fun c11 => ?_)
  · exact absurd c11 (by decide)
  · refine ww_aload_n dX11_person_14 rfl rfl ?_
    refine ww_iload_n dX11_person_15 rfl rfl ?_
    refine ww_iconst (v := nI 0) dX11_person_16 (by decide) ?_
    refine ww_iconst (v := nI 4) dX11_person_17 (by decide) ?_
    refine ww_cSr (M := m_X11_person) (pc := 18) (v := .int (nI 1)) (h1 := hp_sF h m 0 (.int (nI 0))) (st := [.ref m]) (bc := 0) (bs := 0) (c_M_within_t hst (nI 1) (nI 0) (nI 4) (by decide) (by decide) _) vv_X11_within dX11_person_18 wg_1601 rfl rfl rfl (Nat.le_of_ble_eq_true rfl) (Nat.le_of_ble_eq_true rfl) (Nat.le_of_ble_eq_true rfl) (Nat.le_of_ble_eq_true rfl) ?_
    refine ww_iconst (v := nI 2) dX11_person_21 (by decide) ?_
    refine ww_iconst (v := nI 1) dX11_person_22 (by decide) ?_
    refine ww_cVr (M := m_X11_person) (pc := 23) (v := .int (nI 1)) (h1 := hp_sF h m 0 (.int (nI 0))) (st := []) (bc := 0) (bs := 0) (c_M_may_t hst (h := hp_sF h m 0 (.int (nI 0))) (ModS.sF hM (by decide)) (hp_F_eq _ _ _ _) (nI 2) (nI 1)) vv_X11_may dX11_person_23 wg_1413 hM.K0 rfl rfl rfl rfl (Nat.le_of_ble_eq_true rfl) (Nat.le_of_ble_eq_true rfl) (Nat.le_of_ble_eq_true rfl) (Nat.le_of_ble_eq_true rfl) ?_
    refine ww_if_neN (tgt := 31) dX11_person_26 (by decide) (by omega) (fun c26 => ?_) (fun c26 => ?_)
    · refine ww_iconst (v := nI 0) dX11_person_31 (by decide) ?_
      refine ww_sti_n (lv2 := [.ref m, .int (nI q), .int (nI 1), .int (nI 0), UU, UU, UU, UU]) dX11_person_32 rfl rfl (by decide) rfl ?_
      refine ww_iconst (v := nI 0) dX11_person_33 (by decide) ?_
      refine ww_sti (lv2 := [.ref m, .int (nI q), .int (nI 1), .int (nI 0), .int (nI 0), UU, UU, UU]) dX11_person_34 rfl (by decide) rfl ?_
      refine ww_iconst (v := -1) dX11_person_36 (by decide) ?_
      refine ww_sti (lv2 := [.ref m, .int (nI q), .int (nI 1), .int (nI 0), .int (nI 0), .int (-1), UU, UU]) dX11_person_37 rfl (by decide) rfl ?_
      refine ww_iconst (v := -1) dX11_person_39 (by decide) ?_
      refine ww_sti (lv2 := [.ref m, .int (nI q), .int (nI 1), .int (nI 0), .int (nI 0), .int (-1), .int (-1), UU]) dX11_person_40 rfl (by decide) rfl ?_
      refine ww_iconst (v := nI 0) dX11_person_42 (by decide) ?_
      refine ww_sti (lv2 := [.ref m, .int (nI q), .int (nI 1), .int (nI 0), .int (nI 0), .int (-1), .int (-1), .int (nI 0)]) dX11_person_43 rfl (by decide) rfl ?_
      refine l_M_person hst (h := hp_sF h m 0 (.int (nI 0))) (ModS.sF hM (by decide)) hf q (nI 1) 61 0 rfl ?_
      refine ww_iload_n dX11_person_111 rfl rfl ?_
      refine ww_if_neN (tgt := 128) dX11_person_112 (by decide) (by omega) (fun c112 => ?_) (fun c112 => ?_)
      · refine ww_iload_n dX11_person_128 rfl rfl ?_
        refine ww_iconst (v := nI 1) dX11_person_129 (by decide) ?_
        refine ww_icmp_neN (tgt := 137) dX11_person_130 (by decide) (by omega) (by omega) (fun c130 => ?_) (fun c130 => ?_)
        · exact absurd c130 (by decide)
        · refine ww_iload_n dX11_person_133 rfl rfl ?_
          refine ww_goto (tgt := 159) dX11_person_134 (by decide) ?_
          exact ww_iret dX11_person_159 rfl ⟨rfl, (Same.rf.sF (SY0 m)), (hp_F_eq _ _ _ _)⟩
      · exact absurd c112 (by decide)
    · exact absurd c26 (by decide)
set_option maxHeartbeats 4000000 in
set_option maxRecDepth 100000 in
theorem c_M_person2 {l : Launch} {Z : EE} (hst : l.stackTraces = false) {h : PH} {m : Nat} (hM : ModS h m) {np : Nat} (hnp : hp_F h m 15 = .int (nI np)) (h6 : np ≤ 6) {f : Nat → Int32} (hf : hp_I h (m + 14) = f) (q : Nat) (hq : q < np) : CC l Z m_X11_person 2 0 0 [.ref m, .int (nI q), .int (nI 2)] h (MOk (smI (fun n => if f n = nI q then f (61 + n) else 0) 61) m h) := by
  refine ee_entry hst (by decide +kernel) rfl rfl (by simp [Value.category]) (Nat.le_of_ble_eq_true rfl) ?_
  refine ww_lv (lv2 := [.ref m, .int (nI q), .int (nI 2), UU, UU, UU, UU, UU]) rfl ?_
  have hx6 : np ≤ 6 := h6
  refine ww_aload_n dX11_person_0 rfl rfl ?_
  refine ww_iconst (v := nI 0) dX11_person_1 (by decide) ?_
  refine ww_pfI tyX11 0 dX11_person_2 hM.K0 rfl (by decide) inX11 tyX11_ok nmX11 wg_1240 rfl rfl ?_
  refine ww_aload_n dX11_person_5 rfl rfl ?_
  refine ww_iload_n dX11_person_6 rfl rfl ?_
  refine ww_iconst (v := nI 1) dX11_person_7 (by decide) ?_
  refine ww_cVr (M := m_X11_person) (pc := 8) (v := .int (nI 1)) (h1 := hp_sF h m 0 (.int (nI 0))) (st := []) (bc := 0) (bs := 0) (c_M_isPerson_t hst (h := hp_sF h m 0 (.int (nI 0))) (ModS.sF hM (by decide)) (hp_F_eq _ _ _ _) (hp_F_nj (by decide) hnp) h6 q hq) vv_X11_isPerson dX11_person_8 wg_1612 hM.K0 rfl rfl rfl rfl (Nat.le_of_ble_eq_true rfl) (Nat.le_of_ble_eq_true rfl) (Nat.le_of_ble_eq_true rfl) (Nat.le_of_ble_eq_true rfl) ?_
  refine ww_if_eqN (tgt := 29) dX11_person_11 (by decide) (by omega) (fun c11 => ?_) (fun c11 => ?_)
  · exact absurd c11 (by decide)
  · refine ww_aload_n dX11_person_14 rfl rfl ?_
    refine ww_iload_n dX11_person_15 rfl rfl ?_
    refine ww_iconst (v := nI 0) dX11_person_16 (by decide) ?_
    refine ww_iconst (v := nI 4) dX11_person_17 (by decide) ?_
    refine ww_cSr (M := m_X11_person) (pc := 18) (v := .int (nI 1)) (h1 := hp_sF h m 0 (.int (nI 0))) (st := [.ref m]) (bc := 0) (bs := 0) (c_M_within_t hst (nI 2) (nI 0) (nI 4) (by decide) (by decide) _) vv_X11_within dX11_person_18 wg_1601 rfl rfl rfl (Nat.le_of_ble_eq_true rfl) (Nat.le_of_ble_eq_true rfl) (Nat.le_of_ble_eq_true rfl) (Nat.le_of_ble_eq_true rfl) ?_
    refine ww_iconst (v := nI 2) dX11_person_21 (by decide) ?_
    refine ww_iconst (v := nI 1) dX11_person_22 (by decide) ?_
    refine ww_cVr (M := m_X11_person) (pc := 23) (v := .int (nI 1)) (h1 := hp_sF h m 0 (.int (nI 0))) (st := []) (bc := 0) (bs := 0) (c_M_may_t hst (h := hp_sF h m 0 (.int (nI 0))) (ModS.sF hM (by decide)) (hp_F_eq _ _ _ _) (nI 2) (nI 1)) vv_X11_may dX11_person_23 wg_1413 hM.K0 rfl rfl rfl rfl (Nat.le_of_ble_eq_true rfl) (Nat.le_of_ble_eq_true rfl) (Nat.le_of_ble_eq_true rfl) (Nat.le_of_ble_eq_true rfl) ?_
    refine ww_if_neN (tgt := 31) dX11_person_26 (by decide) (by omega) (fun c26 => ?_) (fun c26 => ?_)
    · refine ww_iconst (v := nI 0) dX11_person_31 (by decide) ?_
      refine ww_sti_n (lv2 := [.ref m, .int (nI q), .int (nI 2), .int (nI 0), UU, UU, UU, UU]) dX11_person_32 rfl rfl (by decide) rfl ?_
      refine ww_iconst (v := nI 0) dX11_person_33 (by decide) ?_
      refine ww_sti (lv2 := [.ref m, .int (nI q), .int (nI 2), .int (nI 0), .int (nI 0), UU, UU, UU]) dX11_person_34 rfl (by decide) rfl ?_
      refine ww_iconst (v := -1) dX11_person_36 (by decide) ?_
      refine ww_sti (lv2 := [.ref m, .int (nI q), .int (nI 2), .int (nI 0), .int (nI 0), .int (-1), UU, UU]) dX11_person_37 rfl (by decide) rfl ?_
      refine ww_iconst (v := -1) dX11_person_39 (by decide) ?_
      refine ww_sti (lv2 := [.ref m, .int (nI q), .int (nI 2), .int (nI 0), .int (nI 0), .int (-1), .int (-1), UU]) dX11_person_40 rfl (by decide) rfl ?_
      refine ww_iconst (v := nI 0) dX11_person_42 (by decide) ?_
      refine ww_sti (lv2 := [.ref m, .int (nI q), .int (nI 2), .int (nI 0), .int (nI 0), .int (-1), .int (-1), .int (nI 0)]) dX11_person_43 rfl (by decide) rfl ?_
      refine l_M_person hst (h := hp_sF h m 0 (.int (nI 0))) (ModS.sF hM (by decide)) hf q (nI 2) 61 0 rfl ?_
      refine ww_iload_n dX11_person_111 rfl rfl ?_
      refine ww_if_neN (tgt := 128) dX11_person_112 (by decide) (by omega) (fun c112 => ?_) (fun c112 => ?_)
      · refine ww_iload_n dX11_person_128 rfl rfl ?_
        refine ww_iconst (v := nI 1) dX11_person_129 (by decide) ?_
        refine ww_icmp_neN (tgt := 137) dX11_person_130 (by decide) (by omega) (by omega) (fun c130 => ?_) (fun c130 => ?_)
        · refine ww_iload_n dX11_person_137 rfl rfl ?_
          refine ww_iconst (v := nI 2) dX11_person_138 (by decide) ?_
          refine ww_icmp_neN (tgt := 147) dX11_person_139 (by decide) (by omega) (by omega) (fun c139 => ?_) (fun c139 => ?_)
          · exact absurd c139 (by decide)
          · refine ww_iload dX11_person_142 rfl ?_
            refine ww_goto (tgt := 159) dX11_person_144 (by decide) ?_
            exact ww_iret dX11_person_159 rfl ⟨rfl, (Same.rf.sF (SY0 m)), (hp_F_eq _ _ _ _)⟩
        · exact absurd c130 (by decide)
      · exact absurd c112 (by decide)
    · exact absurd c26 (by decide)
set_option maxHeartbeats 4000000 in
set_option maxRecDepth 100000 in
theorem c_M_person3 {l : Launch} {Z : EE} (hst : l.stackTraces = false) {h : PH} {m : Nat} (hM : ModS h m) {np : Nat} (hnp : hp_F h m 15 = .int (nI np)) (h6 : np ≤ 6) {f : Nat → Int32} (hf : hp_I h (m + 14) = f) (q : Nat) (hq : q < np) : CC l Z m_X11_person 2 0 0 [.ref m, .int (nI q), .int (nI 3)] h (MOk (fsI (fun n => f n == nI q) 0 61) m h) := by
  refine ee_entry hst (by decide +kernel) rfl rfl (by simp [Value.category]) (Nat.le_of_ble_eq_true rfl) ?_
  refine ww_lv (lv2 := [.ref m, .int (nI q), .int (nI 3), UU, UU, UU, UU, UU]) rfl ?_
  have hx6 : np ≤ 6 := h6
  refine ww_aload_n dX11_person_0 rfl rfl ?_
  refine ww_iconst (v := nI 0) dX11_person_1 (by decide) ?_
  refine ww_pfI tyX11 0 dX11_person_2 hM.K0 rfl (by decide) inX11 tyX11_ok nmX11 wg_1240 rfl rfl ?_
  refine ww_aload_n dX11_person_5 rfl rfl ?_
  refine ww_iload_n dX11_person_6 rfl rfl ?_
  refine ww_iconst (v := nI 1) dX11_person_7 (by decide) ?_
  refine ww_cVr (M := m_X11_person) (pc := 8) (v := .int (nI 1)) (h1 := hp_sF h m 0 (.int (nI 0))) (st := []) (bc := 0) (bs := 0) (c_M_isPerson_t hst (h := hp_sF h m 0 (.int (nI 0))) (ModS.sF hM (by decide)) (hp_F_eq _ _ _ _) (hp_F_nj (by decide) hnp) h6 q hq) vv_X11_isPerson dX11_person_8 wg_1612 hM.K0 rfl rfl rfl rfl (Nat.le_of_ble_eq_true rfl) (Nat.le_of_ble_eq_true rfl) (Nat.le_of_ble_eq_true rfl) (Nat.le_of_ble_eq_true rfl) ?_
  refine ww_if_eqN (tgt := 29) dX11_person_11 (by decide) (by omega) (fun c11 => ?_) (fun c11 => ?_)
  · exact absurd c11 (by decide)
  · refine ww_aload_n dX11_person_14 rfl rfl ?_
    refine ww_iload_n dX11_person_15 rfl rfl ?_
    refine ww_iconst (v := nI 0) dX11_person_16 (by decide) ?_
    refine ww_iconst (v := nI 4) dX11_person_17 (by decide) ?_
    refine ww_cSr (M := m_X11_person) (pc := 18) (v := .int (nI 1)) (h1 := hp_sF h m 0 (.int (nI 0))) (st := [.ref m]) (bc := 0) (bs := 0) (c_M_within_t hst (nI 3) (nI 0) (nI 4) (by decide) (by decide) _) vv_X11_within dX11_person_18 wg_1601 rfl rfl rfl (Nat.le_of_ble_eq_true rfl) (Nat.le_of_ble_eq_true rfl) (Nat.le_of_ble_eq_true rfl) (Nat.le_of_ble_eq_true rfl) ?_
    refine ww_iconst (v := nI 2) dX11_person_21 (by decide) ?_
    refine ww_iconst (v := nI 1) dX11_person_22 (by decide) ?_
    refine ww_cVr (M := m_X11_person) (pc := 23) (v := .int (nI 1)) (h1 := hp_sF h m 0 (.int (nI 0))) (st := []) (bc := 0) (bs := 0) (c_M_may_t hst (h := hp_sF h m 0 (.int (nI 0))) (ModS.sF hM (by decide)) (hp_F_eq _ _ _ _) (nI 2) (nI 1)) vv_X11_may dX11_person_23 wg_1413 hM.K0 rfl rfl rfl rfl (Nat.le_of_ble_eq_true rfl) (Nat.le_of_ble_eq_true rfl) (Nat.le_of_ble_eq_true rfl) (Nat.le_of_ble_eq_true rfl) ?_
    refine ww_if_neN (tgt := 31) dX11_person_26 (by decide) (by omega) (fun c26 => ?_) (fun c26 => ?_)
    · refine ww_iconst (v := nI 0) dX11_person_31 (by decide) ?_
      refine ww_sti_n (lv2 := [.ref m, .int (nI q), .int (nI 3), .int (nI 0), UU, UU, UU, UU]) dX11_person_32 rfl rfl (by decide) rfl ?_
      refine ww_iconst (v := nI 0) dX11_person_33 (by decide) ?_
      refine ww_sti (lv2 := [.ref m, .int (nI q), .int (nI 3), .int (nI 0), .int (nI 0), UU, UU, UU]) dX11_person_34 rfl (by decide) rfl ?_
      refine ww_iconst (v := -1) dX11_person_36 (by decide) ?_
      refine ww_sti (lv2 := [.ref m, .int (nI q), .int (nI 3), .int (nI 0), .int (nI 0), .int (-1), UU, UU]) dX11_person_37 rfl (by decide) rfl ?_
      refine ww_iconst (v := -1) dX11_person_39 (by decide) ?_
      refine ww_sti (lv2 := [.ref m, .int (nI q), .int (nI 3), .int (nI 0), .int (nI 0), .int (-1), .int (-1), UU]) dX11_person_40 rfl (by decide) rfl ?_
      refine ww_iconst (v := nI 0) dX11_person_42 (by decide) ?_
      refine ww_sti (lv2 := [.ref m, .int (nI q), .int (nI 3), .int (nI 0), .int (nI 0), .int (-1), .int (-1), .int (nI 0)]) dX11_person_43 rfl (by decide) rfl ?_
      refine l_M_person hst (h := hp_sF h m 0 (.int (nI 0))) (ModS.sF hM (by decide)) hf q (nI 3) 61 0 rfl ?_
      refine ww_iload_n dX11_person_111 rfl rfl ?_
      refine ww_if_neN (tgt := 128) dX11_person_112 (by decide) (by omega) (fun c112 => ?_) (fun c112 => ?_)
      · refine ww_iload_n dX11_person_128 rfl rfl ?_
        refine ww_iconst (v := nI 1) dX11_person_129 (by decide) ?_
        refine ww_icmp_neN (tgt := 137) dX11_person_130 (by decide) (by omega) (by omega) (fun c130 => ?_) (fun c130 => ?_)
        · refine ww_iload_n dX11_person_137 rfl rfl ?_
          refine ww_iconst (v := nI 2) dX11_person_138 (by decide) ?_
          refine ww_icmp_neN (tgt := 147) dX11_person_139 (by decide) (by omega) (by omega) (fun c139 => ?_) (fun c139 => ?_)
          · refine ww_iload_n dX11_person_147 rfl rfl ?_
            refine ww_iconst (v := nI 3) dX11_person_148 (by decide) ?_
            refine ww_icmp_neN (tgt := 157) dX11_person_149 (by decide) (by omega) (by omega) (fun c149 => ?_) (fun c149 => ?_)
            · exact absurd c149 (by decide)
            · refine ww_iload dX11_person_152 rfl ?_
              refine ww_goto (tgt := 159) dX11_person_154 (by decide) ?_
              exact ww_iret dX11_person_159 rfl ⟨by rw [frI_61], (Same.rf.sF (SY0 m)), (hp_F_eq _ _ _ _)⟩
          · exact absurd c139 (by decide)
        · exact absurd c130 (by decide)
      · exact absurd c112 (by decide)
    · exact absurd c26 (by decide)
set_option maxHeartbeats 4000000 in
set_option maxRecDepth 100000 in
theorem c_M_person4 {l : Launch} {Z : EE} (hst : l.stackTraces = false) {h : PH} {m : Nat} (hM : ModS h m) {np : Nat} (hnp : hp_F h m 15 = .int (nI np)) (h6 : np ≤ 6) {f : Nat → Int32} (hf : hp_I h (m + 14) = f) (q : Nat) (hq : q < np) : CC l Z m_X11_person 2 0 0 [.ref m, .int (nI q), .int (nI 4)] h (MOk (laI (fun n => f n == nI q) 61) m h) := by
  refine ee_entry hst (by decide +kernel) rfl rfl (by simp [Value.category]) (Nat.le_of_ble_eq_true rfl) ?_
  refine ww_lv (lv2 := [.ref m, .int (nI q), .int (nI 4), UU, UU, UU, UU, UU]) rfl ?_
  have hx6 : np ≤ 6 := h6
  refine ww_aload_n dX11_person_0 rfl rfl ?_
  refine ww_iconst (v := nI 0) dX11_person_1 (by decide) ?_
  refine ww_pfI tyX11 0 dX11_person_2 hM.K0 rfl (by decide) inX11 tyX11_ok nmX11 wg_1240 rfl rfl ?_
  refine ww_aload_n dX11_person_5 rfl rfl ?_
  refine ww_iload_n dX11_person_6 rfl rfl ?_
  refine ww_iconst (v := nI 1) dX11_person_7 (by decide) ?_
  refine ww_cVr (M := m_X11_person) (pc := 8) (v := .int (nI 1)) (h1 := hp_sF h m 0 (.int (nI 0))) (st := []) (bc := 0) (bs := 0) (c_M_isPerson_t hst (h := hp_sF h m 0 (.int (nI 0))) (ModS.sF hM (by decide)) (hp_F_eq _ _ _ _) (hp_F_nj (by decide) hnp) h6 q hq) vv_X11_isPerson dX11_person_8 wg_1612 hM.K0 rfl rfl rfl rfl (Nat.le_of_ble_eq_true rfl) (Nat.le_of_ble_eq_true rfl) (Nat.le_of_ble_eq_true rfl) (Nat.le_of_ble_eq_true rfl) ?_
  refine ww_if_eqN (tgt := 29) dX11_person_11 (by decide) (by omega) (fun c11 => ?_) (fun c11 => ?_)
  · exact absurd c11 (by decide)
  · refine ww_aload_n dX11_person_14 rfl rfl ?_
    refine ww_iload_n dX11_person_15 rfl rfl ?_
    refine ww_iconst (v := nI 0) dX11_person_16 (by decide) ?_
    refine ww_iconst (v := nI 4) dX11_person_17 (by decide) ?_
    refine ww_cSr (M := m_X11_person) (pc := 18) (v := .int (nI 1)) (h1 := hp_sF h m 0 (.int (nI 0))) (st := [.ref m]) (bc := 0) (bs := 0) (c_M_within_t hst (nI 4) (nI 0) (nI 4) (by decide) (by decide) _) vv_X11_within dX11_person_18 wg_1601 rfl rfl rfl (Nat.le_of_ble_eq_true rfl) (Nat.le_of_ble_eq_true rfl) (Nat.le_of_ble_eq_true rfl) (Nat.le_of_ble_eq_true rfl) ?_
    refine ww_iconst (v := nI 2) dX11_person_21 (by decide) ?_
    refine ww_iconst (v := nI 1) dX11_person_22 (by decide) ?_
    refine ww_cVr (M := m_X11_person) (pc := 23) (v := .int (nI 1)) (h1 := hp_sF h m 0 (.int (nI 0))) (st := []) (bc := 0) (bs := 0) (c_M_may_t hst (h := hp_sF h m 0 (.int (nI 0))) (ModS.sF hM (by decide)) (hp_F_eq _ _ _ _) (nI 2) (nI 1)) vv_X11_may dX11_person_23 wg_1413 hM.K0 rfl rfl rfl rfl (Nat.le_of_ble_eq_true rfl) (Nat.le_of_ble_eq_true rfl) (Nat.le_of_ble_eq_true rfl) (Nat.le_of_ble_eq_true rfl) ?_
    refine ww_if_neN (tgt := 31) dX11_person_26 (by decide) (by omega) (fun c26 => ?_) (fun c26 => ?_)
    · refine ww_iconst (v := nI 0) dX11_person_31 (by decide) ?_
      refine ww_sti_n (lv2 := [.ref m, .int (nI q), .int (nI 4), .int (nI 0), UU, UU, UU, UU]) dX11_person_32 rfl rfl (by decide) rfl ?_
      refine ww_iconst (v := nI 0) dX11_person_33 (by decide) ?_
      refine ww_sti (lv2 := [.ref m, .int (nI q), .int (nI 4), .int (nI 0), .int (nI 0), UU, UU, UU]) dX11_person_34 rfl (by decide) rfl ?_
      refine ww_iconst (v := -1) dX11_person_36 (by decide) ?_
      refine ww_sti (lv2 := [.ref m, .int (nI q), .int (nI 4), .int (nI 0), .int (nI 0), .int (-1), UU, UU]) dX11_person_37 rfl (by decide) rfl ?_
      refine ww_iconst (v := -1) dX11_person_39 (by decide) ?_
      refine ww_sti (lv2 := [.ref m, .int (nI q), .int (nI 4), .int (nI 0), .int (nI 0), .int (-1), .int (-1), UU]) dX11_person_40 rfl (by decide) rfl ?_
      refine ww_iconst (v := nI 0) dX11_person_42 (by decide) ?_
      refine ww_sti (lv2 := [.ref m, .int (nI q), .int (nI 4), .int (nI 0), .int (nI 0), .int (-1), .int (-1), .int (nI 0)]) dX11_person_43 rfl (by decide) rfl ?_
      refine l_M_person hst (h := hp_sF h m 0 (.int (nI 0))) (ModS.sF hM (by decide)) hf q (nI 4) 61 0 rfl ?_
      refine ww_iload_n dX11_person_111 rfl rfl ?_
      refine ww_if_neN (tgt := 128) dX11_person_112 (by decide) (by omega) (fun c112 => ?_) (fun c112 => ?_)
      · refine ww_iload_n dX11_person_128 rfl rfl ?_
        refine ww_iconst (v := nI 1) dX11_person_129 (by decide) ?_
        refine ww_icmp_neN (tgt := 137) dX11_person_130 (by decide) (by omega) (by omega) (fun c130 => ?_) (fun c130 => ?_)
        · refine ww_iload_n dX11_person_137 rfl rfl ?_
          refine ww_iconst (v := nI 2) dX11_person_138 (by decide) ?_
          refine ww_icmp_neN (tgt := 147) dX11_person_139 (by decide) (by omega) (by omega) (fun c139 => ?_) (fun c139 => ?_)
          · refine ww_iload_n dX11_person_147 rfl rfl ?_
            refine ww_iconst (v := nI 3) dX11_person_148 (by decide) ?_
            refine ww_icmp_neN (tgt := 157) dX11_person_149 (by decide) (by omega) (by omega) (fun c149 => ?_) (fun c149 => ?_)
            · refine ww_iload dX11_person_157 rfl ?_
              exact ww_iret dX11_person_159 rfl ⟨rfl, (Same.rf.sF (SY0 m)), (hp_F_eq _ _ _ _)⟩
            · exact absurd c149 (by decide)
          · exact absurd c139 (by decide)
        · exact absurd c130 (by decide)
      · exact absurd c112 (by decide)
    · exact absurd c26 (by decide)
set_option maxHeartbeats 4000000 in
set_option maxRecDepth 100000 in
theorem c_M_person_no0 {l : Launch} {Z : EE} (hst : l.stackTraces = false) {h : PH} {m : Nat} (hM : ModS h m) {np : Nat} (hnp : hp_F h m 15 = .int (nI np)) (h6 : np ≤ 6) {f : Nat → Int32} (hf : hp_I h (m + 14) = f) (q : Int32) (w : Int32) (hout : outP np q) : CC l Z m_X11_person 2 0 0 [.ref m, .int q, .int w] h (MNo 1 0 m h) := by
  refine ee_entry hst (by decide +kernel) rfl rfl (by simp [Value.category]) (Nat.le_of_ble_eq_true rfl) ?_
  refine ww_lv (lv2 := [.ref m, .int q, .int w, UU, UU, UU, UU, UU]) rfl ?_
  refine ww_aload_n dX11_person_0 rfl rfl ?_
  refine ww_iconst (v := nI 0) dX11_person_1 (by decide) ?_
  refine ww_pfI tyX11 0 dX11_person_2 hM.K0 rfl (by decide) inX11 tyX11_ok nmX11 wg_1240 rfl rfl ?_
  refine ww_aload_n dX11_person_5 rfl rfl ?_
  refine ww_iload_n dX11_person_6 rfl rfl ?_
  refine ww_iconst (v := nI 1) dX11_person_7 (by decide) ?_
  refine ww_cVr (M := m_X11_person) (pc := 8) (v := .int (nI 0)) (h1 := hp_sI (hp_sF (hp_sF h m 0 (.int (nI 0))) m 0 (.int (nI 1))) (m + 1) (upd (hp_I (hp_sF h m 0 (.int (nI 0))) (m + 1)) 0 (hp_I (hp_sF h m 0 (.int (nI 0))) (m + 1) 0 + nI 1))) (st := []) (bc := 0) (bs := 0) (c_M_isPerson_f hst (h := hp_sF h m 0 (.int (nI 0))) (ModS.sF hM (by decide)) (hp_F_eq _ _ _ _) (hp_F_nj (by decide) hnp) h6 q hout) vv_X11_isPerson dX11_person_8 wg_1612 hM.K0 rfl rfl rfl rfl (Nat.le_of_ble_eq_true rfl) (Nat.le_of_ble_eq_true rfl) (Nat.le_of_ble_eq_true rfl) (Nat.le_of_ble_eq_true rfl) ?_
  refine ww_if_eqN (tgt := 29) dX11_person_11 (by decide) (by omega) (fun c11 => ?_) (fun c11 => ?_)
  · refine ww_iconst (v := nI 0) dX11_person_29 (by decide) ?_
    exact ww_iret dX11_person_30 rfl ⟨rfl, (((Same.rf.sF (SY0 m)).sF (SY0 m)).sI (Or.inr rfl)), (hp_F_eq _ _ _ _), by rw [hp_I_eq]; rfl⟩
  · exact absurd c11 (by decide)
set_option maxHeartbeats 4000000 in
set_option maxRecDepth 100000 in
theorem c_M_person_no1 {l : Launch} {Z : EE} (hst : l.stackTraces = false) {h : PH} {m : Nat} (hM : ModS h m) {np : Nat} (hnp : hp_F h m 15 = .int (nI np)) (h6 : np ≤ 6) {f : Nat → Int32} (hf : hp_I h (m + 14) = f) (q : Nat) (hq : q < np) (w : Int32) (hout : outR 0 4 w) : CC l Z m_X11_person 2 0 0 [.ref m, .int (nI q), .int w] h (MNo 2 1 m h) := by
  refine ee_entry hst (by decide +kernel) rfl rfl (by simp [Value.category]) (Nat.le_of_ble_eq_true rfl) ?_
  refine ww_lv (lv2 := [.ref m, .int (nI q), .int w, UU, UU, UU, UU, UU]) rfl ?_
  refine ww_aload_n dX11_person_0 rfl rfl ?_
  refine ww_iconst (v := nI 0) dX11_person_1 (by decide) ?_
  refine ww_pfI tyX11 0 dX11_person_2 hM.K0 rfl (by decide) inX11 tyX11_ok nmX11 wg_1240 rfl rfl ?_
  refine ww_aload_n dX11_person_5 rfl rfl ?_
  refine ww_iload_n dX11_person_6 rfl rfl ?_
  refine ww_iconst (v := nI 1) dX11_person_7 (by decide) ?_
  refine ww_cVr (M := m_X11_person) (pc := 8) (v := .int (nI 1)) (h1 := hp_sF h m 0 (.int (nI 0))) (st := []) (bc := 0) (bs := 0) (c_M_isPerson_t hst (h := hp_sF h m 0 (.int (nI 0))) (ModS.sF hM (by decide)) (hp_F_eq _ _ _ _) (hp_F_nj (by decide) hnp) h6 q hq) vv_X11_isPerson dX11_person_8 wg_1612 hM.K0 rfl rfl rfl rfl (Nat.le_of_ble_eq_true rfl) (Nat.le_of_ble_eq_true rfl) (Nat.le_of_ble_eq_true rfl) (Nat.le_of_ble_eq_true rfl) ?_
  refine ww_if_eqN (tgt := 29) dX11_person_11 (by decide) (by omega) (fun c11 => ?_) (fun c11 => ?_)
  · exact absurd c11 (by decide)
  · refine ww_aload_n dX11_person_14 rfl rfl ?_
    refine ww_iload_n dX11_person_15 rfl rfl ?_
    refine ww_iconst (v := nI 0) dX11_person_16 (by decide) ?_
    refine ww_iconst (v := nI 4) dX11_person_17 (by decide) ?_
    refine ww_cSr (M := m_X11_person) (pc := 18) (v := .int (nI 0)) (h1 := hp_sF h m 0 (.int (nI 0))) (st := [.ref m]) (bc := 0) (bs := 0) (c_M_within_f hst w (nI 0) (nI 4) hout _) vv_X11_within dX11_person_18 wg_1601 rfl rfl rfl (Nat.le_of_ble_eq_true rfl) (Nat.le_of_ble_eq_true rfl) (Nat.le_of_ble_eq_true rfl) (Nat.le_of_ble_eq_true rfl) ?_
    refine ww_iconst (v := nI 2) dX11_person_21 (by decide) ?_
    refine ww_iconst (v := nI 1) dX11_person_22 (by decide) ?_
    refine ww_cVr (M := m_X11_person) (pc := 23) (v := .int (nI 0)) (h1 := hp_sI (hp_sF (hp_sF h m 0 (.int (nI 0))) m 0 (.int (nI 2))) (m + 1) (upd (hp_I (hp_sF h m 0 (.int (nI 0))) (m + 1)) 1 (hp_I (hp_sF h m 0 (.int (nI 0))) (m + 1) 1 + nI 1))) (st := []) (bc := 0) (bs := 0) (c_M_may_f hst (h := hp_sF h m 0 (.int (nI 0))) (ModS.sF hM (by decide)) (hp_F_eq _ _ _ _) 2 1 (by decide) (by decide) (by decide)) vv_X11_may dX11_person_23 wg_1413 hM.K0 rfl rfl rfl rfl (Nat.le_of_ble_eq_true rfl) (Nat.le_of_ble_eq_true rfl) (Nat.le_of_ble_eq_true rfl) (Nat.le_of_ble_eq_true rfl) ?_
    refine ww_if_neN (tgt := 31) dX11_person_26 (by decide) (by omega) (fun c26 => ?_) (fun c26 => ?_)
    · exact absurd c26 (by decide)
    · refine ww_iconst (v := nI 0) dX11_person_29 (by decide) ?_
      exact ww_iret dX11_person_30 rfl ⟨rfl, (((Same.rf.sF (SY0 m)).sF (SY0 m)).sI (Or.inr rfl)), (hp_F_eq _ _ _ _), by rw [hp_I_eq]; rfl⟩
set_option maxHeartbeats 4000000 in
set_option maxRecDepth 100000 in
theorem c_M_number0 {l : Launch} {Z : EE} (hst : l.stackTraces = false) {h : PH} {m : Nat} (hM : ModS h m) {f : Nat → Int32} (hf : hp_I h (m + 14) = f) (n : Nat) (hn : n ≤ 60) : CC l Z m_X11_number 2 0 0 [.ref m, .int (nI n), .int (nI 0)] h (MOk (f n) m h) := by
  refine ee_entry hst (by decide +kernel) rfl rfl (by simp [Value.category]) (Nat.le_of_ble_eq_true rfl) ?_
  refine ww_lv (lv2 := [.ref m, .int (nI n), .int (nI 0), UU]) rfl ?_
  refine ww_aload_n dX11_number_0 rfl rfl ?_
  refine ww_iconst (v := nI 0) dX11_number_1 (by decide) ?_
  refine ww_pfI tyX11 0 dX11_number_2 hM.K0 rfl (by decide) inX11 tyX11_ok nmX11 wg_1240 rfl rfl ?_
  refine ww_aload_n dX11_number_5 rfl rfl ?_
  refine ww_iload_n dX11_number_6 rfl rfl ?_
  refine ww_iconst (v := nI 1) dX11_number_7 (by decide) ?_
  refine ww_cVr (M := m_X11_number) (pc := 8) (v := .int (nI 1)) (h1 := hp_sF h m 0 (.int (nI 0))) (st := []) (bc := 0) (bs := 0) (c_M_isThere_t hst (h := hp_sF h m 0 (.int (nI 0))) (ModS.sF hM (by decide)) (hp_F_eq _ _ _ _) n hn) vv_X11_isThere dX11_number_8 wg_1620 hM.K0 rfl rfl rfl rfl (Nat.le_of_ble_eq_true rfl) (Nat.le_of_ble_eq_true rfl) (Nat.le_of_ble_eq_true rfl) (Nat.le_of_ble_eq_true rfl) ?_
  refine ww_if_eqN (tgt := 29) dX11_number_11 (by decide) (by omega) (fun c11 => ?_) (fun c11 => ?_)
  · exact absurd c11 (by decide)
  · refine ww_aload_n dX11_number_14 rfl rfl ?_
    refine ww_iload_n dX11_number_15 rfl rfl ?_
    refine ww_iconst (v := nI 0) dX11_number_16 (by decide) ?_
    refine ww_iconst (v := nI 4) dX11_number_17 (by decide) ?_
    refine ww_cSr (M := m_X11_number) (pc := 18) (v := .int (nI 1)) (h1 := hp_sF h m 0 (.int (nI 0))) (st := [.ref m]) (bc := 0) (bs := 0) (c_M_within_t hst (nI 0) (nI 0) (nI 4) (by decide) (by decide) _) vv_X11_within dX11_number_18 wg_1601 rfl rfl rfl (Nat.le_of_ble_eq_true rfl) (Nat.le_of_ble_eq_true rfl) (Nat.le_of_ble_eq_true rfl) (Nat.le_of_ble_eq_true rfl) ?_
    refine ww_iconst (v := nI 2) dX11_number_21 (by decide) ?_
    refine ww_iconst (v := nI 1) dX11_number_22 (by decide) ?_
    refine ww_cVr (M := m_X11_number) (pc := 23) (v := .int (nI 1)) (h1 := hp_sF h m 0 (.int (nI 0))) (st := []) (bc := 0) (bs := 0) (c_M_may_t hst (h := hp_sF h m 0 (.int (nI 0))) (ModS.sF hM (by decide)) (hp_F_eq _ _ _ _) (nI 2) (nI 1)) vv_X11_may dX11_number_23 wg_1413 hM.K0 rfl rfl rfl rfl (Nat.le_of_ble_eq_true rfl) (Nat.le_of_ble_eq_true rfl) (Nat.le_of_ble_eq_true rfl) (Nat.le_of_ble_eq_true rfl) ?_
    refine ww_if_neN (tgt := 31) dX11_number_26 (by decide) (by omega) (fun c26 => ?_) (fun c26 => ?_)
    · refine ww_iload_n dX11_number_31 rfl rfl ?_
      refine ww_iconst (v := nI 3) dX11_number_32 (by decide) ?_
      refine ww_icmp_geN (tgt := 64) dX11_number_33 (by decide) (by omega) (by omega) (fun c33 => ?_) (fun c33 => ?_)
      · exact absurd c33 (by decide)
      · refine ww_aload_n dX11_number_36 rfl rfl ?_
        refine ww_get 33 dX11_number_37 hM.K0 rfl (by decide) inX11 wg_1273 (hp_F_nj (by decide) hM.F14) ?_
        refine ww_iload_n dX11_number_40 rfl rfl ?_
        refine ww_if_neN (tgt := 48) dX11_number_41 (by decide) (by omega) (fun c41 => ?_) (fun c41 => ?_)
        · exact absurd c41 (by decide)
        · refine ww_iconst (v := nI 0) dX11_number_44 (by decide) ?_
          refine ww_goto (tgt := 60) dX11_number_45 (by decide) ?_
          refine ww_iload_n dX11_number_60 rfl rfl ?_
          refine ww_iadd0 dX11_number_61 ?_
          refine ww_ialdF dX11_number_62 hM.K14 hf (by omega) (by omega) ?_
          exact ww_iret dX11_number_63 rfl ⟨rfl, (Same.rf.sF (SY0 m)), (hp_F_eq _ _ _ _)⟩
    · exact absurd c26 (by decide)
set_option maxHeartbeats 4000000 in
set_option maxRecDepth 100000 in
theorem c_M_number1 {l : Launch} {Z : EE} (hst : l.stackTraces = false) {h : PH} {m : Nat} (hM : ModS h m) {f : Nat → Int32} (hf : hp_I h (m + 14) = f) (n : Nat) (hn : n ≤ 60) : CC l Z m_X11_number 2 0 0 [.ref m, .int (nI n), .int (nI 1)] h (MOk (f (61 + n)) m h) := by
  refine ee_entry hst (by decide +kernel) rfl rfl (by simp [Value.category]) (Nat.le_of_ble_eq_true rfl) ?_
  refine ww_lv (lv2 := [.ref m, .int (nI n), .int (nI 1), UU]) rfl ?_
  refine ww_aload_n dX11_number_0 rfl rfl ?_
  refine ww_iconst (v := nI 0) dX11_number_1 (by decide) ?_
  refine ww_pfI tyX11 0 dX11_number_2 hM.K0 rfl (by decide) inX11 tyX11_ok nmX11 wg_1240 rfl rfl ?_
  refine ww_aload_n dX11_number_5 rfl rfl ?_
  refine ww_iload_n dX11_number_6 rfl rfl ?_
  refine ww_iconst (v := nI 1) dX11_number_7 (by decide) ?_
  refine ww_cVr (M := m_X11_number) (pc := 8) (v := .int (nI 1)) (h1 := hp_sF h m 0 (.int (nI 0))) (st := []) (bc := 0) (bs := 0) (c_M_isThere_t hst (h := hp_sF h m 0 (.int (nI 0))) (ModS.sF hM (by decide)) (hp_F_eq _ _ _ _) n hn) vv_X11_isThere dX11_number_8 wg_1620 hM.K0 rfl rfl rfl rfl (Nat.le_of_ble_eq_true rfl) (Nat.le_of_ble_eq_true rfl) (Nat.le_of_ble_eq_true rfl) (Nat.le_of_ble_eq_true rfl) ?_
  refine ww_if_eqN (tgt := 29) dX11_number_11 (by decide) (by omega) (fun c11 => ?_) (fun c11 => ?_)
  · exact absurd c11 (by decide)
  · refine ww_aload_n dX11_number_14 rfl rfl ?_
    refine ww_iload_n dX11_number_15 rfl rfl ?_
    refine ww_iconst (v := nI 0) dX11_number_16 (by decide) ?_
    refine ww_iconst (v := nI 4) dX11_number_17 (by decide) ?_
    refine ww_cSr (M := m_X11_number) (pc := 18) (v := .int (nI 1)) (h1 := hp_sF h m 0 (.int (nI 0))) (st := [.ref m]) (bc := 0) (bs := 0) (c_M_within_t hst (nI 1) (nI 0) (nI 4) (by decide) (by decide) _) vv_X11_within dX11_number_18 wg_1601 rfl rfl rfl (Nat.le_of_ble_eq_true rfl) (Nat.le_of_ble_eq_true rfl) (Nat.le_of_ble_eq_true rfl) (Nat.le_of_ble_eq_true rfl) ?_
    refine ww_iconst (v := nI 2) dX11_number_21 (by decide) ?_
    refine ww_iconst (v := nI 1) dX11_number_22 (by decide) ?_
    refine ww_cVr (M := m_X11_number) (pc := 23) (v := .int (nI 1)) (h1 := hp_sF h m 0 (.int (nI 0))) (st := []) (bc := 0) (bs := 0) (c_M_may_t hst (h := hp_sF h m 0 (.int (nI 0))) (ModS.sF hM (by decide)) (hp_F_eq _ _ _ _) (nI 2) (nI 1)) vv_X11_may dX11_number_23 wg_1413 hM.K0 rfl rfl rfl rfl (Nat.le_of_ble_eq_true rfl) (Nat.le_of_ble_eq_true rfl) (Nat.le_of_ble_eq_true rfl) (Nat.le_of_ble_eq_true rfl) ?_
    refine ww_if_neN (tgt := 31) dX11_number_26 (by decide) (by omega) (fun c26 => ?_) (fun c26 => ?_)
    · refine ww_iload_n dX11_number_31 rfl rfl ?_
      refine ww_iconst (v := nI 3) dX11_number_32 (by decide) ?_
      refine ww_icmp_geN (tgt := 64) dX11_number_33 (by decide) (by omega) (by omega) (fun c33 => ?_) (fun c33 => ?_)
      · exact absurd c33 (by decide)
      · refine ww_aload_n dX11_number_36 rfl rfl ?_
        refine ww_get 33 dX11_number_37 hM.K0 rfl (by decide) inX11 wg_1273 (hp_F_nj (by decide) hM.F14) ?_
        refine ww_iload_n dX11_number_40 rfl rfl ?_
        refine ww_if_neN (tgt := 48) dX11_number_41 (by decide) (by omega) (fun c41 => ?_) (fun c41 => ?_)
        · refine ww_iload_n dX11_number_48 rfl rfl ?_
          refine ww_iconst (v := nI 1) dX11_number_49 (by decide) ?_
          refine ww_icmp_neN (tgt := 58) dX11_number_50 (by decide) (by omega) (by omega) (fun c50 => ?_) (fun c50 => ?_)
          · exact absurd c50 (by decide)
          · refine ww_bipush (v := nI 61) dX11_number_53 (by decide) ?_
            refine ww_goto (tgt := 60) dX11_number_55 (by decide) ?_
            refine ww_iload_n dX11_number_60 rfl rfl ?_
            refine ww_iaddN dX11_number_61 ?_
            refine ww_ialdF dX11_number_62 hM.K14 hf (by omega) (by omega) ?_
            exact ww_iret dX11_number_63 rfl ⟨rfl, (Same.rf.sF (SY0 m)), (hp_F_eq _ _ _ _)⟩
        · exact absurd c41 (by decide)
    · exact absurd c26 (by decide)
set_option maxHeartbeats 4000000 in
set_option maxRecDepth 100000 in
theorem c_M_number2 {l : Launch} {Z : EE} (hst : l.stackTraces = false) {h : PH} {m : Nat} (hM : ModS h m) {f : Nat → Int32} (hf : hp_I h (m + 14) = f) (n : Nat) (hn : n ≤ 60) : CC l Z m_X11_number 2 0 0 [.ref m, .int (nI n), .int (nI 2)] h (MOk (f (122 + n)) m h) := by
  refine ee_entry hst (by decide +kernel) rfl rfl (by simp [Value.category]) (Nat.le_of_ble_eq_true rfl) ?_
  refine ww_lv (lv2 := [.ref m, .int (nI n), .int (nI 2), UU]) rfl ?_
  refine ww_aload_n dX11_number_0 rfl rfl ?_
  refine ww_iconst (v := nI 0) dX11_number_1 (by decide) ?_
  refine ww_pfI tyX11 0 dX11_number_2 hM.K0 rfl (by decide) inX11 tyX11_ok nmX11 wg_1240 rfl rfl ?_
  refine ww_aload_n dX11_number_5 rfl rfl ?_
  refine ww_iload_n dX11_number_6 rfl rfl ?_
  refine ww_iconst (v := nI 1) dX11_number_7 (by decide) ?_
  refine ww_cVr (M := m_X11_number) (pc := 8) (v := .int (nI 1)) (h1 := hp_sF h m 0 (.int (nI 0))) (st := []) (bc := 0) (bs := 0) (c_M_isThere_t hst (h := hp_sF h m 0 (.int (nI 0))) (ModS.sF hM (by decide)) (hp_F_eq _ _ _ _) n hn) vv_X11_isThere dX11_number_8 wg_1620 hM.K0 rfl rfl rfl rfl (Nat.le_of_ble_eq_true rfl) (Nat.le_of_ble_eq_true rfl) (Nat.le_of_ble_eq_true rfl) (Nat.le_of_ble_eq_true rfl) ?_
  refine ww_if_eqN (tgt := 29) dX11_number_11 (by decide) (by omega) (fun c11 => ?_) (fun c11 => ?_)
  · exact absurd c11 (by decide)
  · refine ww_aload_n dX11_number_14 rfl rfl ?_
    refine ww_iload_n dX11_number_15 rfl rfl ?_
    refine ww_iconst (v := nI 0) dX11_number_16 (by decide) ?_
    refine ww_iconst (v := nI 4) dX11_number_17 (by decide) ?_
    refine ww_cSr (M := m_X11_number) (pc := 18) (v := .int (nI 1)) (h1 := hp_sF h m 0 (.int (nI 0))) (st := [.ref m]) (bc := 0) (bs := 0) (c_M_within_t hst (nI 2) (nI 0) (nI 4) (by decide) (by decide) _) vv_X11_within dX11_number_18 wg_1601 rfl rfl rfl (Nat.le_of_ble_eq_true rfl) (Nat.le_of_ble_eq_true rfl) (Nat.le_of_ble_eq_true rfl) (Nat.le_of_ble_eq_true rfl) ?_
    refine ww_iconst (v := nI 2) dX11_number_21 (by decide) ?_
    refine ww_iconst (v := nI 1) dX11_number_22 (by decide) ?_
    refine ww_cVr (M := m_X11_number) (pc := 23) (v := .int (nI 1)) (h1 := hp_sF h m 0 (.int (nI 0))) (st := []) (bc := 0) (bs := 0) (c_M_may_t hst (h := hp_sF h m 0 (.int (nI 0))) (ModS.sF hM (by decide)) (hp_F_eq _ _ _ _) (nI 2) (nI 1)) vv_X11_may dX11_number_23 wg_1413 hM.K0 rfl rfl rfl rfl (Nat.le_of_ble_eq_true rfl) (Nat.le_of_ble_eq_true rfl) (Nat.le_of_ble_eq_true rfl) (Nat.le_of_ble_eq_true rfl) ?_
    refine ww_if_neN (tgt := 31) dX11_number_26 (by decide) (by omega) (fun c26 => ?_) (fun c26 => ?_)
    · refine ww_iload_n dX11_number_31 rfl rfl ?_
      refine ww_iconst (v := nI 3) dX11_number_32 (by decide) ?_
      refine ww_icmp_geN (tgt := 64) dX11_number_33 (by decide) (by omega) (by omega) (fun c33 => ?_) (fun c33 => ?_)
      · exact absurd c33 (by decide)
      · refine ww_aload_n dX11_number_36 rfl rfl ?_
        refine ww_get 33 dX11_number_37 hM.K0 rfl (by decide) inX11 wg_1273 (hp_F_nj (by decide) hM.F14) ?_
        refine ww_iload_n dX11_number_40 rfl rfl ?_
        refine ww_if_neN (tgt := 48) dX11_number_41 (by decide) (by omega) (fun c41 => ?_) (fun c41 => ?_)
        · refine ww_iload_n dX11_number_48 rfl rfl ?_
          refine ww_iconst (v := nI 1) dX11_number_49 (by decide) ?_
          refine ww_icmp_neN (tgt := 58) dX11_number_50 (by decide) (by omega) (by omega) (fun c50 => ?_) (fun c50 => ?_)
          · refine ww_bipush (v := nI 122) dX11_number_58 (by decide) ?_
            refine ww_iload_n dX11_number_60 rfl rfl ?_
            refine ww_iaddN dX11_number_61 ?_
            refine ww_ialdF dX11_number_62 hM.K14 hf (by omega) (by omega) ?_
            exact ww_iret dX11_number_63 rfl ⟨rfl, (Same.rf.sF (SY0 m)), (hp_F_eq _ _ _ _)⟩
          · exact absurd c50 (by decide)
        · exact absurd c41 (by decide)
    · exact absurd c26 (by decide)
set_option maxHeartbeats 4000000 in
set_option maxRecDepth 100000 in
theorem c_M_number3 {l : Launch} {Z : EE} (hst : l.stackTraces = false) {h : PH} {m : Nat} (hM : ModS h m) {f : Nat → Int32} (hf : hp_I h (m + 14) = f) (n : Nat) (hn : n ≤ 60) : CC l Z m_X11_number 2 0 0 [.ref m, .int (nI n), .int (nI 3)] h (MOk (nI (dvN n)) m h) := by
  refine ee_entry hst (by decide +kernel) rfl rfl (by simp [Value.category]) (Nat.le_of_ble_eq_true rfl) ?_
  refine ww_lv (lv2 := [.ref m, .int (nI n), .int (nI 3), UU]) rfl ?_
  refine ww_aload_n dX11_number_0 rfl rfl ?_
  refine ww_iconst (v := nI 0) dX11_number_1 (by decide) ?_
  refine ww_pfI tyX11 0 dX11_number_2 hM.K0 rfl (by decide) inX11 tyX11_ok nmX11 wg_1240 rfl rfl ?_
  refine ww_aload_n dX11_number_5 rfl rfl ?_
  refine ww_iload_n dX11_number_6 rfl rfl ?_
  refine ww_iconst (v := nI 1) dX11_number_7 (by decide) ?_
  refine ww_cVr (M := m_X11_number) (pc := 8) (v := .int (nI 1)) (h1 := hp_sF h m 0 (.int (nI 0))) (st := []) (bc := 0) (bs := 0) (c_M_isThere_t hst (h := hp_sF h m 0 (.int (nI 0))) (ModS.sF hM (by decide)) (hp_F_eq _ _ _ _) n hn) vv_X11_isThere dX11_number_8 wg_1620 hM.K0 rfl rfl rfl rfl (Nat.le_of_ble_eq_true rfl) (Nat.le_of_ble_eq_true rfl) (Nat.le_of_ble_eq_true rfl) (Nat.le_of_ble_eq_true rfl) ?_
  refine ww_if_eqN (tgt := 29) dX11_number_11 (by decide) (by omega) (fun c11 => ?_) (fun c11 => ?_)
  · exact absurd c11 (by decide)
  · refine ww_aload_n dX11_number_14 rfl rfl ?_
    refine ww_iload_n dX11_number_15 rfl rfl ?_
    refine ww_iconst (v := nI 0) dX11_number_16 (by decide) ?_
    refine ww_iconst (v := nI 4) dX11_number_17 (by decide) ?_
    refine ww_cSr (M := m_X11_number) (pc := 18) (v := .int (nI 1)) (h1 := hp_sF h m 0 (.int (nI 0))) (st := [.ref m]) (bc := 0) (bs := 0) (c_M_within_t hst (nI 3) (nI 0) (nI 4) (by decide) (by decide) _) vv_X11_within dX11_number_18 wg_1601 rfl rfl rfl (Nat.le_of_ble_eq_true rfl) (Nat.le_of_ble_eq_true rfl) (Nat.le_of_ble_eq_true rfl) (Nat.le_of_ble_eq_true rfl) ?_
    refine ww_iconst (v := nI 2) dX11_number_21 (by decide) ?_
    refine ww_iconst (v := nI 1) dX11_number_22 (by decide) ?_
    refine ww_cVr (M := m_X11_number) (pc := 23) (v := .int (nI 1)) (h1 := hp_sF h m 0 (.int (nI 0))) (st := []) (bc := 0) (bs := 0) (c_M_may_t hst (h := hp_sF h m 0 (.int (nI 0))) (ModS.sF hM (by decide)) (hp_F_eq _ _ _ _) (nI 2) (nI 1)) vv_X11_may dX11_number_23 wg_1413 hM.K0 rfl rfl rfl rfl (Nat.le_of_ble_eq_true rfl) (Nat.le_of_ble_eq_true rfl) (Nat.le_of_ble_eq_true rfl) (Nat.le_of_ble_eq_true rfl) ?_
    refine ww_if_neN (tgt := 31) dX11_number_26 (by decide) (by omega) (fun c26 => ?_) (fun c26 => ?_)
    · refine ww_iload_n dX11_number_31 rfl rfl ?_
      refine ww_iconst (v := nI 3) dX11_number_32 (by decide) ?_
      refine ww_icmp_geN (tgt := 64) dX11_number_33 (by decide) (by omega) (by omega) (fun c33 => ?_) (fun c33 => ?_)
      · refine ww_iload_n dX11_number_64 rfl rfl ?_
        refine ww_iconst (v := nI 3) dX11_number_65 (by decide) ?_
        refine ww_icmp_neN (tgt := 74) dX11_number_66 (by decide) (by omega) (by omega) (fun c66 => ?_) (fun c66 => ?_)
        · exact absurd c66 (by decide)
        · refine ww_iload_n dX11_number_69 rfl rfl ?_
          refine ww_cSr (M := m_X11_number) (pc := 70) (v := .int (nI (dvN n))) (h1 := hp_sF h m 0 (.int (nI 0))) (st := []) (bc := 0) (bs := 0) (c_M_partsOf hst n hn _) vv_X11_partsOf dX11_number_70 wg_1563 rfl rfl rfl (Nat.le_of_ble_eq_true rfl) (Nat.le_of_ble_eq_true rfl) (Nat.le_of_ble_eq_true rfl) (Nat.le_of_ble_eq_true rfl) ?_
          exact ww_iret dX11_number_73 rfl ⟨rfl, (Same.rf.sF (SY0 m)), (hp_F_eq _ _ _ _)⟩
      · exact absurd c33 (by decide)
    · exact absurd c26 (by decide)
set_option maxHeartbeats 4000000 in
set_option maxRecDepth 100000 in
theorem l_M_number4 {l : Launch} {Z : EE} (hst : l.stackTraces = false) {h : PH} {m : Nat} (hM : ModS h m) (n : Nat) (hn : n ≤ 60) {Post : Res → PH → Prop} : ∀ (j k : Nat), 2 ≤ k → k + j = max 2 (n + 1) → Post (.inl (some (.int (fsI (fun i => n % i == 0) k j)))) h → WW l Z m_X11_number 2 0 0 76 [.ref m, .int (nI n), .int (nI 4), .int (nI k)] [] h Post := by
  intro j
  induction j with
  | zero =>
    intro k h2 hk hpo
    refine ww_iload_n dX11_number_76 rfl rfl ?_
    refine ww_iload_n dX11_number_77 rfl rfl ?_
    refine ww_icmp_gtN (tgt := 95) dX11_number_78 (by decide) (by first | omega | (have := Nat.mod_lt n (show 0 < k by omega); omega)) (by first | omega | (have := Nat.mod_lt n (show 0 < k by omega); omega)) (fun c78 => ?_) (fun c78 => ?_)
    · refine ww_iconst (v := -1) dX11_number_95 (by decide) ?_
      exact ww_iret dX11_number_96 rfl hpo
    · exfalso; omega
  | succ j ih =>
    intro k h2 hk hpo
    refine ww_iload_n dX11_number_76 rfl rfl ?_
    refine ww_iload_n dX11_number_77 rfl rfl ?_
    refine ww_icmp_gtN (tgt := 95) dX11_number_78 (by decide) (by first | omega | (have := Nat.mod_lt n (show 0 < k by omega); omega)) (by first | omega | (have := Nat.mod_lt n (show 0 < k by omega); omega)) (fun c78 => ?_) (fun c78 => ?_)
    · exfalso; omega
    · refine ww_iload_n dX11_number_81 rfl rfl ?_
      refine ww_iload_n dX11_number_82 rfl rfl ?_
      refine ww_iremN dX11_number_83 (by first | omega | (have := Nat.mod_lt n (show 0 < k by omega); omega)) (by first | omega | (have := Nat.mod_lt n (show 0 < k by omega); omega)) (by first | omega | (have := Nat.mod_lt n (show 0 < k by omega); omega)) ?_
      refine ww_if_neN (tgt := 89) dX11_number_84 (by decide) (by first | omega | (have := Nat.mod_lt n (show 0 < k by omega); omega)) (fun c84 => ?_) (fun c84 => ?_)
      · refine ww_incN (c := 1) (lv2 := [.ref m, .int (nI n), .int (nI 4), .int (nI (k + 1))]) dX11_number_89 rfl rfl rfl (by decide) rfl ?_
        refine ww_goto (tgt := 76) dX11_number_92 (by decide) ?_
        refine ih (k + 1) (by omega) (by omega) ?_
        have z : ¬ n % k = 0 := by omega
        simpa [fsI, z] using hpo
      · refine ww_iload_n dX11_number_87 rfl rfl ?_
        exact ww_iret dX11_number_88 rfl (by simpa [fsI, c84] using hpo)
set_option maxHeartbeats 4000000 in
set_option maxRecDepth 100000 in
theorem c_M_number4 {l : Launch} {Z : EE} (hst : l.stackTraces = false) {h : PH} {m : Nat} (hM : ModS h m) {f : Nat → Int32} (hf : hp_I h (m + 14) = f) (n : Nat) (hn : n ≤ 60) : CC l Z m_X11_number 2 0 0 [.ref m, .int (nI n), .int (nI 4)] h (MOk (fsI (fun i => n % i == 0) 2 (n - 1)) m h) := by
  refine ee_entry hst (by decide +kernel) rfl rfl (by simp [Value.category]) (Nat.le_of_ble_eq_true rfl) ?_
  refine ww_lv (lv2 := [.ref m, .int (nI n), .int (nI 4), UU]) rfl ?_
  refine ww_aload_n dX11_number_0 rfl rfl ?_
  refine ww_iconst (v := nI 0) dX11_number_1 (by decide) ?_
  refine ww_pfI tyX11 0 dX11_number_2 hM.K0 rfl (by decide) inX11 tyX11_ok nmX11 wg_1240 rfl rfl ?_
  refine ww_aload_n dX11_number_5 rfl rfl ?_
  refine ww_iload_n dX11_number_6 rfl rfl ?_
  refine ww_iconst (v := nI 1) dX11_number_7 (by decide) ?_
  refine ww_cVr (M := m_X11_number) (pc := 8) (v := .int (nI 1)) (h1 := hp_sF h m 0 (.int (nI 0))) (st := []) (bc := 0) (bs := 0) (c_M_isThere_t hst (h := hp_sF h m 0 (.int (nI 0))) (ModS.sF hM (by decide)) (hp_F_eq _ _ _ _) n hn) vv_X11_isThere dX11_number_8 wg_1620 hM.K0 rfl rfl rfl rfl (Nat.le_of_ble_eq_true rfl) (Nat.le_of_ble_eq_true rfl) (Nat.le_of_ble_eq_true rfl) (Nat.le_of_ble_eq_true rfl) ?_
  refine ww_if_eqN (tgt := 29) dX11_number_11 (by decide) (by omega) (fun c11 => ?_) (fun c11 => ?_)
  · exact absurd c11 (by decide)
  · refine ww_aload_n dX11_number_14 rfl rfl ?_
    refine ww_iload_n dX11_number_15 rfl rfl ?_
    refine ww_iconst (v := nI 0) dX11_number_16 (by decide) ?_
    refine ww_iconst (v := nI 4) dX11_number_17 (by decide) ?_
    refine ww_cSr (M := m_X11_number) (pc := 18) (v := .int (nI 1)) (h1 := hp_sF h m 0 (.int (nI 0))) (st := [.ref m]) (bc := 0) (bs := 0) (c_M_within_t hst (nI 4) (nI 0) (nI 4) (by decide) (by decide) _) vv_X11_within dX11_number_18 wg_1601 rfl rfl rfl (Nat.le_of_ble_eq_true rfl) (Nat.le_of_ble_eq_true rfl) (Nat.le_of_ble_eq_true rfl) (Nat.le_of_ble_eq_true rfl) ?_
    refine ww_iconst (v := nI 2) dX11_number_21 (by decide) ?_
    refine ww_iconst (v := nI 1) dX11_number_22 (by decide) ?_
    refine ww_cVr (M := m_X11_number) (pc := 23) (v := .int (nI 1)) (h1 := hp_sF h m 0 (.int (nI 0))) (st := []) (bc := 0) (bs := 0) (c_M_may_t hst (h := hp_sF h m 0 (.int (nI 0))) (ModS.sF hM (by decide)) (hp_F_eq _ _ _ _) (nI 2) (nI 1)) vv_X11_may dX11_number_23 wg_1413 hM.K0 rfl rfl rfl rfl (Nat.le_of_ble_eq_true rfl) (Nat.le_of_ble_eq_true rfl) (Nat.le_of_ble_eq_true rfl) (Nat.le_of_ble_eq_true rfl) ?_
    refine ww_if_neN (tgt := 31) dX11_number_26 (by decide) (by omega) (fun c26 => ?_) (fun c26 => ?_)
    · refine ww_iload_n dX11_number_31 rfl rfl ?_
      refine ww_iconst (v := nI 3) dX11_number_32 (by decide) ?_
      refine ww_icmp_geN (tgt := 64) dX11_number_33 (by decide) (by omega) (by omega) (fun c33 => ?_) (fun c33 => ?_)
      · refine ww_iload_n dX11_number_64 rfl rfl ?_
        refine ww_iconst (v := nI 3) dX11_number_65 (by decide) ?_
        refine ww_icmp_neN (tgt := 74) dX11_number_66 (by decide) (by omega) (by omega) (fun c66 => ?_) (fun c66 => ?_)
        · refine ww_iconst (v := nI 2) dX11_number_74 (by decide) ?_
          refine ww_sti_n (lv2 := [.ref m, .int (nI n), .int (nI 4), .int (nI 2)]) dX11_number_75 rfl rfl (by decide) rfl ?_
          refine l_M_number4 hst (h := hp_sF h m 0 (.int (nI 0))) (ModS.sF hM (by decide)) n (by omega) (n - 1) 2 (by omega) (by omega) ⟨rfl, (Same.rf.sF (SY0 m)), (hp_F_eq _ _ _ _)⟩
        · exact absurd c66 (by decide)
      · exact absurd c33 (by decide)
    · exact absurd c26 (by decide)
set_option maxHeartbeats 4000000 in
set_option maxRecDepth 100000 in
theorem c_M_number_no0 {l : Launch} {Z : EE} (hst : l.stackTraces = false) {h : PH} {m : Nat} (hM : ModS h m) {f : Nat → Int32} (hf : hp_I h (m + 14) = f) (n : Int32) (w : Int32) (hout : outR 0 60 n) : CC l Z m_X11_number 2 0 0 [.ref m, .int n, .int w] h (MNo 1 0 m h) := by
  refine ee_entry hst (by decide +kernel) rfl rfl (by simp [Value.category]) (Nat.le_of_ble_eq_true rfl) ?_
  refine ww_lv (lv2 := [.ref m, .int n, .int w, UU]) rfl ?_
  refine ww_aload_n dX11_number_0 rfl rfl ?_
  refine ww_iconst (v := nI 0) dX11_number_1 (by decide) ?_
  refine ww_pfI tyX11 0 dX11_number_2 hM.K0 rfl (by decide) inX11 tyX11_ok nmX11 wg_1240 rfl rfl ?_
  refine ww_aload_n dX11_number_5 rfl rfl ?_
  refine ww_iload_n dX11_number_6 rfl rfl ?_
  refine ww_iconst (v := nI 1) dX11_number_7 (by decide) ?_
  refine ww_cVr (M := m_X11_number) (pc := 8) (v := .int (nI 0)) (h1 := hp_sI (hp_sF (hp_sF h m 0 (.int (nI 0))) m 0 (.int (nI 1))) (m + 1) (upd (hp_I (hp_sF h m 0 (.int (nI 0))) (m + 1)) 0 (hp_I (hp_sF h m 0 (.int (nI 0))) (m + 1) 0 + nI 1))) (st := []) (bc := 0) (bs := 0) (c_M_isThere_f hst (h := hp_sF h m 0 (.int (nI 0))) (ModS.sF hM (by decide)) (hp_F_eq _ _ _ _) n hout) vv_X11_isThere dX11_number_8 wg_1620 hM.K0 rfl rfl rfl rfl (Nat.le_of_ble_eq_true rfl) (Nat.le_of_ble_eq_true rfl) (Nat.le_of_ble_eq_true rfl) (Nat.le_of_ble_eq_true rfl) ?_
  refine ww_if_eqN (tgt := 29) dX11_number_11 (by decide) (by omega) (fun c11 => ?_) (fun c11 => ?_)
  · refine ww_iconst (v := nI 0) dX11_number_29 (by decide) ?_
    exact ww_iret dX11_number_30 rfl ⟨rfl, (((Same.rf.sF (SY0 m)).sF (SY0 m)).sI (Or.inr rfl)), (hp_F_eq _ _ _ _), by rw [hp_I_eq]; rfl⟩
  · exact absurd c11 (by decide)
set_option maxHeartbeats 4000000 in
set_option maxRecDepth 100000 in
theorem c_M_number_no1 {l : Launch} {Z : EE} (hst : l.stackTraces = false) {h : PH} {m : Nat} (hM : ModS h m) {f : Nat → Int32} (hf : hp_I h (m + 14) = f) (n : Nat) (hn : n ≤ 60) (w : Int32) (hout : outR 0 4 w) : CC l Z m_X11_number 2 0 0 [.ref m, .int (nI n), .int w] h (MNo 2 1 m h) := by
  refine ee_entry hst (by decide +kernel) rfl rfl (by simp [Value.category]) (Nat.le_of_ble_eq_true rfl) ?_
  refine ww_lv (lv2 := [.ref m, .int (nI n), .int w, UU]) rfl ?_
  refine ww_aload_n dX11_number_0 rfl rfl ?_
  refine ww_iconst (v := nI 0) dX11_number_1 (by decide) ?_
  refine ww_pfI tyX11 0 dX11_number_2 hM.K0 rfl (by decide) inX11 tyX11_ok nmX11 wg_1240 rfl rfl ?_
  refine ww_aload_n dX11_number_5 rfl rfl ?_
  refine ww_iload_n dX11_number_6 rfl rfl ?_
  refine ww_iconst (v := nI 1) dX11_number_7 (by decide) ?_
  refine ww_cVr (M := m_X11_number) (pc := 8) (v := .int (nI 1)) (h1 := hp_sF h m 0 (.int (nI 0))) (st := []) (bc := 0) (bs := 0) (c_M_isThere_t hst (h := hp_sF h m 0 (.int (nI 0))) (ModS.sF hM (by decide)) (hp_F_eq _ _ _ _) n hn) vv_X11_isThere dX11_number_8 wg_1620 hM.K0 rfl rfl rfl rfl (Nat.le_of_ble_eq_true rfl) (Nat.le_of_ble_eq_true rfl) (Nat.le_of_ble_eq_true rfl) (Nat.le_of_ble_eq_true rfl) ?_
  refine ww_if_eqN (tgt := 29) dX11_number_11 (by decide) (by omega) (fun c11 => ?_) (fun c11 => ?_)
  · exact absurd c11 (by decide)
  · refine ww_aload_n dX11_number_14 rfl rfl ?_
    refine ww_iload_n dX11_number_15 rfl rfl ?_
    refine ww_iconst (v := nI 0) dX11_number_16 (by decide) ?_
    refine ww_iconst (v := nI 4) dX11_number_17 (by decide) ?_
    refine ww_cSr (M := m_X11_number) (pc := 18) (v := .int (nI 0)) (h1 := hp_sF h m 0 (.int (nI 0))) (st := [.ref m]) (bc := 0) (bs := 0) (c_M_within_f hst w (nI 0) (nI 4) hout _) vv_X11_within dX11_number_18 wg_1601 rfl rfl rfl (Nat.le_of_ble_eq_true rfl) (Nat.le_of_ble_eq_true rfl) (Nat.le_of_ble_eq_true rfl) (Nat.le_of_ble_eq_true rfl) ?_
    refine ww_iconst (v := nI 2) dX11_number_21 (by decide) ?_
    refine ww_iconst (v := nI 1) dX11_number_22 (by decide) ?_
    refine ww_cVr (M := m_X11_number) (pc := 23) (v := .int (nI 0)) (h1 := hp_sI (hp_sF (hp_sF h m 0 (.int (nI 0))) m 0 (.int (nI 2))) (m + 1) (upd (hp_I (hp_sF h m 0 (.int (nI 0))) (m + 1)) 1 (hp_I (hp_sF h m 0 (.int (nI 0))) (m + 1) 1 + nI 1))) (st := []) (bc := 0) (bs := 0) (c_M_may_f hst (h := hp_sF h m 0 (.int (nI 0))) (ModS.sF hM (by decide)) (hp_F_eq _ _ _ _) 2 1 (by decide) (by decide) (by decide)) vv_X11_may dX11_number_23 wg_1413 hM.K0 rfl rfl rfl rfl (Nat.le_of_ble_eq_true rfl) (Nat.le_of_ble_eq_true rfl) (Nat.le_of_ble_eq_true rfl) (Nat.le_of_ble_eq_true rfl) ?_
    refine ww_if_neN (tgt := 31) dX11_number_26 (by decide) (by omega) (fun c26 => ?_) (fun c26 => ?_)
    · exact absurd c26 (by decide)
    · refine ww_iconst (v := nI 0) dX11_number_29 (by decide) ?_
      exact ww_iret dX11_number_30 rfl ⟨rfl, (((Same.rf.sF (SY0 m)).sF (SY0 m)).sI (Or.inr rfl)), (hp_F_eq _ _ _ _), by rw [hp_I_eq]; rfl⟩
set_option maxHeartbeats 4000000 in
set_option maxRecDepth 100000 in
theorem c_M_fare {l : Launch} {Z : EE} (hst : l.stackTraces = false) {h : PH} {m : Nat} (hM : ModS h m) {f : Nat → Int32} (hf : hp_I h (m + 14) = f) {g : Nat → Int32} (hs : hp_I h (m + 15) = g) {sz : Nat} {kf vf : Nat → Int32} (hQ : LawM h m sz kf vf) (hok : LawOK kf vf sz) (n : Nat) (hn : n ≤ 60) (w : Nat) (lw : 0 ≤ w) (hw : w ≤ 2) : CC l Z m_X11_fare 5 0 0 [.ref m, .int (nI n), .int (nI w)] h (MOk (fareC f sz kf vf n w) m h) := by
  refine ee_entry hst (by decide +kernel) rfl rfl (by simp [Value.category]) (Nat.le_of_ble_eq_true rfl) ?_
  refine ww_lv (lv2 := [.ref m, .int (nI n), .int (nI w)]) rfl ?_
  refine ww_aload_n dX11_fare_0 rfl rfl ?_
  refine ww_iconst (v := nI 0) dX11_fare_1 (by decide) ?_
  refine ww_pfI tyX11 0 dX11_fare_2 hM.K0 rfl (by decide) inX11 tyX11_ok nmX11 wg_1240 rfl rfl ?_
  refine ww_aload_n dX11_fare_5 rfl rfl ?_
  refine ww_iload_n dX11_fare_6 rfl rfl ?_
  refine ww_iconst (v := nI 1) dX11_fare_7 (by decide) ?_
  refine ww_cVr (M := m_X11_fare) (pc := 8) (v := .int (nI 1)) (h1 := hp_sF h m 0 (.int (nI 0))) (st := []) (bc := 0) (bs := 0) (c_M_isThere_t hst (h := hp_sF h m 0 (.int (nI 0))) (ModS.sF hM (by decide)) (hp_F_eq _ _ _ _) n hn) vv_X11_isThere dX11_fare_8 wg_1620 hM.K0 rfl rfl rfl rfl (Nat.le_of_ble_eq_true rfl) (Nat.le_of_ble_eq_true rfl) (Nat.le_of_ble_eq_true rfl) (Nat.le_of_ble_eq_true rfl) ?_
  refine ww_if_eqN (tgt := 29) dX11_fare_11 (by decide) (by omega) (fun c11 => ?_) (fun c11 => ?_)
  · exact absurd c11 (by decide)
  · refine ww_aload_n dX11_fare_14 rfl rfl ?_
    refine ww_iload_n dX11_fare_15 rfl rfl ?_
    refine ww_iconst (v := nI 0) dX11_fare_16 (by decide) ?_
    refine ww_iconst (v := nI 2) dX11_fare_17 (by decide) ?_
    refine ww_cSr (M := m_X11_fare) (pc := 18) (v := .int (nI 1)) (h1 := hp_sF h m 0 (.int (nI 0))) (st := [.ref m]) (bc := 0) (bs := 0) (c_M_within_t hst (nI w) (nI 0) (nI 2) (nI_le (by omega) (by omega)) (nI_le (by omega) (by omega)) _) vv_X11_within dX11_fare_18 wg_1601 rfl rfl rfl (Nat.le_of_ble_eq_true rfl) (Nat.le_of_ble_eq_true rfl) (Nat.le_of_ble_eq_true rfl) (Nat.le_of_ble_eq_true rfl) ?_
    refine ww_iconst (v := nI 2) dX11_fare_21 (by decide) ?_
    refine ww_iconst (v := nI 1) dX11_fare_22 (by decide) ?_
    refine ww_cVr (M := m_X11_fare) (pc := 23) (v := .int (nI 1)) (h1 := hp_sF h m 0 (.int (nI 0))) (st := []) (bc := 0) (bs := 0) (c_M_may_t hst (h := hp_sF h m 0 (.int (nI 0))) (ModS.sF hM (by decide)) (hp_F_eq _ _ _ _) (nI 2) (nI 1)) vv_X11_may dX11_fare_23 wg_1413 hM.K0 rfl rfl rfl rfl (Nat.le_of_ble_eq_true rfl) (Nat.le_of_ble_eq_true rfl) (Nat.le_of_ble_eq_true rfl) (Nat.le_of_ble_eq_true rfl) ?_
    refine ww_if_neN (tgt := 31) dX11_fare_26 (by decide) (by omega) (fun c26 => ?_) (fun c26 => ?_)
    · refine ww_aload_n dX11_fare_31 rfl rfl ?_
      refine ww_cV0 (M := m_X11_fare) (pc := 32) (h1 := hp_sI (hp_sF h m 0 (.int (nI 0))) (m + 15) (cpF f g 190)) (st := []) (bc := 0) (bs := 0) (c_M_take hst (h := hp_sF h m 0 (.int (nI 0))) (ModS.sF hM (by decide)) hf hs) vv_X11_take dX11_fare_32 wg_1539 hM.K0 rfl rfl rfl rfl (Nat.le_of_ble_eq_true rfl) (Nat.le_of_ble_eq_true rfl) (Nat.le_of_ble_eq_true rfl) (Nat.le_of_ble_eq_true rfl) ?_
      refine ww_aload_n dX11_fare_35 rfl rfl ?_
      refine ww_iload_n dX11_fare_36 rfl rfl ?_
      refine ww_iload_n dX11_fare_37 rfl rfl ?_
      refine ww_cVq (M := m_X11_fare) (pc := 38) (v := .int (fareC (cpF f g 190) sz kf vf n w)) (st := []) (bc := 0) (bs := 0) (c_M_fareBy hst (h := hp_sI (hp_sF h m 0 (.int (nI 0))) (m + 15) (cpF f g 190)) (ModS.sF hM (by decide)) (hQ.same (X := SX m) (Y := SY m) ((Same.rf.sF (SY0 m)).sI (SX15 m)) (SX_no (by decide)) (SX_no (by decide)) (SY_no (by decide))) hok (hp_I_eq _ _ _) n (by omega) w (by omega)) vv_X11_fareBy dX11_fare_38 wg_1555 hM.K0 rfl rfl rfl rfl (Nat.le_of_ble_eq_true rfl) (Nat.le_of_ble_eq_true rfl) (Nat.le_of_ble_eq_true rfl) (Nat.le_of_ble_eq_true rfl) (fun h9 q9 => ?_)
      exact ww_iret dX11_fare_41 rfl ⟨by rw [fareC_congr (fun i hi => cpF_in hi) hn], (((Same.rf.sF (SY0 m)).sI (SX15 m)).tr (q9.mono (fun c hc => hc.elim (fun e => e ▸ SX10 m) (fun e => e ▸ SX11 m)) (fun _ _ e => e.elim))), ((q9.2.2.1 _ _ (fun e => e)).trans (hp_F_eq _ _ _ _))⟩
    · exact absurd c26 (by decide)
set_option maxHeartbeats 4000000 in
set_option maxRecDepth 100000 in
theorem c_M_fare_no0 {l : Launch} {Z : EE} (hst : l.stackTraces = false) {h : PH} {m : Nat} (hM : ModS h m) {f : Nat → Int32} (hf : hp_I h (m + 14) = f) {g : Nat → Int32} (hs : hp_I h (m + 15) = g) {sz : Nat} {kf vf : Nat → Int32} (hQ : LawM h m sz kf vf) (hok : LawOK kf vf sz) (n : Int32) (w : Int32) (hout : outR 0 60 n) : CC l Z m_X11_fare 5 0 0 [.ref m, .int n, .int w] h (MNo 1 0 m h) := by
  refine ee_entry hst (by decide +kernel) rfl rfl (by simp [Value.category]) (Nat.le_of_ble_eq_true rfl) ?_
  refine ww_lv (lv2 := [.ref m, .int n, .int w]) rfl ?_
  refine ww_aload_n dX11_fare_0 rfl rfl ?_
  refine ww_iconst (v := nI 0) dX11_fare_1 (by decide) ?_
  refine ww_pfI tyX11 0 dX11_fare_2 hM.K0 rfl (by decide) inX11 tyX11_ok nmX11 wg_1240 rfl rfl ?_
  refine ww_aload_n dX11_fare_5 rfl rfl ?_
  refine ww_iload_n dX11_fare_6 rfl rfl ?_
  refine ww_iconst (v := nI 1) dX11_fare_7 (by decide) ?_
  refine ww_cVr (M := m_X11_fare) (pc := 8) (v := .int (nI 0)) (h1 := hp_sI (hp_sF (hp_sF h m 0 (.int (nI 0))) m 0 (.int (nI 1))) (m + 1) (upd (hp_I (hp_sF h m 0 (.int (nI 0))) (m + 1)) 0 (hp_I (hp_sF h m 0 (.int (nI 0))) (m + 1) 0 + nI 1))) (st := []) (bc := 0) (bs := 0) (c_M_isThere_f hst (h := hp_sF h m 0 (.int (nI 0))) (ModS.sF hM (by decide)) (hp_F_eq _ _ _ _) n hout) vv_X11_isThere dX11_fare_8 wg_1620 hM.K0 rfl rfl rfl rfl (Nat.le_of_ble_eq_true rfl) (Nat.le_of_ble_eq_true rfl) (Nat.le_of_ble_eq_true rfl) (Nat.le_of_ble_eq_true rfl) ?_
  refine ww_if_eqN (tgt := 29) dX11_fare_11 (by decide) (by omega) (fun c11 => ?_) (fun c11 => ?_)
  · refine ww_iconst (v := nI 0) dX11_fare_29 (by decide) ?_
    exact ww_iret dX11_fare_30 rfl ⟨rfl, (((Same.rf.sF (SY0 m)).sF (SY0 m)).sI (Or.inr rfl)), (hp_F_eq _ _ _ _), by rw [hp_I_eq]; rfl⟩
  · exact absurd c11 (by decide)
set_option maxHeartbeats 4000000 in
set_option maxRecDepth 100000 in
theorem c_M_fare_no1 {l : Launch} {Z : EE} (hst : l.stackTraces = false) {h : PH} {m : Nat} (hM : ModS h m) {f : Nat → Int32} (hf : hp_I h (m + 14) = f) {g : Nat → Int32} (hs : hp_I h (m + 15) = g) {sz : Nat} {kf vf : Nat → Int32} (hQ : LawM h m sz kf vf) (hok : LawOK kf vf sz) (n : Nat) (hn : n ≤ 60) (w : Int32) (hout : outR 0 2 w) : CC l Z m_X11_fare 5 0 0 [.ref m, .int (nI n), .int w] h (MNo 2 1 m h) := by
  refine ee_entry hst (by decide +kernel) rfl rfl (by simp [Value.category]) (Nat.le_of_ble_eq_true rfl) ?_
  refine ww_lv (lv2 := [.ref m, .int (nI n), .int w]) rfl ?_
  refine ww_aload_n dX11_fare_0 rfl rfl ?_
  refine ww_iconst (v := nI 0) dX11_fare_1 (by decide) ?_
  refine ww_pfI tyX11 0 dX11_fare_2 hM.K0 rfl (by decide) inX11 tyX11_ok nmX11 wg_1240 rfl rfl ?_
  refine ww_aload_n dX11_fare_5 rfl rfl ?_
  refine ww_iload_n dX11_fare_6 rfl rfl ?_
  refine ww_iconst (v := nI 1) dX11_fare_7 (by decide) ?_
  refine ww_cVr (M := m_X11_fare) (pc := 8) (v := .int (nI 1)) (h1 := hp_sF h m 0 (.int (nI 0))) (st := []) (bc := 0) (bs := 0) (c_M_isThere_t hst (h := hp_sF h m 0 (.int (nI 0))) (ModS.sF hM (by decide)) (hp_F_eq _ _ _ _) n hn) vv_X11_isThere dX11_fare_8 wg_1620 hM.K0 rfl rfl rfl rfl (Nat.le_of_ble_eq_true rfl) (Nat.le_of_ble_eq_true rfl) (Nat.le_of_ble_eq_true rfl) (Nat.le_of_ble_eq_true rfl) ?_
  refine ww_if_eqN (tgt := 29) dX11_fare_11 (by decide) (by omega) (fun c11 => ?_) (fun c11 => ?_)
  · exact absurd c11 (by decide)
  · refine ww_aload_n dX11_fare_14 rfl rfl ?_
    refine ww_iload_n dX11_fare_15 rfl rfl ?_
    refine ww_iconst (v := nI 0) dX11_fare_16 (by decide) ?_
    refine ww_iconst (v := nI 2) dX11_fare_17 (by decide) ?_
    refine ww_cSr (M := m_X11_fare) (pc := 18) (v := .int (nI 0)) (h1 := hp_sF h m 0 (.int (nI 0))) (st := [.ref m]) (bc := 0) (bs := 0) (c_M_within_f hst w (nI 0) (nI 2) hout _) vv_X11_within dX11_fare_18 wg_1601 rfl rfl rfl (Nat.le_of_ble_eq_true rfl) (Nat.le_of_ble_eq_true rfl) (Nat.le_of_ble_eq_true rfl) (Nat.le_of_ble_eq_true rfl) ?_
    refine ww_iconst (v := nI 2) dX11_fare_21 (by decide) ?_
    refine ww_iconst (v := nI 1) dX11_fare_22 (by decide) ?_
    refine ww_cVr (M := m_X11_fare) (pc := 23) (v := .int (nI 0)) (h1 := hp_sI (hp_sF (hp_sF h m 0 (.int (nI 0))) m 0 (.int (nI 2))) (m + 1) (upd (hp_I (hp_sF h m 0 (.int (nI 0))) (m + 1)) 1 (hp_I (hp_sF h m 0 (.int (nI 0))) (m + 1) 1 + nI 1))) (st := []) (bc := 0) (bs := 0) (c_M_may_f hst (h := hp_sF h m 0 (.int (nI 0))) (ModS.sF hM (by decide)) (hp_F_eq _ _ _ _) 2 1 (by decide) (by decide) (by decide)) vv_X11_may dX11_fare_23 wg_1413 hM.K0 rfl rfl rfl rfl (Nat.le_of_ble_eq_true rfl) (Nat.le_of_ble_eq_true rfl) (Nat.le_of_ble_eq_true rfl) (Nat.le_of_ble_eq_true rfl) ?_
    refine ww_if_neN (tgt := 31) dX11_fare_26 (by decide) (by omega) (fun c26 => ?_) (fun c26 => ?_)
    · exact absurd c26 (by decide)
    · refine ww_iconst (v := nI 0) dX11_fare_29 (by decide) ?_
      exact ww_iret dX11_fare_30 rfl ⟨rfl, (((Same.rf.sF (SY0 m)).sF (SY0 m)).sI (Or.inr rfl)), (hp_F_eq _ _ _ _), by rw [hp_I_eq]; rfl⟩
set_option maxHeartbeats 4000000 in
set_option maxRecDepth 100000 in
theorem c_M_would {l : Launch} {Z : EE} (hst : l.stackTraces = false) {h : PH} {m : Nat} (hM : ModS h m) {sz : Nat} {kf vf : Nat → Int32} (hQ : LawM h m sz kf vf) (hok : LawOK kf vf sz) (n : Nat) (ln : 0 ≤ n) (hn : n ≤ 60) (r : Nat) (lr : 0 ≤ r) (hr : r ≤ 40) (w : Nat) (lw : 0 ≤ w) (hw : w ≤ 2) (o : Nat) (lo : 0 ≤ o) (ho : o ≤ 5) (u : Nat) (lu : 0 ≤ u) (hu : u ≤ 999) (dd : Nat) (ldd : 0 ≤ dd) (hdd : dd ≤ 900) : CC l Z m_X11_would 4 0 0 [.ref m, .int (nI n), .int (nI r), .int (nI w), .int (nI o), .int (nI u), .int (nI dd)] h (MOk (askV joinC (joinC (nI 5)) sz kf vf (nI n) (nI r) (nI w) (nI o) (nI u) (nI dd) (js_parts.getD n 0)) m h) := by
  refine ee_entry hst (by decide +kernel) rfl rfl (by simp [Value.category]) (Nat.le_of_ble_eq_true rfl) ?_
  refine ww_lv (lv2 := [.ref m, .int (nI n), .int (nI r), .int (nI w), .int (nI o), .int (nI u), .int (nI dd)]) rfl ?_
  refine ww_aload_n dX11_would_0 rfl rfl ?_
  refine ww_iconst (v := nI 0) dX11_would_1 (by decide) ?_
  refine ww_pfI tyX11 0 dX11_would_2 hM.K0 rfl (by decide) inX11 tyX11_ok nmX11 wg_1240 rfl rfl ?_
  refine ww_aload_n dX11_would_5 rfl rfl ?_
  refine ww_iload_n dX11_would_6 rfl rfl ?_
  refine ww_iconst (v := nI 0) dX11_would_7 (by decide) ?_
  refine ww_bipush (v := nI 60) dX11_would_8 (by decide) ?_
  refine ww_cSr (M := m_X11_would) (pc := 10) (v := .int (nI 1)) (h1 := hp_sF h m 0 (.int (nI 0))) (st := [.ref m]) (bc := 0) (bs := 0) (c_M_within_t hst (nI n) (nI 0) (nI 60) (nI_le (by omega) (by omega)) (nI_le (by omega) (by omega)) _) vv_X11_within dX11_would_10 wg_1601 rfl rfl rfl (Nat.le_of_ble_eq_true rfl) (Nat.le_of_ble_eq_true rfl) (Nat.le_of_ble_eq_true rfl) (Nat.le_of_ble_eq_true rfl) ?_
  refine ww_if_eqN (tgt := 73) dX11_would_13 (by decide) (by omega) (fun c13 => ?_) (fun c13 => ?_)
  · exact absurd c13 (by decide)
  · refine ww_iload_n dX11_would_16 rfl rfl ?_
    refine ww_iconst (v := nI 0) dX11_would_17 (by decide) ?_
    refine ww_bipush (v := nI 40) dX11_would_18 (by decide) ?_
    refine ww_cSr (M := m_X11_would) (pc := 20) (v := .int (nI 1)) (h1 := hp_sF h m 0 (.int (nI 0))) (st := [.ref m]) (bc := 0) (bs := 0) (c_M_within_t hst (nI r) (nI 0) (nI 40) (nI_le (by omega) (by omega)) (nI_le (by omega) (by omega)) _) vv_X11_within dX11_would_20 wg_1601 rfl rfl rfl (Nat.le_of_ble_eq_true rfl) (Nat.le_of_ble_eq_true rfl) (Nat.le_of_ble_eq_true rfl) (Nat.le_of_ble_eq_true rfl) ?_
    refine ww_if_eqN (tgt := 73) dX11_would_23 (by decide) (by omega) (fun c23 => ?_) (fun c23 => ?_)
    · exact absurd c23 (by decide)
    · refine ww_iload_n dX11_would_26 rfl rfl ?_
      refine ww_iconst (v := nI 0) dX11_would_27 (by decide) ?_
      refine ww_iconst (v := nI 2) dX11_would_28 (by decide) ?_
      refine ww_cSr (M := m_X11_would) (pc := 29) (v := .int (nI 1)) (h1 := hp_sF h m 0 (.int (nI 0))) (st := [.ref m]) (bc := 0) (bs := 0) (c_M_within_t hst (nI w) (nI 0) (nI 2) (nI_le (by omega) (by omega)) (nI_le (by omega) (by omega)) _) vv_X11_within dX11_would_29 wg_1601 rfl rfl rfl (Nat.le_of_ble_eq_true rfl) (Nat.le_of_ble_eq_true rfl) (Nat.le_of_ble_eq_true rfl) (Nat.le_of_ble_eq_true rfl) ?_
      refine ww_if_eqN (tgt := 73) dX11_would_32 (by decide) (by omega) (fun c32 => ?_) (fun c32 => ?_)
      · exact absurd c32 (by decide)
      · refine ww_iload dX11_would_35 rfl ?_
        refine ww_iconst (v := nI 0) dX11_would_37 (by decide) ?_
        refine ww_iconst (v := nI 5) dX11_would_38 (by decide) ?_
        refine ww_cSr (M := m_X11_would) (pc := 39) (v := .int (nI 1)) (h1 := hp_sF h m 0 (.int (nI 0))) (st := [.ref m]) (bc := 0) (bs := 0) (c_M_within_t hst (nI o) (nI 0) (nI 5) (nI_le (by omega) (by omega)) (nI_le (by omega) (by omega)) _) vv_X11_within dX11_would_39 wg_1601 rfl rfl rfl (Nat.le_of_ble_eq_true rfl) (Nat.le_of_ble_eq_true rfl) (Nat.le_of_ble_eq_true rfl) (Nat.le_of_ble_eq_true rfl) ?_
        refine ww_if_eqN (tgt := 73) dX11_would_42 (by decide) (by omega) (fun c42 => ?_) (fun c42 => ?_)
        · exact absurd c42 (by decide)
        · refine ww_iload dX11_would_45 rfl ?_
          refine ww_iconst (v := nI 0) dX11_would_47 (by decide) ?_
          refine ww_sipush (v := nI 999) dX11_would_48 (by decide) ?_
          refine ww_cSr (M := m_X11_would) (pc := 51) (v := .int (nI 1)) (h1 := hp_sF h m 0 (.int (nI 0))) (st := [.ref m]) (bc := 0) (bs := 0) (c_M_within_t hst (nI u) (nI 0) (nI 999) (nI_le (by omega) (by omega)) (nI_le (by omega) (by omega)) _) vv_X11_within dX11_would_51 wg_1601 rfl rfl rfl (Nat.le_of_ble_eq_true rfl) (Nat.le_of_ble_eq_true rfl) (Nat.le_of_ble_eq_true rfl) (Nat.le_of_ble_eq_true rfl) ?_
          refine ww_if_eqN (tgt := 73) dX11_would_54 (by decide) (by omega) (fun c54 => ?_) (fun c54 => ?_)
          · exact absurd c54 (by decide)
          · refine ww_iload dX11_would_57 rfl ?_
            refine ww_iconst (v := nI 0) dX11_would_59 (by decide) ?_
            refine ww_sipush (v := nI 900) dX11_would_60 (by decide) ?_
            refine ww_cSr (M := m_X11_would) (pc := 63) (v := .int (nI 1)) (h1 := hp_sF h m 0 (.int (nI 0))) (st := [.ref m]) (bc := 0) (bs := 0) (c_M_within_t hst (nI dd) (nI 0) (nI 900) (nI_le (by omega) (by omega)) (nI_le (by omega) (by omega)) _) vv_X11_within dX11_would_63 wg_1601 rfl rfl rfl (Nat.le_of_ble_eq_true rfl) (Nat.le_of_ble_eq_true rfl) (Nat.le_of_ble_eq_true rfl) (Nat.le_of_ble_eq_true rfl) ?_
            refine ww_if_eqN (tgt := 73) dX11_would_66 (by decide) (by omega) (fun c66 => ?_) (fun c66 => ?_)
            · exact absurd c66 (by decide)
            · refine ww_iconst (v := nI 1) dX11_would_69 (by decide) ?_
              refine ww_goto (tgt := 74) dX11_would_70 (by decide) ?_
              refine ww_iconst (v := nI 1) dX11_would_74 (by decide) ?_
              refine ww_iconst (v := nI 1) dX11_would_75 (by decide) ?_
              refine ww_cVr (M := m_X11_would) (pc := 76) (v := .int (nI 1)) (h1 := hp_sF h m 0 (.int (nI 0))) (st := []) (bc := 0) (bs := 0) (c_M_may_t hst (h := hp_sF h m 0 (.int (nI 0))) (ModS.sF hM (by decide)) (hp_F_eq _ _ _ _) (nI 1) (nI 1)) vv_X11_may dX11_would_76 wg_1413 hM.K0 rfl rfl rfl rfl (Nat.le_of_ble_eq_true rfl) (Nat.le_of_ble_eq_true rfl) (Nat.le_of_ble_eq_true rfl) (Nat.le_of_ble_eq_true rfl) ?_
              refine ww_if_neN (tgt := 84) dX11_would_79 (by decide) (by omega) (fun c79 => ?_) (fun c79 => ?_)
              · refine ww_aload_n dX11_would_84 rfl rfl ?_
                refine ww_iload_n dX11_would_85 rfl rfl ?_
                refine ww_iload_n dX11_would_86 rfl rfl ?_
                refine ww_iload_n dX11_would_87 rfl rfl ?_
                refine ww_iload dX11_would_88 rfl ?_
                refine ww_iload dX11_would_90 rfl ?_
                refine ww_iload dX11_would_92 rfl ?_
                refine ww_cVq (M := m_X11_would) (pc := 94) (v := .int (askV joinC (joinC (nI 5)) sz kf vf (nI n) (nI r) (nI w) (nI o) (nI u) (nI dd) (js_parts.getD n 0))) (st := []) (bc := 0) (bs := 0) (c_M_fareOf hst (h := hp_sF h m 0 (.int (nI 0))) (ModS.sF hM (by decide)) (hQ.same (X := SX m) (Y := SY m) (Same.rf.sF (SY0 m)) (SX_no (by decide)) (SX_no (by decide)) (SY_no (by decide))) hok n hn (nI r) w hw (nI o) (nI u) (nI dd)) vv_X11_fareOf dX11_would_94 wg_1559 hM.K0 rfl rfl rfl rfl (Nat.le_of_ble_eq_true rfl) (Nat.le_of_ble_eq_true rfl) (Nat.le_of_ble_eq_true rfl) (Nat.le_of_ble_eq_true rfl) (fun h9 q9 => ?_)
                exact ww_iret dX11_would_97 rfl ⟨rfl, ((Same.rf.sF (SY0 m)).tr (q9.mono (fun c hc => hc.elim (fun e => e ▸ SX10 m) (fun e => e ▸ SX11 m)) (fun _ _ e => e.elim))), ((q9.2.2.1 _ _ (fun e => e)).trans (hp_F_eq _ _ _ _))⟩
              · exact absurd c79 (by decide)
set_option maxHeartbeats 4000000 in
set_option maxRecDepth 100000 in
theorem c_M_would_no0 {l : Launch} {Z : EE} (hst : l.stackTraces = false) {h : PH} {m : Nat} (hM : ModS h m) {sz : Nat} {kf vf : Nat → Int32} (hQ : LawM h m sz kf vf) (hok : LawOK kf vf sz) (n : Int32) (r : Int32) (w : Int32) (o : Int32) (u : Int32) (dd : Int32) (hout : outR 0 60 n) : CC l Z m_X11_would 4 0 0 [.ref m, .int n, .int r, .int w, .int o, .int u, .int dd] h (MNo 1 1 m h) := by
  refine ee_entry hst (by decide +kernel) rfl rfl (by simp [Value.category]) (Nat.le_of_ble_eq_true rfl) ?_
  refine ww_lv (lv2 := [.ref m, .int n, .int r, .int w, .int o, .int u, .int dd]) rfl ?_
  refine ww_aload_n dX11_would_0 rfl rfl ?_
  refine ww_iconst (v := nI 0) dX11_would_1 (by decide) ?_
  refine ww_pfI tyX11 0 dX11_would_2 hM.K0 rfl (by decide) inX11 tyX11_ok nmX11 wg_1240 rfl rfl ?_
  refine ww_aload_n dX11_would_5 rfl rfl ?_
  refine ww_iload_n dX11_would_6 rfl rfl ?_
  refine ww_iconst (v := nI 0) dX11_would_7 (by decide) ?_
  refine ww_bipush (v := nI 60) dX11_would_8 (by decide) ?_
  refine ww_cSr (M := m_X11_would) (pc := 10) (v := .int (nI 0)) (h1 := hp_sF h m 0 (.int (nI 0))) (st := [.ref m]) (bc := 0) (bs := 0) (c_M_within_f hst n (nI 0) (nI 60) hout _) vv_X11_within dX11_would_10 wg_1601 rfl rfl rfl (Nat.le_of_ble_eq_true rfl) (Nat.le_of_ble_eq_true rfl) (Nat.le_of_ble_eq_true rfl) (Nat.le_of_ble_eq_true rfl) ?_
  refine ww_if_eqN (tgt := 73) dX11_would_13 (by decide) (by omega) (fun c13 => ?_) (fun c13 => ?_)
  · refine ww_iconst (v := nI 0) dX11_would_73 (by decide) ?_
    refine ww_iconst (v := nI 1) dX11_would_74 (by decide) ?_
    refine ww_iconst (v := nI 1) dX11_would_75 (by decide) ?_
    refine ww_cVr (M := m_X11_would) (pc := 76) (v := .int (nI 0)) (h1 := hp_sI (hp_sF (hp_sF h m 0 (.int (nI 0))) m 0 (.int (nI 1))) (m + 1) (upd (hp_I (hp_sF h m 0 (.int (nI 0))) (m + 1)) 1 (hp_I (hp_sF h m 0 (.int (nI 0))) (m + 1) 1 + nI 1))) (st := []) (bc := 0) (bs := 0) (c_M_may_f hst (h := hp_sF h m 0 (.int (nI 0))) (ModS.sF hM (by decide)) (hp_F_eq _ _ _ _) 1 1 (by decide) (by decide) (by decide)) vv_X11_may dX11_would_76 wg_1413 hM.K0 rfl rfl rfl rfl (Nat.le_of_ble_eq_true rfl) (Nat.le_of_ble_eq_true rfl) (Nat.le_of_ble_eq_true rfl) (Nat.le_of_ble_eq_true rfl) ?_
    refine ww_if_neN (tgt := 84) dX11_would_79 (by decide) (by omega) (fun c79 => ?_) (fun c79 => ?_)
    · exact absurd c79 (by decide)
    · refine ww_iconst (v := nI 0) dX11_would_82 (by decide) ?_
      exact ww_iret dX11_would_83 rfl ⟨rfl, (((Same.rf.sF (SY0 m)).sF (SY0 m)).sI (Or.inr rfl)), (hp_F_eq _ _ _ _), by rw [hp_I_eq]; rfl⟩
  · exact absurd c13 (by decide)
set_option maxHeartbeats 4000000 in
set_option maxRecDepth 100000 in
theorem c_M_would_no1 {l : Launch} {Z : EE} (hst : l.stackTraces = false) {h : PH} {m : Nat} (hM : ModS h m) {sz : Nat} {kf vf : Nat → Int32} (hQ : LawM h m sz kf vf) (hok : LawOK kf vf sz) (n : Nat) (ln : 0 ≤ n) (hn : n ≤ 60) (r : Int32) (w : Int32) (o : Int32) (u : Int32) (dd : Int32) (hout : outR 0 40 r) : CC l Z m_X11_would 4 0 0 [.ref m, .int (nI n), .int r, .int w, .int o, .int u, .int dd] h (MNo 1 1 m h) := by
  refine ee_entry hst (by decide +kernel) rfl rfl (by simp [Value.category]) (Nat.le_of_ble_eq_true rfl) ?_
  refine ww_lv (lv2 := [.ref m, .int (nI n), .int r, .int w, .int o, .int u, .int dd]) rfl ?_
  refine ww_aload_n dX11_would_0 rfl rfl ?_
  refine ww_iconst (v := nI 0) dX11_would_1 (by decide) ?_
  refine ww_pfI tyX11 0 dX11_would_2 hM.K0 rfl (by decide) inX11 tyX11_ok nmX11 wg_1240 rfl rfl ?_
  refine ww_aload_n dX11_would_5 rfl rfl ?_
  refine ww_iload_n dX11_would_6 rfl rfl ?_
  refine ww_iconst (v := nI 0) dX11_would_7 (by decide) ?_
  refine ww_bipush (v := nI 60) dX11_would_8 (by decide) ?_
  refine ww_cSr (M := m_X11_would) (pc := 10) (v := .int (nI 1)) (h1 := hp_sF h m 0 (.int (nI 0))) (st := [.ref m]) (bc := 0) (bs := 0) (c_M_within_t hst (nI n) (nI 0) (nI 60) (nI_le (by omega) (by omega)) (nI_le (by omega) (by omega)) _) vv_X11_within dX11_would_10 wg_1601 rfl rfl rfl (Nat.le_of_ble_eq_true rfl) (Nat.le_of_ble_eq_true rfl) (Nat.le_of_ble_eq_true rfl) (Nat.le_of_ble_eq_true rfl) ?_
  refine ww_if_eqN (tgt := 73) dX11_would_13 (by decide) (by omega) (fun c13 => ?_) (fun c13 => ?_)
  · exact absurd c13 (by decide)
  · refine ww_iload_n dX11_would_16 rfl rfl ?_
    refine ww_iconst (v := nI 0) dX11_would_17 (by decide) ?_
    refine ww_bipush (v := nI 40) dX11_would_18 (by decide) ?_
    refine ww_cSr (M := m_X11_would) (pc := 20) (v := .int (nI 0)) (h1 := hp_sF h m 0 (.int (nI 0))) (st := [.ref m]) (bc := 0) (bs := 0) (c_M_within_f hst r (nI 0) (nI 40) hout _) vv_X11_within dX11_would_20 wg_1601 rfl rfl rfl (Nat.le_of_ble_eq_true rfl) (Nat.le_of_ble_eq_true rfl) (Nat.le_of_ble_eq_true rfl) (Nat.le_of_ble_eq_true rfl) ?_
    refine ww_if_eqN (tgt := 73) dX11_would_23 (by decide) (by omega) (fun c23 => ?_) (fun c23 => ?_)
    · refine ww_iconst (v := nI 0) dX11_would_73 (by decide) ?_
      refine ww_iconst (v := nI 1) dX11_would_74 (by decide) ?_
      refine ww_iconst (v := nI 1) dX11_would_75 (by decide) ?_
      refine ww_cVr (M := m_X11_would) (pc := 76) (v := .int (nI 0)) (h1 := hp_sI (hp_sF (hp_sF h m 0 (.int (nI 0))) m 0 (.int (nI 1))) (m + 1) (upd (hp_I (hp_sF h m 0 (.int (nI 0))) (m + 1)) 1 (hp_I (hp_sF h m 0 (.int (nI 0))) (m + 1) 1 + nI 1))) (st := []) (bc := 0) (bs := 0) (c_M_may_f hst (h := hp_sF h m 0 (.int (nI 0))) (ModS.sF hM (by decide)) (hp_F_eq _ _ _ _) 1 1 (by decide) (by decide) (by decide)) vv_X11_may dX11_would_76 wg_1413 hM.K0 rfl rfl rfl rfl (Nat.le_of_ble_eq_true rfl) (Nat.le_of_ble_eq_true rfl) (Nat.le_of_ble_eq_true rfl) (Nat.le_of_ble_eq_true rfl) ?_
      refine ww_if_neN (tgt := 84) dX11_would_79 (by decide) (by omega) (fun c79 => ?_) (fun c79 => ?_)
      · exact absurd c79 (by decide)
      · refine ww_iconst (v := nI 0) dX11_would_82 (by decide) ?_
        exact ww_iret dX11_would_83 rfl ⟨rfl, (((Same.rf.sF (SY0 m)).sF (SY0 m)).sI (Or.inr rfl)), (hp_F_eq _ _ _ _), by rw [hp_I_eq]; rfl⟩
    · exact absurd c23 (by decide)
set_option maxHeartbeats 4000000 in
set_option maxRecDepth 100000 in
theorem c_M_would_no2 {l : Launch} {Z : EE} (hst : l.stackTraces = false) {h : PH} {m : Nat} (hM : ModS h m) {sz : Nat} {kf vf : Nat → Int32} (hQ : LawM h m sz kf vf) (hok : LawOK kf vf sz) (n : Nat) (ln : 0 ≤ n) (hn : n ≤ 60) (r : Nat) (lr : 0 ≤ r) (hr : r ≤ 40) (w : Int32) (o : Int32) (u : Int32) (dd : Int32) (hout : outR 0 2 w) : CC l Z m_X11_would 4 0 0 [.ref m, .int (nI n), .int (nI r), .int w, .int o, .int u, .int dd] h (MNo 1 1 m h) := by
  refine ee_entry hst (by decide +kernel) rfl rfl (by simp [Value.category]) (Nat.le_of_ble_eq_true rfl) ?_
  refine ww_lv (lv2 := [.ref m, .int (nI n), .int (nI r), .int w, .int o, .int u, .int dd]) rfl ?_
  refine ww_aload_n dX11_would_0 rfl rfl ?_
  refine ww_iconst (v := nI 0) dX11_would_1 (by decide) ?_
  refine ww_pfI tyX11 0 dX11_would_2 hM.K0 rfl (by decide) inX11 tyX11_ok nmX11 wg_1240 rfl rfl ?_
  refine ww_aload_n dX11_would_5 rfl rfl ?_
  refine ww_iload_n dX11_would_6 rfl rfl ?_
  refine ww_iconst (v := nI 0) dX11_would_7 (by decide) ?_
  refine ww_bipush (v := nI 60) dX11_would_8 (by decide) ?_
  refine ww_cSr (M := m_X11_would) (pc := 10) (v := .int (nI 1)) (h1 := hp_sF h m 0 (.int (nI 0))) (st := [.ref m]) (bc := 0) (bs := 0) (c_M_within_t hst (nI n) (nI 0) (nI 60) (nI_le (by omega) (by omega)) (nI_le (by omega) (by omega)) _) vv_X11_within dX11_would_10 wg_1601 rfl rfl rfl (Nat.le_of_ble_eq_true rfl) (Nat.le_of_ble_eq_true rfl) (Nat.le_of_ble_eq_true rfl) (Nat.le_of_ble_eq_true rfl) ?_
  refine ww_if_eqN (tgt := 73) dX11_would_13 (by decide) (by omega) (fun c13 => ?_) (fun c13 => ?_)
  · exact absurd c13 (by decide)
  · refine ww_iload_n dX11_would_16 rfl rfl ?_
    refine ww_iconst (v := nI 0) dX11_would_17 (by decide) ?_
    refine ww_bipush (v := nI 40) dX11_would_18 (by decide) ?_
    refine ww_cSr (M := m_X11_would) (pc := 20) (v := .int (nI 1)) (h1 := hp_sF h m 0 (.int (nI 0))) (st := [.ref m]) (bc := 0) (bs := 0) (c_M_within_t hst (nI r) (nI 0) (nI 40) (nI_le (by omega) (by omega)) (nI_le (by omega) (by omega)) _) vv_X11_within dX11_would_20 wg_1601 rfl rfl rfl (Nat.le_of_ble_eq_true rfl) (Nat.le_of_ble_eq_true rfl) (Nat.le_of_ble_eq_true rfl) (Nat.le_of_ble_eq_true rfl) ?_
    refine ww_if_eqN (tgt := 73) dX11_would_23 (by decide) (by omega) (fun c23 => ?_) (fun c23 => ?_)
    · exact absurd c23 (by decide)
    · refine ww_iload_n dX11_would_26 rfl rfl ?_
      refine ww_iconst (v := nI 0) dX11_would_27 (by decide) ?_
      refine ww_iconst (v := nI 2) dX11_would_28 (by decide) ?_
      refine ww_cSr (M := m_X11_would) (pc := 29) (v := .int (nI 0)) (h1 := hp_sF h m 0 (.int (nI 0))) (st := [.ref m]) (bc := 0) (bs := 0) (c_M_within_f hst w (nI 0) (nI 2) hout _) vv_X11_within dX11_would_29 wg_1601 rfl rfl rfl (Nat.le_of_ble_eq_true rfl) (Nat.le_of_ble_eq_true rfl) (Nat.le_of_ble_eq_true rfl) (Nat.le_of_ble_eq_true rfl) ?_
      refine ww_if_eqN (tgt := 73) dX11_would_32 (by decide) (by omega) (fun c32 => ?_) (fun c32 => ?_)
      · refine ww_iconst (v := nI 0) dX11_would_73 (by decide) ?_
        refine ww_iconst (v := nI 1) dX11_would_74 (by decide) ?_
        refine ww_iconst (v := nI 1) dX11_would_75 (by decide) ?_
        refine ww_cVr (M := m_X11_would) (pc := 76) (v := .int (nI 0)) (h1 := hp_sI (hp_sF (hp_sF h m 0 (.int (nI 0))) m 0 (.int (nI 1))) (m + 1) (upd (hp_I (hp_sF h m 0 (.int (nI 0))) (m + 1)) 1 (hp_I (hp_sF h m 0 (.int (nI 0))) (m + 1) 1 + nI 1))) (st := []) (bc := 0) (bs := 0) (c_M_may_f hst (h := hp_sF h m 0 (.int (nI 0))) (ModS.sF hM (by decide)) (hp_F_eq _ _ _ _) 1 1 (by decide) (by decide) (by decide)) vv_X11_may dX11_would_76 wg_1413 hM.K0 rfl rfl rfl rfl (Nat.le_of_ble_eq_true rfl) (Nat.le_of_ble_eq_true rfl) (Nat.le_of_ble_eq_true rfl) (Nat.le_of_ble_eq_true rfl) ?_
        refine ww_if_neN (tgt := 84) dX11_would_79 (by decide) (by omega) (fun c79 => ?_) (fun c79 => ?_)
        · exact absurd c79 (by decide)
        · refine ww_iconst (v := nI 0) dX11_would_82 (by decide) ?_
          exact ww_iret dX11_would_83 rfl ⟨rfl, (((Same.rf.sF (SY0 m)).sF (SY0 m)).sI (Or.inr rfl)), (hp_F_eq _ _ _ _), by rw [hp_I_eq]; rfl⟩
      · exact absurd c32 (by decide)
set_option maxHeartbeats 4000000 in
set_option maxRecDepth 100000 in
theorem c_M_would_no3 {l : Launch} {Z : EE} (hst : l.stackTraces = false) {h : PH} {m : Nat} (hM : ModS h m) {sz : Nat} {kf vf : Nat → Int32} (hQ : LawM h m sz kf vf) (hok : LawOK kf vf sz) (n : Nat) (ln : 0 ≤ n) (hn : n ≤ 60) (r : Nat) (lr : 0 ≤ r) (hr : r ≤ 40) (w : Nat) (lw : 0 ≤ w) (hw : w ≤ 2) (o : Int32) (u : Int32) (dd : Int32) (hout : outR 0 5 o) : CC l Z m_X11_would 4 0 0 [.ref m, .int (nI n), .int (nI r), .int (nI w), .int o, .int u, .int dd] h (MNo 1 1 m h) := by
  refine ee_entry hst (by decide +kernel) rfl rfl (by simp [Value.category]) (Nat.le_of_ble_eq_true rfl) ?_
  refine ww_lv (lv2 := [.ref m, .int (nI n), .int (nI r), .int (nI w), .int o, .int u, .int dd]) rfl ?_
  refine ww_aload_n dX11_would_0 rfl rfl ?_
  refine ww_iconst (v := nI 0) dX11_would_1 (by decide) ?_
  refine ww_pfI tyX11 0 dX11_would_2 hM.K0 rfl (by decide) inX11 tyX11_ok nmX11 wg_1240 rfl rfl ?_
  refine ww_aload_n dX11_would_5 rfl rfl ?_
  refine ww_iload_n dX11_would_6 rfl rfl ?_
  refine ww_iconst (v := nI 0) dX11_would_7 (by decide) ?_
  refine ww_bipush (v := nI 60) dX11_would_8 (by decide) ?_
  refine ww_cSr (M := m_X11_would) (pc := 10) (v := .int (nI 1)) (h1 := hp_sF h m 0 (.int (nI 0))) (st := [.ref m]) (bc := 0) (bs := 0) (c_M_within_t hst (nI n) (nI 0) (nI 60) (nI_le (by omega) (by omega)) (nI_le (by omega) (by omega)) _) vv_X11_within dX11_would_10 wg_1601 rfl rfl rfl (Nat.le_of_ble_eq_true rfl) (Nat.le_of_ble_eq_true rfl) (Nat.le_of_ble_eq_true rfl) (Nat.le_of_ble_eq_true rfl) ?_
  refine ww_if_eqN (tgt := 73) dX11_would_13 (by decide) (by omega) (fun c13 => ?_) (fun c13 => ?_)
  · exact absurd c13 (by decide)
  · refine ww_iload_n dX11_would_16 rfl rfl ?_
    refine ww_iconst (v := nI 0) dX11_would_17 (by decide) ?_
    refine ww_bipush (v := nI 40) dX11_would_18 (by decide) ?_
    refine ww_cSr (M := m_X11_would) (pc := 20) (v := .int (nI 1)) (h1 := hp_sF h m 0 (.int (nI 0))) (st := [.ref m]) (bc := 0) (bs := 0) (c_M_within_t hst (nI r) (nI 0) (nI 40) (nI_le (by omega) (by omega)) (nI_le (by omega) (by omega)) _) vv_X11_within dX11_would_20 wg_1601 rfl rfl rfl (Nat.le_of_ble_eq_true rfl) (Nat.le_of_ble_eq_true rfl) (Nat.le_of_ble_eq_true rfl) (Nat.le_of_ble_eq_true rfl) ?_
    refine ww_if_eqN (tgt := 73) dX11_would_23 (by decide) (by omega) (fun c23 => ?_) (fun c23 => ?_)
    · exact absurd c23 (by decide)
    · refine ww_iload_n dX11_would_26 rfl rfl ?_
      refine ww_iconst (v := nI 0) dX11_would_27 (by decide) ?_
      refine ww_iconst (v := nI 2) dX11_would_28 (by decide) ?_
      refine ww_cSr (M := m_X11_would) (pc := 29) (v := .int (nI 1)) (h1 := hp_sF h m 0 (.int (nI 0))) (st := [.ref m]) (bc := 0) (bs := 0) (c_M_within_t hst (nI w) (nI 0) (nI 2) (nI_le (by omega) (by omega)) (nI_le (by omega) (by omega)) _) vv_X11_within dX11_would_29 wg_1601 rfl rfl rfl (Nat.le_of_ble_eq_true rfl) (Nat.le_of_ble_eq_true rfl) (Nat.le_of_ble_eq_true rfl) (Nat.le_of_ble_eq_true rfl) ?_
      refine ww_if_eqN (tgt := 73) dX11_would_32 (by decide) (by omega) (fun c32 => ?_) (fun c32 => ?_)
      · exact absurd c32 (by decide)
      · refine ww_iload dX11_would_35 rfl ?_
        refine ww_iconst (v := nI 0) dX11_would_37 (by decide) ?_
        refine ww_iconst (v := nI 5) dX11_would_38 (by decide) ?_
        refine ww_cSr (M := m_X11_would) (pc := 39) (v := .int (nI 0)) (h1 := hp_sF h m 0 (.int (nI 0))) (st := [.ref m]) (bc := 0) (bs := 0) (c_M_within_f hst o (nI 0) (nI 5) hout _) vv_X11_within dX11_would_39 wg_1601 rfl rfl rfl (Nat.le_of_ble_eq_true rfl) (Nat.le_of_ble_eq_true rfl) (Nat.le_of_ble_eq_true rfl) (Nat.le_of_ble_eq_true rfl) ?_
        refine ww_if_eqN (tgt := 73) dX11_would_42 (by decide) (by omega) (fun c42 => ?_) (fun c42 => ?_)
        · refine ww_iconst (v := nI 0) dX11_would_73 (by decide) ?_
          refine ww_iconst (v := nI 1) dX11_would_74 (by decide) ?_
          refine ww_iconst (v := nI 1) dX11_would_75 (by decide) ?_
          refine ww_cVr (M := m_X11_would) (pc := 76) (v := .int (nI 0)) (h1 := hp_sI (hp_sF (hp_sF h m 0 (.int (nI 0))) m 0 (.int (nI 1))) (m + 1) (upd (hp_I (hp_sF h m 0 (.int (nI 0))) (m + 1)) 1 (hp_I (hp_sF h m 0 (.int (nI 0))) (m + 1) 1 + nI 1))) (st := []) (bc := 0) (bs := 0) (c_M_may_f hst (h := hp_sF h m 0 (.int (nI 0))) (ModS.sF hM (by decide)) (hp_F_eq _ _ _ _) 1 1 (by decide) (by decide) (by decide)) vv_X11_may dX11_would_76 wg_1413 hM.K0 rfl rfl rfl rfl (Nat.le_of_ble_eq_true rfl) (Nat.le_of_ble_eq_true rfl) (Nat.le_of_ble_eq_true rfl) (Nat.le_of_ble_eq_true rfl) ?_
          refine ww_if_neN (tgt := 84) dX11_would_79 (by decide) (by omega) (fun c79 => ?_) (fun c79 => ?_)
          · exact absurd c79 (by decide)
          · refine ww_iconst (v := nI 0) dX11_would_82 (by decide) ?_
            exact ww_iret dX11_would_83 rfl ⟨rfl, (((Same.rf.sF (SY0 m)).sF (SY0 m)).sI (Or.inr rfl)), (hp_F_eq _ _ _ _), by rw [hp_I_eq]; rfl⟩
        · exact absurd c42 (by decide)
set_option maxHeartbeats 4000000 in
set_option maxRecDepth 100000 in
theorem c_M_would_no4 {l : Launch} {Z : EE} (hst : l.stackTraces = false) {h : PH} {m : Nat} (hM : ModS h m) {sz : Nat} {kf vf : Nat → Int32} (hQ : LawM h m sz kf vf) (hok : LawOK kf vf sz) (n : Nat) (ln : 0 ≤ n) (hn : n ≤ 60) (r : Nat) (lr : 0 ≤ r) (hr : r ≤ 40) (w : Nat) (lw : 0 ≤ w) (hw : w ≤ 2) (o : Nat) (lo : 0 ≤ o) (ho : o ≤ 5) (u : Int32) (dd : Int32) (hout : outR 0 999 u) : CC l Z m_X11_would 4 0 0 [.ref m, .int (nI n), .int (nI r), .int (nI w), .int (nI o), .int u, .int dd] h (MNo 1 1 m h) := by
  refine ee_entry hst (by decide +kernel) rfl rfl (by simp [Value.category]) (Nat.le_of_ble_eq_true rfl) ?_
  refine ww_lv (lv2 := [.ref m, .int (nI n), .int (nI r), .int (nI w), .int (nI o), .int u, .int dd]) rfl ?_
  refine ww_aload_n dX11_would_0 rfl rfl ?_
  refine ww_iconst (v := nI 0) dX11_would_1 (by decide) ?_
  refine ww_pfI tyX11 0 dX11_would_2 hM.K0 rfl (by decide) inX11 tyX11_ok nmX11 wg_1240 rfl rfl ?_
  refine ww_aload_n dX11_would_5 rfl rfl ?_
  refine ww_iload_n dX11_would_6 rfl rfl ?_
  refine ww_iconst (v := nI 0) dX11_would_7 (by decide) ?_
  refine ww_bipush (v := nI 60) dX11_would_8 (by decide) ?_
  refine ww_cSr (M := m_X11_would) (pc := 10) (v := .int (nI 1)) (h1 := hp_sF h m 0 (.int (nI 0))) (st := [.ref m]) (bc := 0) (bs := 0) (c_M_within_t hst (nI n) (nI 0) (nI 60) (nI_le (by omega) (by omega)) (nI_le (by omega) (by omega)) _) vv_X11_within dX11_would_10 wg_1601 rfl rfl rfl (Nat.le_of_ble_eq_true rfl) (Nat.le_of_ble_eq_true rfl) (Nat.le_of_ble_eq_true rfl) (Nat.le_of_ble_eq_true rfl) ?_
  refine ww_if_eqN (tgt := 73) dX11_would_13 (by decide) (by omega) (fun c13 => ?_) (fun c13 => ?_)
  · exact absurd c13 (by decide)
  · refine ww_iload_n dX11_would_16 rfl rfl ?_
    refine ww_iconst (v := nI 0) dX11_would_17 (by decide) ?_
    refine ww_bipush (v := nI 40) dX11_would_18 (by decide) ?_
    refine ww_cSr (M := m_X11_would) (pc := 20) (v := .int (nI 1)) (h1 := hp_sF h m 0 (.int (nI 0))) (st := [.ref m]) (bc := 0) (bs := 0) (c_M_within_t hst (nI r) (nI 0) (nI 40) (nI_le (by omega) (by omega)) (nI_le (by omega) (by omega)) _) vv_X11_within dX11_would_20 wg_1601 rfl rfl rfl (Nat.le_of_ble_eq_true rfl) (Nat.le_of_ble_eq_true rfl) (Nat.le_of_ble_eq_true rfl) (Nat.le_of_ble_eq_true rfl) ?_
    refine ww_if_eqN (tgt := 73) dX11_would_23 (by decide) (by omega) (fun c23 => ?_) (fun c23 => ?_)
    · exact absurd c23 (by decide)
    · refine ww_iload_n dX11_would_26 rfl rfl ?_
      refine ww_iconst (v := nI 0) dX11_would_27 (by decide) ?_
      refine ww_iconst (v := nI 2) dX11_would_28 (by decide) ?_
      refine ww_cSr (M := m_X11_would) (pc := 29) (v := .int (nI 1)) (h1 := hp_sF h m 0 (.int (nI 0))) (st := [.ref m]) (bc := 0) (bs := 0) (c_M_within_t hst (nI w) (nI 0) (nI 2) (nI_le (by omega) (by omega)) (nI_le (by omega) (by omega)) _) vv_X11_within dX11_would_29 wg_1601 rfl rfl rfl (Nat.le_of_ble_eq_true rfl) (Nat.le_of_ble_eq_true rfl) (Nat.le_of_ble_eq_true rfl) (Nat.le_of_ble_eq_true rfl) ?_
      refine ww_if_eqN (tgt := 73) dX11_would_32 (by decide) (by omega) (fun c32 => ?_) (fun c32 => ?_)
      · exact absurd c32 (by decide)
      · refine ww_iload dX11_would_35 rfl ?_
        refine ww_iconst (v := nI 0) dX11_would_37 (by decide) ?_
        refine ww_iconst (v := nI 5) dX11_would_38 (by decide) ?_
        refine ww_cSr (M := m_X11_would) (pc := 39) (v := .int (nI 1)) (h1 := hp_sF h m 0 (.int (nI 0))) (st := [.ref m]) (bc := 0) (bs := 0) (c_M_within_t hst (nI o) (nI 0) (nI 5) (nI_le (by omega) (by omega)) (nI_le (by omega) (by omega)) _) vv_X11_within dX11_would_39 wg_1601 rfl rfl rfl (Nat.le_of_ble_eq_true rfl) (Nat.le_of_ble_eq_true rfl) (Nat.le_of_ble_eq_true rfl) (Nat.le_of_ble_eq_true rfl) ?_
        refine ww_if_eqN (tgt := 73) dX11_would_42 (by decide) (by omega) (fun c42 => ?_) (fun c42 => ?_)
        · exact absurd c42 (by decide)
        · refine ww_iload dX11_would_45 rfl ?_
          refine ww_iconst (v := nI 0) dX11_would_47 (by decide) ?_
          refine ww_sipush (v := nI 999) dX11_would_48 (by decide) ?_
          refine ww_cSr (M := m_X11_would) (pc := 51) (v := .int (nI 0)) (h1 := hp_sF h m 0 (.int (nI 0))) (st := [.ref m]) (bc := 0) (bs := 0) (c_M_within_f hst u (nI 0) (nI 999) hout _) vv_X11_within dX11_would_51 wg_1601 rfl rfl rfl (Nat.le_of_ble_eq_true rfl) (Nat.le_of_ble_eq_true rfl) (Nat.le_of_ble_eq_true rfl) (Nat.le_of_ble_eq_true rfl) ?_
          refine ww_if_eqN (tgt := 73) dX11_would_54 (by decide) (by omega) (fun c54 => ?_) (fun c54 => ?_)
          · refine ww_iconst (v := nI 0) dX11_would_73 (by decide) ?_
            refine ww_iconst (v := nI 1) dX11_would_74 (by decide) ?_
            refine ww_iconst (v := nI 1) dX11_would_75 (by decide) ?_
            refine ww_cVr (M := m_X11_would) (pc := 76) (v := .int (nI 0)) (h1 := hp_sI (hp_sF (hp_sF h m 0 (.int (nI 0))) m 0 (.int (nI 1))) (m + 1) (upd (hp_I (hp_sF h m 0 (.int (nI 0))) (m + 1)) 1 (hp_I (hp_sF h m 0 (.int (nI 0))) (m + 1) 1 + nI 1))) (st := []) (bc := 0) (bs := 0) (c_M_may_f hst (h := hp_sF h m 0 (.int (nI 0))) (ModS.sF hM (by decide)) (hp_F_eq _ _ _ _) 1 1 (by decide) (by decide) (by decide)) vv_X11_may dX11_would_76 wg_1413 hM.K0 rfl rfl rfl rfl (Nat.le_of_ble_eq_true rfl) (Nat.le_of_ble_eq_true rfl) (Nat.le_of_ble_eq_true rfl) (Nat.le_of_ble_eq_true rfl) ?_
            refine ww_if_neN (tgt := 84) dX11_would_79 (by decide) (by omega) (fun c79 => ?_) (fun c79 => ?_)
            · exact absurd c79 (by decide)
            · refine ww_iconst (v := nI 0) dX11_would_82 (by decide) ?_
              exact ww_iret dX11_would_83 rfl ⟨rfl, (((Same.rf.sF (SY0 m)).sF (SY0 m)).sI (Or.inr rfl)), (hp_F_eq _ _ _ _), by rw [hp_I_eq]; rfl⟩
          · exact absurd c54 (by decide)
set_option maxHeartbeats 4000000 in
set_option maxRecDepth 100000 in
theorem c_M_would_no5 {l : Launch} {Z : EE} (hst : l.stackTraces = false) {h : PH} {m : Nat} (hM : ModS h m) {sz : Nat} {kf vf : Nat → Int32} (hQ : LawM h m sz kf vf) (hok : LawOK kf vf sz) (n : Nat) (ln : 0 ≤ n) (hn : n ≤ 60) (r : Nat) (lr : 0 ≤ r) (hr : r ≤ 40) (w : Nat) (lw : 0 ≤ w) (hw : w ≤ 2) (o : Nat) (lo : 0 ≤ o) (ho : o ≤ 5) (u : Nat) (lu : 0 ≤ u) (hu : u ≤ 999) (dd : Int32) (hout : outR 0 900 dd) : CC l Z m_X11_would 4 0 0 [.ref m, .int (nI n), .int (nI r), .int (nI w), .int (nI o), .int (nI u), .int dd] h (MNo 1 1 m h) := by
  refine ee_entry hst (by decide +kernel) rfl rfl (by simp [Value.category]) (Nat.le_of_ble_eq_true rfl) ?_
  refine ww_lv (lv2 := [.ref m, .int (nI n), .int (nI r), .int (nI w), .int (nI o), .int (nI u), .int dd]) rfl ?_
  refine ww_aload_n dX11_would_0 rfl rfl ?_
  refine ww_iconst (v := nI 0) dX11_would_1 (by decide) ?_
  refine ww_pfI tyX11 0 dX11_would_2 hM.K0 rfl (by decide) inX11 tyX11_ok nmX11 wg_1240 rfl rfl ?_
  refine ww_aload_n dX11_would_5 rfl rfl ?_
  refine ww_iload_n dX11_would_6 rfl rfl ?_
  refine ww_iconst (v := nI 0) dX11_would_7 (by decide) ?_
  refine ww_bipush (v := nI 60) dX11_would_8 (by decide) ?_
  refine ww_cSr (M := m_X11_would) (pc := 10) (v := .int (nI 1)) (h1 := hp_sF h m 0 (.int (nI 0))) (st := [.ref m]) (bc := 0) (bs := 0) (c_M_within_t hst (nI n) (nI 0) (nI 60) (nI_le (by omega) (by omega)) (nI_le (by omega) (by omega)) _) vv_X11_within dX11_would_10 wg_1601 rfl rfl rfl (Nat.le_of_ble_eq_true rfl) (Nat.le_of_ble_eq_true rfl) (Nat.le_of_ble_eq_true rfl) (Nat.le_of_ble_eq_true rfl) ?_
  refine ww_if_eqN (tgt := 73) dX11_would_13 (by decide) (by omega) (fun c13 => ?_) (fun c13 => ?_)
  · exact absurd c13 (by decide)
  · refine ww_iload_n dX11_would_16 rfl rfl ?_
    refine ww_iconst (v := nI 0) dX11_would_17 (by decide) ?_
    refine ww_bipush (v := nI 40) dX11_would_18 (by decide) ?_
    refine ww_cSr (M := m_X11_would) (pc := 20) (v := .int (nI 1)) (h1 := hp_sF h m 0 (.int (nI 0))) (st := [.ref m]) (bc := 0) (bs := 0) (c_M_within_t hst (nI r) (nI 0) (nI 40) (nI_le (by omega) (by omega)) (nI_le (by omega) (by omega)) _) vv_X11_within dX11_would_20 wg_1601 rfl rfl rfl (Nat.le_of_ble_eq_true rfl) (Nat.le_of_ble_eq_true rfl) (Nat.le_of_ble_eq_true rfl) (Nat.le_of_ble_eq_true rfl) ?_
    refine ww_if_eqN (tgt := 73) dX11_would_23 (by decide) (by omega) (fun c23 => ?_) (fun c23 => ?_)
    · exact absurd c23 (by decide)
    · refine ww_iload_n dX11_would_26 rfl rfl ?_
      refine ww_iconst (v := nI 0) dX11_would_27 (by decide) ?_
      refine ww_iconst (v := nI 2) dX11_would_28 (by decide) ?_
      refine ww_cSr (M := m_X11_would) (pc := 29) (v := .int (nI 1)) (h1 := hp_sF h m 0 (.int (nI 0))) (st := [.ref m]) (bc := 0) (bs := 0) (c_M_within_t hst (nI w) (nI 0) (nI 2) (nI_le (by omega) (by omega)) (nI_le (by omega) (by omega)) _) vv_X11_within dX11_would_29 wg_1601 rfl rfl rfl (Nat.le_of_ble_eq_true rfl) (Nat.le_of_ble_eq_true rfl) (Nat.le_of_ble_eq_true rfl) (Nat.le_of_ble_eq_true rfl) ?_
      refine ww_if_eqN (tgt := 73) dX11_would_32 (by decide) (by omega) (fun c32 => ?_) (fun c32 => ?_)
      · exact absurd c32 (by decide)
      · refine ww_iload dX11_would_35 rfl ?_
        refine ww_iconst (v := nI 0) dX11_would_37 (by decide) ?_
        refine ww_iconst (v := nI 5) dX11_would_38 (by decide) ?_
        refine ww_cSr (M := m_X11_would) (pc := 39) (v := .int (nI 1)) (h1 := hp_sF h m 0 (.int (nI 0))) (st := [.ref m]) (bc := 0) (bs := 0) (c_M_within_t hst (nI o) (nI 0) (nI 5) (nI_le (by omega) (by omega)) (nI_le (by omega) (by omega)) _) vv_X11_within dX11_would_39 wg_1601 rfl rfl rfl (Nat.le_of_ble_eq_true rfl) (Nat.le_of_ble_eq_true rfl) (Nat.le_of_ble_eq_true rfl) (Nat.le_of_ble_eq_true rfl) ?_
        refine ww_if_eqN (tgt := 73) dX11_would_42 (by decide) (by omega) (fun c42 => ?_) (fun c42 => ?_)
        · exact absurd c42 (by decide)
        · refine ww_iload dX11_would_45 rfl ?_
          refine ww_iconst (v := nI 0) dX11_would_47 (by decide) ?_
          refine ww_sipush (v := nI 999) dX11_would_48 (by decide) ?_
          refine ww_cSr (M := m_X11_would) (pc := 51) (v := .int (nI 1)) (h1 := hp_sF h m 0 (.int (nI 0))) (st := [.ref m]) (bc := 0) (bs := 0) (c_M_within_t hst (nI u) (nI 0) (nI 999) (nI_le (by omega) (by omega)) (nI_le (by omega) (by omega)) _) vv_X11_within dX11_would_51 wg_1601 rfl rfl rfl (Nat.le_of_ble_eq_true rfl) (Nat.le_of_ble_eq_true rfl) (Nat.le_of_ble_eq_true rfl) (Nat.le_of_ble_eq_true rfl) ?_
          refine ww_if_eqN (tgt := 73) dX11_would_54 (by decide) (by omega) (fun c54 => ?_) (fun c54 => ?_)
          · exact absurd c54 (by decide)
          · refine ww_iload dX11_would_57 rfl ?_
            refine ww_iconst (v := nI 0) dX11_would_59 (by decide) ?_
            refine ww_sipush (v := nI 900) dX11_would_60 (by decide) ?_
            refine ww_cSr (M := m_X11_would) (pc := 63) (v := .int (nI 0)) (h1 := hp_sF h m 0 (.int (nI 0))) (st := [.ref m]) (bc := 0) (bs := 0) (c_M_within_f hst dd (nI 0) (nI 900) hout _) vv_X11_within dX11_would_63 wg_1601 rfl rfl rfl (Nat.le_of_ble_eq_true rfl) (Nat.le_of_ble_eq_true rfl) (Nat.le_of_ble_eq_true rfl) (Nat.le_of_ble_eq_true rfl) ?_
            refine ww_if_eqN (tgt := 73) dX11_would_66 (by decide) (by omega) (fun c66 => ?_) (fun c66 => ?_)
            · refine ww_iconst (v := nI 0) dX11_would_73 (by decide) ?_
              refine ww_iconst (v := nI 1) dX11_would_74 (by decide) ?_
              refine ww_iconst (v := nI 1) dX11_would_75 (by decide) ?_
              refine ww_cVr (M := m_X11_would) (pc := 76) (v := .int (nI 0)) (h1 := hp_sI (hp_sF (hp_sF h m 0 (.int (nI 0))) m 0 (.int (nI 1))) (m + 1) (upd (hp_I (hp_sF h m 0 (.int (nI 0))) (m + 1)) 1 (hp_I (hp_sF h m 0 (.int (nI 0))) (m + 1) 1 + nI 1))) (st := []) (bc := 0) (bs := 0) (c_M_may_f hst (h := hp_sF h m 0 (.int (nI 0))) (ModS.sF hM (by decide)) (hp_F_eq _ _ _ _) 1 1 (by decide) (by decide) (by decide)) vv_X11_may dX11_would_76 wg_1413 hM.K0 rfl rfl rfl rfl (Nat.le_of_ble_eq_true rfl) (Nat.le_of_ble_eq_true rfl) (Nat.le_of_ble_eq_true rfl) (Nat.le_of_ble_eq_true rfl) ?_
              refine ww_if_neN (tgt := 84) dX11_would_79 (by decide) (by omega) (fun c79 => ?_) (fun c79 => ?_)
              · exact absurd c79 (by decide)
              · refine ww_iconst (v := nI 0) dX11_would_82 (by decide) ?_
                exact ww_iret dX11_would_83 rfl ⟨rfl, (((Same.rf.sF (SY0 m)).sF (SY0 m)).sI (Or.inr rfl)), (hp_F_eq _ _ _ _), by rw [hp_I_eq]; rfl⟩
            · exact absurd c66 (by decide)
set_option maxHeartbeats 4000000 in
set_option maxRecDepth 100000 in
theorem l_M_worth {l : Launch} {Z : EE} (hst : l.stackTraces = false) {h : PH} {m : Nat} (hM : ModS h m) {f : Nat → Int32} (hf : hp_I h (m + 14) = f) (q : Nat) {Post : Res → PH → Prop} : ∀ (j k : Nat), k + j = 61 → WW l Z m_X11_worth 2 0 0 65 [.ref m, .int (nI q), .int (smI (fun n => if f n = nI q then nI 10 * f (61 + n) + nI 1 else 0) 61), .int (nI 61)] [] h Post → WW l Z m_X11_worth 2 0 0 20 [.ref m, .int (nI q), .int (smI (fun n => if f n = nI q then nI 10 * f (61 + n) + nI 1 else 0) k), .int (nI k)] [] h Post := by
  intro j
  induction j with
  | zero =>
    intro k hk hexit
    have hk0 : k = 61 := by omega
    subst hk0
    refine ww_iload_n dX11_worth_20 rfl rfl ?_
    refine ww_bipush (v := nI 61) dX11_worth_21 (by decide) ?_
    refine ww_icmp_geN (tgt := 65) dX11_worth_23 (by decide) (by omega) (by omega) (fun c23 => ?_) (fun c23 => ?_)
    · exact hexit
    · exact absurd c23 (by decide)
  | succ j ih =>
    intro k hk hexit
    refine ww_iload_n dX11_worth_20 rfl rfl ?_
    refine ww_bipush (v := nI 61) dX11_worth_21 (by decide) ?_
    refine ww_icmp_geN (tgt := 65) dX11_worth_23 (by decide) (by omega) (by omega) (fun c23 => ?_) (fun c23 => ?_)
    · exfalso; omega
    · refine ww_iload_n dX11_worth_26 rfl rfl ?_
      refine ww_aload_n dX11_worth_27 rfl rfl ?_
      refine ww_get 33 dX11_worth_28 hM.K0 rfl (by decide) inX11 wg_1273 hM.F14 ?_
      refine ww_iconst (v := nI 0) dX11_worth_31 (by decide) ?_
      refine ww_iload_n dX11_worth_32 rfl rfl ?_
      refine ww_iadd0 dX11_worth_33 ?_
      refine ww_ialdF dX11_worth_34 hM.K14 hf (by omega) (by omega) ?_
      refine ww_iload_n dX11_worth_35 rfl rfl ?_
      refine ww_icmp_ne (tgt := 56) dX11_worth_36 (by decide) (fun c36 => ?_) (fun c36 => ?_)
      · refine ww_iconst (v := nI 0) dX11_worth_56 (by decide) ?_
        refine ww_iadd dX11_worth_57 ?_
        refine ww_sti_n (lv2 := [.ref m, .int (nI q), .int ((smI (fun n => if f n = nI q then nI 10 * f (61 + n) + nI 1 else 0) k) + (nI 0)), .int (nI k)]) dX11_worth_58 rfl rfl (by decide) rfl ?_
        refine ww_incN (c := 1) (lv2 := [.ref m, .int (nI q), .int ((smI (fun n => if f n = nI q then nI 10 * f (61 + n) + nI 1 else 0) k) + (nI 0)), .int (nI (k + 1))]) dX11_worth_59 rfl rfl rfl (by decide) rfl ?_
        refine ww_goto (tgt := 20) dX11_worth_62 (by decide) ?_
        refine ww_lv (lv2 := [.ref m, .int (nI q), .int (smI (fun n => if f n = nI q then nI 10 * f (61 + n) + nI 1 else 0) (k + 1)), .int (nI (k + 1))]) (by simp [smI, c36, nI_0]) ?_
        exact ih (k + 1) (by omega) hexit
      · refine ww_bipush (v := nI 10) dX11_worth_39 (by decide) ?_
        refine ww_aload_n dX11_worth_41 rfl rfl ?_
        refine ww_get 33 dX11_worth_42 hM.K0 rfl (by decide) inX11 wg_1273 hM.F14 ?_
        refine ww_bipush (v := nI 61) dX11_worth_45 (by decide) ?_
        refine ww_iload_n dX11_worth_47 rfl rfl ?_
        refine ww_iaddN dX11_worth_48 ?_
        refine ww_ialdF dX11_worth_49 hM.K14 hf (by omega) (by omega) ?_
        refine ww_imul dX11_worth_50 ?_
        refine ww_iconst (v := nI 1) dX11_worth_51 (by decide) ?_
        refine ww_iadd dX11_worth_52 ?_
        refine ww_goto (tgt := 57) dX11_worth_53 (by decide) ?_
        refine ww_iadd dX11_worth_57 ?_
        refine ww_sti_n (lv2 := [.ref m, .int (nI q), .int ((smI (fun n => if f n = nI q then nI 10 * f (61 + n) + nI 1 else 0) k) + (((nI 10) * (f (61 + k))) + (nI 1))), .int (nI k)]) dX11_worth_58 rfl rfl (by decide) rfl ?_
        refine ww_incN (c := 1) (lv2 := [.ref m, .int (nI q), .int ((smI (fun n => if f n = nI q then nI 10 * f (61 + n) + nI 1 else 0) k) + (((nI 10) * (f (61 + k))) + (nI 1))), .int (nI (k + 1))]) dX11_worth_59 rfl rfl rfl (by decide) rfl ?_
        refine ww_goto (tgt := 20) dX11_worth_62 (by decide) ?_
        refine ww_lv (lv2 := [.ref m, .int (nI q), .int (smI (fun n => if f n = nI q then nI 10 * f (61 + n) + nI 1 else 0) (k + 1)), .int (nI (k + 1))]) (by simp [smI, c36, nI_0]) ?_
        exact ih (k + 1) (by omega) hexit
set_option maxHeartbeats 4000000 in
set_option maxRecDepth 100000 in
theorem c_M_worth {l : Launch} {Z : EE} (hst : l.stackTraces = false) {h : PH} {m : Nat} (hM : ModS h m) {np : Nat} (hnp : hp_F h m 15 = .int (nI np)) (h6 : np ≤ 6) {f : Nat → Int32} (hf : hp_I h (m + 14) = f) (q : Nat) (hq : q < np) : CC l Z m_X11_worth 2 0 0 [.ref m, .int (nI q)] h (MOk (smI (fun n => if f n = nI q then nI 10 * f (61 + n) + nI 1 else 0) 61) m h) := by
  refine ee_entry hst (by decide +kernel) rfl rfl (by simp [Value.category]) (Nat.le_of_ble_eq_true rfl) ?_
  refine ww_lv (lv2 := [.ref m, .int (nI q), UU, UU]) rfl ?_
  have hx6 : np ≤ 6 := h6
  refine ww_aload_n dX11_worth_0 rfl rfl ?_
  refine ww_iconst (v := nI 0) dX11_worth_1 (by decide) ?_
  refine ww_pfI tyX11 0 dX11_worth_2 hM.K0 rfl (by decide) inX11 tyX11_ok nmX11 wg_1240 rfl rfl ?_
  refine ww_aload_n dX11_worth_5 rfl rfl ?_
  refine ww_iload_n dX11_worth_6 rfl rfl ?_
  refine ww_iconst (v := nI 1) dX11_worth_7 (by decide) ?_
  refine ww_cVr (M := m_X11_worth) (pc := 8) (v := .int (nI 1)) (h1 := hp_sF h m 0 (.int (nI 0))) (st := []) (bc := 0) (bs := 0) (c_M_isPerson_t hst (h := hp_sF h m 0 (.int (nI 0))) (ModS.sF hM (by decide)) (hp_F_eq _ _ _ _) (hp_F_nj (by decide) hnp) h6 q hq) vv_X11_isPerson dX11_worth_8 wg_1612 hM.K0 rfl rfl rfl rfl (Nat.le_of_ble_eq_true rfl) (Nat.le_of_ble_eq_true rfl) (Nat.le_of_ble_eq_true rfl) (Nat.le_of_ble_eq_true rfl) ?_
  refine ww_if_neN (tgt := 16) dX11_worth_11 (by decide) (by omega) (fun c11 => ?_) (fun c11 => ?_)
  · refine ww_iconst (v := nI 0) dX11_worth_16 (by decide) ?_
    refine ww_sti_n (lv2 := [.ref m, .int (nI q), .int (nI 0), UU]) dX11_worth_17 rfl rfl (by decide) rfl ?_
    refine ww_iconst (v := nI 0) dX11_worth_18 (by decide) ?_
    refine ww_sti_n (lv2 := [.ref m, .int (nI q), .int (nI 0), .int (nI 0)]) dX11_worth_19 rfl rfl (by decide) rfl ?_
    refine l_M_worth hst (h := hp_sF h m 0 (.int (nI 0))) (ModS.sF hM (by decide)) hf q 61 0 rfl ?_
    refine ww_iload_n dX11_worth_65 rfl rfl ?_
    exact ww_iret dX11_worth_66 rfl ⟨rfl, (Same.rf.sF (SY0 m)), (hp_F_eq _ _ _ _)⟩
  · exact absurd c11 (by decide)
set_option maxHeartbeats 4000000 in
set_option maxRecDepth 100000 in
theorem c_M_worth_no0 {l : Launch} {Z : EE} (hst : l.stackTraces = false) {h : PH} {m : Nat} (hM : ModS h m) {np : Nat} (hnp : hp_F h m 15 = .int (nI np)) (h6 : np ≤ 6) {f : Nat → Int32} (hf : hp_I h (m + 14) = f) (q : Int32) (hout : outP np q) : CC l Z m_X11_worth 2 0 0 [.ref m, .int q] h (MNo 1 0 m h) := by
  refine ee_entry hst (by decide +kernel) rfl rfl (by simp [Value.category]) (Nat.le_of_ble_eq_true rfl) ?_
  refine ww_lv (lv2 := [.ref m, .int q, UU, UU]) rfl ?_
  refine ww_aload_n dX11_worth_0 rfl rfl ?_
  refine ww_iconst (v := nI 0) dX11_worth_1 (by decide) ?_
  refine ww_pfI tyX11 0 dX11_worth_2 hM.K0 rfl (by decide) inX11 tyX11_ok nmX11 wg_1240 rfl rfl ?_
  refine ww_aload_n dX11_worth_5 rfl rfl ?_
  refine ww_iload_n dX11_worth_6 rfl rfl ?_
  refine ww_iconst (v := nI 1) dX11_worth_7 (by decide) ?_
  refine ww_cVr (M := m_X11_worth) (pc := 8) (v := .int (nI 0)) (h1 := hp_sI (hp_sF (hp_sF h m 0 (.int (nI 0))) m 0 (.int (nI 1))) (m + 1) (upd (hp_I (hp_sF h m 0 (.int (nI 0))) (m + 1)) 0 (hp_I (hp_sF h m 0 (.int (nI 0))) (m + 1) 0 + nI 1))) (st := []) (bc := 0) (bs := 0) (c_M_isPerson_f hst (h := hp_sF h m 0 (.int (nI 0))) (ModS.sF hM (by decide)) (hp_F_eq _ _ _ _) (hp_F_nj (by decide) hnp) h6 q hout) vv_X11_isPerson dX11_worth_8 wg_1612 hM.K0 rfl rfl rfl rfl (Nat.le_of_ble_eq_true rfl) (Nat.le_of_ble_eq_true rfl) (Nat.le_of_ble_eq_true rfl) (Nat.le_of_ble_eq_true rfl) ?_
  refine ww_if_neN (tgt := 16) dX11_worth_11 (by decide) (by omega) (fun c11 => ?_) (fun c11 => ?_)
  · exact absurd c11 (by decide)
  · refine ww_iconst (v := nI 0) dX11_worth_14 (by decide) ?_
    exact ww_iret dX11_worth_15 rfl ⟨rfl, (((Same.rf.sF (SY0 m)).sF (SY0 m)).sI (Or.inr rfl)), (hp_F_eq _ _ _ _), by rw [hp_I_eq]; rfl⟩
set_option maxHeartbeats 4000000 in
set_option maxRecDepth 100000 in
theorem l_M_primes {l : Launch} {Z : EE} (hst : l.stackTraces = false) {h : PH} {m : Nat} (hM : ModS h m) {f : Nat → Int32} (hf : hp_I h (m + 14) = f) (q : Nat) {Post : Res → PH → Prop} : ∀ (j k : Nat), k + j = 61 → WW l Z m_X11_primes 2 0 0 60 [.ref m, .int (nI q), .int (nI (cnt (fun n => f n == nI q && dvN n == 2) 61)), .int (nI 61)] [] h Post → WW l Z m_X11_primes 2 0 0 20 [.ref m, .int (nI q), .int (nI (cnt (fun n => f n == nI q && dvN n == 2) k)), .int (nI k)] [] h Post := by
  have hdv : ∀ k, dvN k ≤ k := fun k => cnt_le _ k
  intro j
  induction j with
  | zero =>
    intro k hk hexit
    have hk0 : k = 61 := by omega
    subst hk0
    refine ww_iload_n dX11_primes_20 rfl rfl ?_
    refine ww_bipush (v := nI 61) dX11_primes_21 (by decide) ?_
    refine ww_icmp_geN (tgt := 60) dX11_primes_23 (by decide) (by first | omega | (have := hdv k; omega)) (by first | omega | (have := hdv k; omega)) (fun c23 => ?_) (fun c23 => ?_)
    · exact hexit
    · exact absurd c23 (by decide)
  | succ j ih =>
    intro k hk hexit
    refine ww_iload_n dX11_primes_20 rfl rfl ?_
    refine ww_bipush (v := nI 61) dX11_primes_21 (by decide) ?_
    refine ww_icmp_geN (tgt := 60) dX11_primes_23 (by decide) (by first | omega | (have := hdv k; omega)) (by first | omega | (have := hdv k; omega)) (fun c23 => ?_) (fun c23 => ?_)
    · exfalso; omega
    · refine ww_iload_n dX11_primes_26 rfl rfl ?_
      refine ww_aload_n dX11_primes_27 rfl rfl ?_
      refine ww_get 33 dX11_primes_28 hM.K0 rfl (by decide) inX11 wg_1273 hM.F14 ?_
      refine ww_iconst (v := nI 0) dX11_primes_31 (by decide) ?_
      refine ww_iload_n dX11_primes_32 rfl rfl ?_
      refine ww_iadd0 dX11_primes_33 ?_
      refine ww_ialdF dX11_primes_34 hM.K14 hf (by first | omega | (have := hdv k; omega)) (by first | omega | (have := hdv k; omega)) ?_
      refine ww_iload_n dX11_primes_35 rfl rfl ?_
      refine ww_icmp_ne (tgt := 51) dX11_primes_36 (by decide) (fun c36 => ?_) (fun c36 => ?_)
      · refine ww_iconst (v := nI 0) dX11_primes_51 (by decide) ?_
        refine ww_iaddN dX11_primes_52 ?_
        refine ww_sti_n (lv2 := [.ref m, .int (nI q), .int (nI ((cnt (fun n => f n == nI q && dvN n == 2) k) + 0)), .int (nI k)]) dX11_primes_53 rfl rfl (by decide) rfl ?_
        refine ww_incN (c := 1) (lv2 := [.ref m, .int (nI q), .int (nI ((cnt (fun n => f n == nI q && dvN n == 2) k) + 0)), .int (nI (k + 1))]) dX11_primes_54 rfl rfl rfl (by decide) rfl ?_
        refine ww_goto (tgt := 20) dX11_primes_57 (by decide) ?_
        refine ww_lv (lv2 := [.ref m, .int (nI q), .int (nI (cnt (fun n => f n == nI q && dvN n == 2) (k + 1))), .int (nI (k + 1))]) (by first | (simp [cnt, c36]; done) | (simp [cnt, c36, c44])) ?_
        exact ih (k + 1) (by omega) hexit
      · refine ww_iload_n dX11_primes_39 rfl rfl ?_
        refine ww_cSr (M := m_X11_primes) (pc := 40) (v := .int (nI (dvN k))) (h1 := h) (st := [.int (nI (cnt (fun n => f n == nI q && dvN n == 2) k))]) (bc := 0) (bs := 0) (c_M_partsOf hst k (by omega) _) vv_X11_partsOf dX11_primes_40 wg_1563 rfl rfl rfl (Nat.le_of_ble_eq_true rfl) (Nat.le_of_ble_eq_true rfl) (Nat.le_of_ble_eq_true rfl) (Nat.le_of_ble_eq_true rfl) ?_
        refine ww_iconst (v := nI 2) dX11_primes_43 (by decide) ?_
        refine ww_icmp_neN (tgt := 51) dX11_primes_44 (by decide) (by first | omega | (have := hdv k; omega)) (by first | omega | (have := hdv k; omega)) (fun c44 => ?_) (fun c44 => ?_)
        · refine ww_iconst (v := nI 0) dX11_primes_51 (by decide) ?_
          refine ww_iaddN dX11_primes_52 ?_
          refine ww_sti_n (lv2 := [.ref m, .int (nI q), .int (nI ((cnt (fun n => f n == nI q && dvN n == 2) k) + 0)), .int (nI k)]) dX11_primes_53 rfl rfl (by decide) rfl ?_
          refine ww_incN (c := 1) (lv2 := [.ref m, .int (nI q), .int (nI ((cnt (fun n => f n == nI q && dvN n == 2) k) + 0)), .int (nI (k + 1))]) dX11_primes_54 rfl rfl rfl (by decide) rfl ?_
          refine ww_goto (tgt := 20) dX11_primes_57 (by decide) ?_
          refine ww_lv (lv2 := [.ref m, .int (nI q), .int (nI (cnt (fun n => f n == nI q && dvN n == 2) (k + 1))), .int (nI (k + 1))]) (by first | (simp [cnt, c36]; done) | (simp [cnt, c36, c44])) ?_
          exact ih (k + 1) (by omega) hexit
        · refine ww_iconst (v := nI 1) dX11_primes_47 (by decide) ?_
          refine ww_goto (tgt := 52) dX11_primes_48 (by decide) ?_
          refine ww_iaddN dX11_primes_52 ?_
          refine ww_sti_n (lv2 := [.ref m, .int (nI q), .int (nI ((cnt (fun n => f n == nI q && dvN n == 2) k) + 1)), .int (nI k)]) dX11_primes_53 rfl rfl (by decide) rfl ?_
          refine ww_incN (c := 1) (lv2 := [.ref m, .int (nI q), .int (nI ((cnt (fun n => f n == nI q && dvN n == 2) k) + 1)), .int (nI (k + 1))]) dX11_primes_54 rfl rfl rfl (by decide) rfl ?_
          refine ww_goto (tgt := 20) dX11_primes_57 (by decide) ?_
          refine ww_lv (lv2 := [.ref m, .int (nI q), .int (nI (cnt (fun n => f n == nI q && dvN n == 2) (k + 1))), .int (nI (k + 1))]) (by first | (simp [cnt, c36]; done) | (simp [cnt, c36, c44])) ?_
          exact ih (k + 1) (by omega) hexit
set_option maxHeartbeats 4000000 in
set_option maxRecDepth 100000 in
theorem c_M_primes {l : Launch} {Z : EE} (hst : l.stackTraces = false) {h : PH} {m : Nat} (hM : ModS h m) {np : Nat} (hnp : hp_F h m 15 = .int (nI np)) (h6 : np ≤ 6) {f : Nat → Int32} (hf : hp_I h (m + 14) = f) (q : Nat) (hq : q < np) : CC l Z m_X11_primes 2 0 0 [.ref m, .int (nI q)] h (MOk (nI (cnt (fun n => f n == nI q && dvN n == 2) 61)) m h) := by
  refine ee_entry hst (by decide +kernel) rfl rfl (by simp [Value.category]) (Nat.le_of_ble_eq_true rfl) ?_
  refine ww_lv (lv2 := [.ref m, .int (nI q), UU, UU]) rfl ?_
  have hx6 : np ≤ 6 := h6
  refine ww_aload_n dX11_primes_0 rfl rfl ?_
  refine ww_iconst (v := nI 0) dX11_primes_1 (by decide) ?_
  refine ww_pfI tyX11 0 dX11_primes_2 hM.K0 rfl (by decide) inX11 tyX11_ok nmX11 wg_1240 rfl rfl ?_
  refine ww_aload_n dX11_primes_5 rfl rfl ?_
  refine ww_iload_n dX11_primes_6 rfl rfl ?_
  refine ww_iconst (v := nI 1) dX11_primes_7 (by decide) ?_
  refine ww_cVr (M := m_X11_primes) (pc := 8) (v := .int (nI 1)) (h1 := hp_sF h m 0 (.int (nI 0))) (st := []) (bc := 0) (bs := 0) (c_M_isPerson_t hst (h := hp_sF h m 0 (.int (nI 0))) (ModS.sF hM (by decide)) (hp_F_eq _ _ _ _) (hp_F_nj (by decide) hnp) h6 q hq) vv_X11_isPerson dX11_primes_8 wg_1612 hM.K0 rfl rfl rfl rfl (Nat.le_of_ble_eq_true rfl) (Nat.le_of_ble_eq_true rfl) (Nat.le_of_ble_eq_true rfl) (Nat.le_of_ble_eq_true rfl) ?_
  refine ww_if_neN (tgt := 16) dX11_primes_11 (by decide) (by omega) (fun c11 => ?_) (fun c11 => ?_)
  · refine ww_iconst (v := nI 0) dX11_primes_16 (by decide) ?_
    refine ww_sti_n (lv2 := [.ref m, .int (nI q), .int (nI 0), UU]) dX11_primes_17 rfl rfl (by decide) rfl ?_
    refine ww_iconst (v := nI 0) dX11_primes_18 (by decide) ?_
    refine ww_sti_n (lv2 := [.ref m, .int (nI q), .int (nI 0), .int (nI 0)]) dX11_primes_19 rfl rfl (by decide) rfl ?_
    refine l_M_primes hst (h := hp_sF h m 0 (.int (nI 0))) (ModS.sF hM (by decide)) hf q 61 0 rfl ?_
    refine ww_iload_n dX11_primes_60 rfl rfl ?_
    exact ww_iret dX11_primes_61 rfl ⟨rfl, (Same.rf.sF (SY0 m)), (hp_F_eq _ _ _ _)⟩
  · exact absurd c11 (by decide)
set_option maxHeartbeats 4000000 in
set_option maxRecDepth 100000 in
theorem c_M_primes_no0 {l : Launch} {Z : EE} (hst : l.stackTraces = false) {h : PH} {m : Nat} (hM : ModS h m) {np : Nat} (hnp : hp_F h m 15 = .int (nI np)) (h6 : np ≤ 6) {f : Nat → Int32} (hf : hp_I h (m + 14) = f) (q : Int32) (hout : outP np q) : CC l Z m_X11_primes 2 0 0 [.ref m, .int q] h (MNo 1 0 m h) := by
  refine ee_entry hst (by decide +kernel) rfl rfl (by simp [Value.category]) (Nat.le_of_ble_eq_true rfl) ?_
  refine ww_lv (lv2 := [.ref m, .int q, UU, UU]) rfl ?_
  refine ww_aload_n dX11_primes_0 rfl rfl ?_
  refine ww_iconst (v := nI 0) dX11_primes_1 (by decide) ?_
  refine ww_pfI tyX11 0 dX11_primes_2 hM.K0 rfl (by decide) inX11 tyX11_ok nmX11 wg_1240 rfl rfl ?_
  refine ww_aload_n dX11_primes_5 rfl rfl ?_
  refine ww_iload_n dX11_primes_6 rfl rfl ?_
  refine ww_iconst (v := nI 1) dX11_primes_7 (by decide) ?_
  refine ww_cVr (M := m_X11_primes) (pc := 8) (v := .int (nI 0)) (h1 := hp_sI (hp_sF (hp_sF h m 0 (.int (nI 0))) m 0 (.int (nI 1))) (m + 1) (upd (hp_I (hp_sF h m 0 (.int (nI 0))) (m + 1)) 0 (hp_I (hp_sF h m 0 (.int (nI 0))) (m + 1) 0 + nI 1))) (st := []) (bc := 0) (bs := 0) (c_M_isPerson_f hst (h := hp_sF h m 0 (.int (nI 0))) (ModS.sF hM (by decide)) (hp_F_eq _ _ _ _) (hp_F_nj (by decide) hnp) h6 q hout) vv_X11_isPerson dX11_primes_8 wg_1612 hM.K0 rfl rfl rfl rfl (Nat.le_of_ble_eq_true rfl) (Nat.le_of_ble_eq_true rfl) (Nat.le_of_ble_eq_true rfl) (Nat.le_of_ble_eq_true rfl) ?_
  refine ww_if_neN (tgt := 16) dX11_primes_11 (by decide) (by omega) (fun c11 => ?_) (fun c11 => ?_)
  · exact absurd c11 (by decide)
  · refine ww_iconst (v := nI 0) dX11_primes_14 (by decide) ?_
    exact ww_iret dX11_primes_15 rfl ⟨rfl, (((Same.rf.sF (SY0 m)).sF (SY0 m)).sI (Or.inr rfl)), (hp_F_eq _ _ _ _), by rw [hp_I_eq]; rfl⟩
