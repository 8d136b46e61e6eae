def smN (g : Nat → Nat) : Nat → Nat
  | 0 => 0
  | n + 1 => smN g n + g n
theorem smI_nat {g : Nat → Int32} {gn : Nat → Nat} : ∀ n, (∀ i, i < n → g i = nI (gn i)) → smI g n = nI (smN gn n)
  | 0, _ => rfl
  | n + 1, h => by simp only [smI, smN]; rw [smI_nat n (fun i hi => h i (by omega)), h n (by omega), nI_add]
theorem smN_le {gn : Nat → Nat} {b : Nat} : ∀ n, (∀ i, i < n → gn i ≤ b) → smN gn n ≤ b * n
  | 0, _ => Nat.zero_le _
  | n + 1, h => by
    have h1 := smN_le (gn := gn) n (fun i hi => h i (by omega))
    have h2 := h n (by omega)
    simp only [smN, Nat.mul_succ]
    omega
def fareTn (f : Nat → Int32) (sz : Nat) (kf vf : Nat → Int32) (n w : Nat) : Nat := (fareT f sz kf vf n w).toNatClampNeg
theorem fareTn_ok (f : Nat → Int32) (sz : Nat) (kf vf : Nat → Int32) (n w : Nat) : fareT f sz kf vf n w = nI (fareTn f sz kf vf n w) ∧ fareTn f sz kf vf n w ≤ 99 := by
  obtain ⟨v, hv, e⟩ := fareT_nat f sz kf vf n w
  unfold fareTn
  rw [e, nI_clamp (by omega)]
  exact ⟨rfl, hv⟩
/-- all FARES of 1 to n, said -/
def upN (f : Nat → Int32) (sz : Nat) (kf vf : Nat → Int32) (n : Nat) : Nat := smN (fun i => fareTn f sz kf vf (i + 1) 1) n
theorem upN_le (f : Nat → Int32) (sz : Nat) (kf vf : Nat → Int32) (n : Nat) : upN f sz kf vf n ≤ 99 * n := smN_le n (fun i _ => (fareTn_ok f sz kf vf (i + 1) 1).2)
theorem upN_eq {f g : Nat → Int32} (hfg : ∀ i, i < 190 → f i = g i) (sz : Nat) (kf vf : Nat → Int32) (n : Nat) : upN f sz kf vf n = upN g sz kf vf n := by unfold upN fareTn; rw [fareT_eq hfg]
theorem gcd_st (x y : Nat) : Nat.gcd x y = Nat.gcd y (x % y) := by rw [Nat.gcd_comm x y, Nat.gcd_rec y x, Nat.gcd_comm]
set_option maxHeartbeats 4000000 in
set_option maxRecDepth 100000 in
theorem l_M_dice {l : Launch} {Z : EE} (hst : l.stackTraces = false) {h : PH} {m : Nat} {g9 : Nat → Int32} {sz : Nat} {kf vf : Nat → Int32} (hok : LawOK kf vf sz) (n : Nat) (hn : n ≤ 60) (w : Int32) {Post : Res → PH → Prop} (hex : ∀ h3, MI m sz kf vf g9 h h3 → WW l Z m_X11_dice 5 0 0 71 [.ref m, .int (nI n), .int w, .int (smI (fun i => fareT g9 sz kf vf (i + 1) 1) n), .int (nI (n + 1)), UU, UU] [] h3 Post) : ∀ (j k : Nat) (h2 : PH), k + j = n → MI m sz kf vf g9 h h2 → WW l Z m_X11_dice 5 0 0 49 [.ref m, .int (nI n), .int w, .int (smI (fun i => fareT g9 sz kf vf (i + 1) 1) k), .int (nI (k + 1)), UU, UU] [] h2 Post := by
  intro j
  induction j with
  | zero =>
    intro k h2 hk hi
    have hk0 : k = n := by omega
    subst hk0
    refine ww_iload dX11_dice_49 rfl ?_
    refine ww_iload_n dX11_dice_51 rfl rfl ?_
    refine ww_icmp_gtN (tgt := 71) dX11_dice_52 (by decide) (by omega) (by omega) (fun c52 => ?_) (fun c52 => ?_)
    · exact hex _ hi
    · exfalso; omega
  | succ j ih =>
    intro k h2 hk hi
    refine ww_iload dX11_dice_49 rfl ?_
    refine ww_iload_n dX11_dice_51 rfl rfl ?_
    refine ww_icmp_gtN (tgt := 71) dX11_dice_52 (by decide) (by omega) (by omega) (fun c52 => ?_) (fun c52 => ?_)
    · exfalso; omega
    · refine ww_iload_n dX11_dice_55 rfl rfl ?_
      refine ww_aload_n dX11_dice_56 rfl rfl ?_
      refine ww_iload dX11_dice_57 rfl ?_
      refine ww_iconst (v := nI 1) dX11_dice_59 (by decide) ?_
      refine ww_cVq (M := m_X11_dice) (pc := 60) (v := .int (fareT g9 sz kf vf (k + 1) 1)) (st := [.int (smI (fun i => fareT g9 sz kf vf (i + 1) 1) k)]) (bc := 0) (bs := 0) (c_M_fareT hst hok hi (k + 1) (by omega) 1 (by omega)) vv_X11_fareBy dX11_dice_60 wg_1555 hi.1.K0 rfl rfl rfl rfl (Nat.le_of_ble_eq_true rfl) (Nat.le_of_ble_eq_true rfl) (Nat.le_of_ble_eq_true rfl) (Nat.le_of_ble_eq_true rfl) (fun hq1 qq1 => ?_)
      refine ww_iadd dX11_dice_63 ?_
      refine ww_sti_n (lv2 := [.ref m, .int (nI n), .int w, .int ((smI (fun i => fareT g9 sz kf vf (i + 1) 1) k) + (fareT g9 sz kf vf (k + 1) 1)), .int (nI (k + 1)), UU, UU]) dX11_dice_64 rfl rfl (by decide) rfl ?_
      refine ww_incN (c := 1) (lv2 := [.ref m, .int (nI n), .int w, .int ((smI (fun i => fareT g9 sz kf vf (i + 1) 1) k) + (fareT g9 sz kf vf (k + 1) 1)), .int (nI (k + 1 + 1)), UU, UU]) dX11_dice_65 rfl rfl rfl (by decide) rfl ?_
      refine ww_goto (tgt := 49) dX11_dice_68 (by decide) ?_
      refine ww_lv (lv2 := [.ref m, .int (nI n), .int w, .int (smI (fun i => fareT g9 sz kf vf (i + 1) 1) ((k + 1))), .int (nI (((k + 1)) + 1)), UU, UU]) (by simp [smI]) ?_
      exact ih (k + 1) _ (by omega) qq1
set_option maxHeartbeats 4000000 in
set_option maxRecDepth 100000 in
theorem l_M_gcd {l : Launch} {Z : EE} (hst : l.stackTraces = false) {h : PH} {m : Nat} (n u : Nat) (hn : n ≤ 60) (w : Int32) {Post : Res → PH → Prop} : ∀ (j x y : Nat), y ≤ j → x ≤ 6000 ∧ y ≤ 6000 → WW l Z m_X11_dice 5 0 0 100 [.ref m, .int (nI n), .int w, .int (nI u), .int (nI (Nat.gcd x y)), .int (nI 0), UU] [] h Post → WW l Z m_X11_dice 5 0 0 77 [.ref m, .int (nI n), .int w, .int (nI u), .int (nI x), .int (nI y), UU] [] h Post := by
  intro j
  induction j with
  | zero =>
    intro x y hy hx hex
    have hy0 : y = 0 := by omega
    subst hy0
    rw [Nat.gcd_zero_right] at hex
    refine ww_iload dX11_dice_77 rfl ?_
    refine ww_if_eqN (tgt := 100) dX11_dice_79 (by decide) (by omega) (fun c79 => ?_) (fun c79 => ?_)
    · exact hex
    · exact absurd c79 (by decide)
  | succ j ih =>
    intro x y hy hx hex
    refine ww_iload dX11_dice_77 rfl ?_
    refine ww_if_eqN (tgt := 100) dX11_dice_79 (by decide) (by first | omega | (have := Nat.mod_lt x (show 0 < y by omega); omega)) (fun c79 => ?_) (fun c79 => ?_)
    · have hy0 : y = 0 := by omega
      subst hy0
      rw [Nat.gcd_zero_right] at hex
      exact hex
    · refine ww_iload dX11_dice_82 rfl ?_
      refine ww_iload dX11_dice_84 rfl ?_
      refine ww_iremN dX11_dice_86 (by first | omega | (have := Nat.mod_lt x (show 0 < y by omega); omega)) (by first | omega | (have := Nat.mod_lt x (show 0 < y by omega); omega)) (by first | omega | (have := Nat.mod_lt x (show 0 < y by omega); omega)) ?_
      refine ww_sti (lv2 := [.ref m, .int (nI n), .int w, .int (nI u), .int (nI x), .int (nI y), .int (nI (x % y))]) dX11_dice_87 rfl (by decide) rfl ?_
      refine ww_iload dX11_dice_89 rfl ?_
      refine ww_sti (lv2 := [.ref m, .int (nI n), .int w, .int (nI u), .int (nI y), .int (nI y), .int (nI (x % y))]) dX11_dice_91 rfl (by decide) rfl ?_
      refine ww_iload dX11_dice_93 rfl ?_
      refine ww_sti (lv2 := [.ref m, .int (nI n), .int w, .int (nI u), .int (nI y), .int (nI (x % y)), .int (nI (x % y))]) dX11_dice_95 rfl (by decide) rfl ?_
      refine ww_goto (tgt := 77) dX11_dice_97 (by decide) ?_
      refine ww_fg (lv2 := [.ref m, .int (nI n), .int w, .int (nI u), .int (nI y), .int (nI (x % y)), UU]) ⟨Or.inr rfl, Or.inr rfl, Or.inr rfl, Or.inr rfl, Or.inr rfl, Or.inr rfl, Or.inl rfl, trivial⟩ ?_
      refine ih y (x % y) (by have := Nat.mod_lt x (show 0 < y by omega); omega) (by have := Nat.mod_lt x (show 0 < y by omega); omega) ?_
      rw [← gcd_st]
      exact hex
set_option maxHeartbeats 4000000 in
set_option maxRecDepth 100000 in
theorem c_M_dice0 {l : Launch} {Z : EE} (hst : l.stackTraces = false) {h : PH} {m : Nat} (hM : ModS h m) {f : Nat → Int32} (hf : hp_I h (m + 14) = f) {g : Nat → Int32} (hs : hp_I h (m + 15) = g) {sz : Nat} {kf vf : Nat → Int32} (hQ : LawM h m sz kf vf) (hok : LawOK kf vf sz) (n : Nat) (ln : 1 ≤ n) (hn : n ≤ 60) : CC l Z m_X11_dice 5 0 0 [.ref m, .int (nI n), .int (nI 0)] h (MOk (nI (upN f sz kf vf n / Nat.gcd (upN f sz kf vf n) n)) m h) := by
  refine ee_entry hst (by decide +kernel) rfl rfl (by simp [Value.category]) (Nat.le_of_ble_eq_true rfl) ?_
  refine ww_lv (lv2 := [.ref m, .int (nI n), .int (nI 0), UU, UU, UU, UU]) rfl ?_
  refine ww_aload_n dX11_dice_0 rfl rfl ?_
  refine ww_iconst (v := nI 0) dX11_dice_1 (by decide) ?_
  refine ww_pfI tyX11 0 dX11_dice_2 hM.K0 rfl (by decide) inX11 tyX11_ok nmX11 wg_1240 rfl rfl ?_
  refine ww_aload_n dX11_dice_5 rfl rfl ?_
  refine ww_iload_n dX11_dice_6 rfl rfl ?_
  refine ww_iconst (v := nI 1) dX11_dice_7 (by decide) ?_
  refine ww_bipush (v := nI 60) dX11_dice_8 (by decide) ?_
  refine ww_cSr (M := m_X11_dice) (pc := 10) (v := .int (nI 1)) (h1 := hp_sF h m 0 (.int (nI 0))) (st := [.ref m]) (bc := 0) (bs := 0) (c_M_within_t hst (nI n) (nI 1) (nI 60) (nI_le (by omega) (by omega)) (nI_le (by omega) (by omega)) _) vv_X11_within dX11_dice_10 wg_1601 rfl rfl rfl (Nat.le_of_ble_eq_true rfl) (Nat.le_of_ble_eq_true rfl) (Nat.le_of_ble_eq_true rfl) (Nat.le_of_ble_eq_true rfl) ?_
  refine ww_if_eqN (tgt := 29) dX11_dice_13 (by decide) (by omega) (fun c13 => ?_) (fun c13 => ?_)
  · exact absurd c13 (by decide)
  · refine ww_iload_n dX11_dice_16 rfl rfl ?_
    refine ww_iconst (v := nI 0) dX11_dice_17 (by decide) ?_
    refine ww_iconst (v := nI 1) dX11_dice_18 (by decide) ?_
    refine ww_cSr (M := m_X11_dice) (pc := 19) (v := .int (nI 1)) (h1 := hp_sF h m 0 (.int (nI 0))) (st := [.ref m]) (bc := 0) (bs := 0) (c_M_within_t hst (nI 0) (nI 0) (nI 1) (by decide) (by decide) _) vv_X11_within dX11_dice_19 wg_1601 rfl rfl rfl (Nat.le_of_ble_eq_true rfl) (Nat.le_of_ble_eq_true rfl) (Nat.le_of_ble_eq_true rfl) (Nat.le_of_ble_eq_true rfl) ?_
    refine ww_if_eqN (tgt := 29) dX11_dice_22 (by decide) (by omega) (fun c22 => ?_) (fun c22 => ?_)
    · exact absurd c22 (by decide)
    · refine ww_iconst (v := nI 1) dX11_dice_25 (by decide) ?_
      refine ww_goto (tgt := 30) dX11_dice_26 (by decide) ?_
      refine ww_iconst (v := nI 1) dX11_dice_30 (by decide) ?_
      refine ww_iconst (v := nI 1) dX11_dice_31 (by decide) ?_
      refine ww_cVr (M := m_X11_dice) (pc := 32) (v := .int (nI 1)) (h1 := hp_sF h m 0 (.int (nI 0))) (st := []) (bc := 0) (bs := 0) (c_M_may_t hst (h := hp_sF h m 0 (.int (nI 0))) (ModS.sF hM (by decide)) (hp_F_eq _ _ _ _) (nI 1) (nI 1)) vv_X11_may dX11_dice_32 wg_1413 hM.K0 rfl rfl rfl rfl (Nat.le_of_ble_eq_true rfl) (Nat.le_of_ble_eq_true rfl) (Nat.le_of_ble_eq_true rfl) (Nat.le_of_ble_eq_true rfl) ?_
      refine ww_if_neN (tgt := 40) dX11_dice_35 (by decide) (by omega) (fun c35 => ?_) (fun c35 => ?_)
      · refine ww_aload_n dX11_dice_40 rfl rfl ?_
        refine ww_cV0 (M := m_X11_dice) (pc := 41) (h1 := hp_sI (hp_sF h m 0 (.int (nI 0))) (m + 15) (cpF f g 190)) (st := []) (bc := 0) (bs := 0) (c_M_take hst (h := hp_sF h m 0 (.int (nI 0))) (ModS.sF hM (by decide)) hf hs) vv_X11_take dX11_dice_41 wg_1539 hM.K0 rfl rfl rfl rfl (Nat.le_of_ble_eq_true rfl) (Nat.le_of_ble_eq_true rfl) (Nat.le_of_ble_eq_true rfl) (Nat.le_of_ble_eq_true rfl) ?_
        have hI0 : MI m sz kf vf (cpF f g 190) h (hp_sI (hp_sF h m 0 (.int (nI 0))) (m + 15) (cpF f g 190)) := MI.start hM hQ
        generalize hp_sI (hp_sF h m 0 (.int (nI 0))) (m + 15) (cpF f g 190) = hq0 at hI0 ⊢
        generalize hge : cpF f g 190 = g9 at hI0
        have hg9 : ∀ i, i < 190 → g9 i = f i := fun i hi => by rw [← hge]; exact cpF_in hi
        refine ww_iconst (v := nI 0) dX11_dice_44 (by decide) ?_
        refine ww_sti_n (lv2 := [.ref m, .int (nI n), .int (nI 0), .int (nI 0), UU, UU, UU]) dX11_dice_45 rfl rfl (by decide) rfl ?_
        refine ww_iconst (v := nI 1) dX11_dice_46 (by decide) ?_
        refine ww_sti (lv2 := [.ref m, .int (nI n), .int (nI 0), .int (nI 0), .int (nI 1), UU, UU]) dX11_dice_47 rfl (by decide) rfl ?_
        refine l_M_dice hst hok n hn (nI 0) (fun h3 hi3 => ?_) n 0 _ (by omega) hI0
        have hup := upN_le g9 sz kf vf n
        have hg0 : 0 < Nat.gcd (upN g9 sz kf vf n) n := Nat.gcd_pos_of_pos_right _ (by omega)
        have hg1 : Nat.gcd (upN g9 sz kf vf n) n ≤ n := Nat.gcd_le_right _ (by omega)
        rw [show smI (fun i => fareT g9 sz kf vf (i + 1) 1) n = nI (upN g9 sz kf vf n) from smI_nat n (fun i _ => (fareTn_ok g9 sz kf vf (i + 1) 1).1)]
        refine ww_iload_n dX11_dice_71 rfl rfl ?_
        refine ww_sti (lv2 := [.ref m, .int (nI n), .int (nI 0), .int (nI (upN g9 sz kf vf n)), .int (nI (upN g9 sz kf vf n)), UU, UU]) dX11_dice_72 rfl (by decide) rfl ?_
        refine ww_iload_n dX11_dice_74 rfl rfl ?_
        refine ww_sti (lv2 := [.ref m, .int (nI n), .int (nI 0), .int (nI (upN g9 sz kf vf n)), .int (nI (upN g9 sz kf vf n)), .int (nI n), UU]) dX11_dice_75 rfl (by decide) rfl ?_
        refine l_M_gcd hst n (upN g9 sz kf vf n) (by omega) (nI 0) n _ _ (by omega) (by omega) ?_
        refine ww_iload_n dX11_dice_100 rfl rfl ?_
        refine ww_if_neN (tgt := 108) dX11_dice_101 (by decide) (by omega) (fun c101 => ?_) (fun c101 => ?_)
        · exact absurd c101 (by decide)
        · refine ww_iload_n dX11_dice_104 rfl rfl ?_
          refine ww_goto (tgt := 109) dX11_dice_105 (by decide) ?_
          refine ww_iload dX11_dice_109 rfl ?_
          refine ww_idivN dX11_dice_111 (by omega) (by omega) (by omega) ?_
          exact ww_iret dX11_dice_112 rfl ⟨by rw [upN_eq hg9], hi3.2.2.2.1, hi3.2.2.2.2⟩
      · exact absurd c35 (by decide)
set_option maxHeartbeats 4000000 in
set_option maxRecDepth 100000 in
theorem c_M_dice1 {l : Launch} {Z : EE} (hst : l.stackTraces = false) {h : PH} {m : Nat} (hM : ModS h m) {f : Nat → Int32} (hf : hp_I h (m + 14) = f) {g : Nat → Int32} (hs : hp_I h (m + 15) = g) {sz : Nat} {kf vf : Nat → Int32} (hQ : LawM h m sz kf vf) (hok : LawOK kf vf sz) (n : Nat) (ln : 1 ≤ n) (hn : n ≤ 60) : CC l Z m_X11_dice 5 0 0 [.ref m, .int (nI n), .int (nI 1)] h (MOk (nI (n / Nat.gcd (upN f sz kf vf n) n)) m h) := by
  refine ee_entry hst (by decide +kernel) rfl rfl (by simp [Value.category]) (Nat.le_of_ble_eq_true rfl) ?_
  refine ww_lv (lv2 := [.ref m, .int (nI n), .int (nI 1), UU, UU, UU, UU]) rfl ?_
  refine ww_aload_n dX11_dice_0 rfl rfl ?_
  refine ww_iconst (v := nI 0) dX11_dice_1 (by decide) ?_
  refine ww_pfI tyX11 0 dX11_dice_2 hM.K0 rfl (by decide) inX11 tyX11_ok nmX11 wg_1240 rfl rfl ?_
  refine ww_aload_n dX11_dice_5 rfl rfl ?_
  refine ww_iload_n dX11_dice_6 rfl rfl ?_
  refine ww_iconst (v := nI 1) dX11_dice_7 (by decide) ?_
  refine ww_bipush (v := nI 60) dX11_dice_8 (by decide) ?_
  refine ww_cSr (M := m_X11_dice) (pc := 10) (v := .int (nI 1)) (h1 := hp_sF h m 0 (.int (nI 0))) (st := [.ref m]) (bc := 0) (bs := 0) (c_M_within_t hst (nI n) (nI 1) (nI 60) (nI_le (by omega) (by omega)) (nI_le (by omega) (by omega)) _) vv_X11_within dX11_dice_10 wg_1601 rfl rfl rfl (Nat.le_of_ble_eq_true rfl) (Nat.le_of_ble_eq_true rfl) (Nat.le_of_ble_eq_true rfl) (Nat.le_of_ble_eq_true rfl) ?_
  refine ww_if_eqN (tgt := 29) dX11_dice_13 (by decide) (by omega) (fun c13 => ?_) (fun c13 => ?_)
  · exact absurd c13 (by decide)
  · refine ww_iload_n dX11_dice_16 rfl rfl ?_
    refine ww_iconst (v := nI 0) dX11_dice_17 (by decide) ?_
    refine ww_iconst (v := nI 1) dX11_dice_18 (by decide) ?_
    refine ww_cSr (M := m_X11_dice) (pc := 19) (v := .int (nI 1)) (h1 := hp_sF h m 0 (.int (nI 0))) (st := [.ref m]) (bc := 0) (bs := 0) (c_M_within_t hst (nI 1) (nI 0) (nI 1) (by decide) (by decide) _) vv_X11_within dX11_dice_19 wg_1601 rfl rfl rfl (Nat.le_of_ble_eq_true rfl) (Nat.le_of_ble_eq_true rfl) (Nat.le_of_ble_eq_true rfl) (Nat.le_of_ble_eq_true rfl) ?_
    refine ww_if_eqN (tgt := 29) dX11_dice_22 (by decide) (by omega) (fun c22 => ?_) (fun c22 => ?_)
    · exact absurd c22 (by decide)
    · refine ww_iconst (v := nI 1) dX11_dice_25 (by decide) ?_
      refine ww_goto (tgt := 30) dX11_dice_26 (by decide) ?_
      refine ww_iconst (v := nI 1) dX11_dice_30 (by decide) ?_
      refine ww_iconst (v := nI 1) dX11_dice_31 (by decide) ?_
      refine ww_cVr (M := m_X11_dice) (pc := 32) (v := .int (nI 1)) (h1 := hp_sF h m 0 (.int (nI 0))) (st := []) (bc := 0) (bs := 0) (c_M_may_t hst (h := hp_sF h m 0 (.int (nI 0))) (ModS.sF hM (by decide)) (hp_F_eq _ _ _ _) (nI 1) (nI 1)) vv_X11_may dX11_dice_32 wg_1413 hM.K0 rfl rfl rfl rfl (Nat.le_of_ble_eq_true rfl) (Nat.le_of_ble_eq_true rfl) (Nat.le_of_ble_eq_true rfl) (Nat.le_of_ble_eq_true rfl) ?_
      refine ww_if_neN (tgt := 40) dX11_dice_35 (by decide) (by omega) (fun c35 => ?_) (fun c35 => ?_)
      · refine ww_aload_n dX11_dice_40 rfl rfl ?_
        refine ww_cV0 (M := m_X11_dice) (pc := 41) (h1 := hp_sI (hp_sF h m 0 (.int (nI 0))) (m + 15) (cpF f g 190)) (st := []) (bc := 0) (bs := 0) (c_M_take hst (h := hp_sF h m 0 (.int (nI 0))) (ModS.sF hM (by decide)) hf hs) vv_X11_take dX11_dice_41 wg_1539 hM.K0 rfl rfl rfl rfl (Nat.le_of_ble_eq_true rfl) (Nat.le_of_ble_eq_true rfl) (Nat.le_of_ble_eq_true rfl) (Nat.le_of_ble_eq_true rfl) ?_
        have hI0 : MI m sz kf vf (cpF f g 190) h (hp_sI (hp_sF h m 0 (.int (nI 0))) (m + 15) (cpF f g 190)) := MI.start hM hQ
        generalize hp_sI (hp_sF h m 0 (.int (nI 0))) (m + 15) (cpF f g 190) = hq0 at hI0 ⊢
        generalize hge : cpF f g 190 = g9 at hI0
        have hg9 : ∀ i, i < 190 → g9 i = f i := fun i hi => by rw [← hge]; exact cpF_in hi
        refine ww_iconst (v := nI 0) dX11_dice_44 (by decide) ?_
        refine ww_sti_n (lv2 := [.ref m, .int (nI n), .int (nI 1), .int (nI 0), UU, UU, UU]) dX11_dice_45 rfl rfl (by decide) rfl ?_
        refine ww_iconst (v := nI 1) dX11_dice_46 (by decide) ?_
        refine ww_sti (lv2 := [.ref m, .int (nI n), .int (nI 1), .int (nI 0), .int (nI 1), UU, UU]) dX11_dice_47 rfl (by decide) rfl ?_
        refine l_M_dice hst hok n hn (nI 1) (fun h3 hi3 => ?_) n 0 _ (by omega) hI0
        have hup := upN_le g9 sz kf vf n
        have hg0 : 0 < Nat.gcd (upN g9 sz kf vf n) n := Nat.gcd_pos_of_pos_right _ (by omega)
        have hg1 : Nat.gcd (upN g9 sz kf vf n) n ≤ n := Nat.gcd_le_right _ (by omega)
        rw [show smI (fun i => fareT g9 sz kf vf (i + 1) 1) n = nI (upN g9 sz kf vf n) from smI_nat n (fun i _ => (fareTn_ok g9 sz kf vf (i + 1) 1).1)]
        refine ww_iload_n dX11_dice_71 rfl rfl ?_
        refine ww_sti (lv2 := [.ref m, .int (nI n), .int (nI 1), .int (nI (upN g9 sz kf vf n)), .int (nI (upN g9 sz kf vf n)), UU, UU]) dX11_dice_72 rfl (by decide) rfl ?_
        refine ww_iload_n dX11_dice_74 rfl rfl ?_
        refine ww_sti (lv2 := [.ref m, .int (nI n), .int (nI 1), .int (nI (upN g9 sz kf vf n)), .int (nI (upN g9 sz kf vf n)), .int (nI n), UU]) dX11_dice_75 rfl (by decide) rfl ?_
        refine l_M_gcd hst n (upN g9 sz kf vf n) (by omega) (nI 1) n _ _ (by omega) (by omega) ?_
        refine ww_iload_n dX11_dice_100 rfl rfl ?_
        refine ww_if_neN (tgt := 108) dX11_dice_101 (by decide) (by omega) (fun c101 => ?_) (fun c101 => ?_)
        · refine ww_iload_n dX11_dice_108 rfl rfl ?_
          refine ww_iload dX11_dice_109 rfl ?_
          refine ww_idivN dX11_dice_111 (by omega) (by omega) (by omega) ?_
          exact ww_iret dX11_dice_112 rfl ⟨by rw [upN_eq hg9], hi3.2.2.2.1, hi3.2.2.2.2⟩
        · exact absurd c101 (by decide)
      · exact absurd c35 (by decide)
set_option maxHeartbeats 4000000 in
set_option maxRecDepth 100000 in
theorem c_M_dice_no0 {l : Launch} {Z : EE} (hst : l.stackTraces = false) {h : PH} {m : Nat} (hM : ModS h m) {f : Nat → Int32} (hf : hp_I h (m + 14) = f) {g : Nat → Int32} (hs : hp_I h (m + 15) = g) {sz : Nat} {kf vf : Nat → Int32} (hQ : LawM h m sz kf vf) (hok : LawOK kf vf sz) (n : Int32) (w : Int32) (hout : outR 1 60 n) : CC l Z m_X11_dice 5 0 0 [.ref m, .int n, .int w] h (MNo 1 1 m h) := by
  refine ee_entry hst (by decide +kernel) rfl rfl (by simp [Value.category]) (Nat.le_of_ble_eq_true rfl) ?_
  refine ww_lv (lv2 := [.ref m, .int n, .int w, UU, UU, UU, UU]) rfl ?_
  refine ww_aload_n dX11_dice_0 rfl rfl ?_
  refine ww_iconst (v := nI 0) dX11_dice_1 (by decide) ?_
  refine ww_pfI tyX11 0 dX11_dice_2 hM.K0 rfl (by decide) inX11 tyX11_ok nmX11 wg_1240 rfl rfl ?_
  refine ww_aload_n dX11_dice_5 rfl rfl ?_
  refine ww_iload_n dX11_dice_6 rfl rfl ?_
  refine ww_iconst (v := nI 1) dX11_dice_7 (by decide) ?_
  refine ww_bipush (v := nI 60) dX11_dice_8 (by decide) ?_
  refine ww_cSr (M := m_X11_dice) (pc := 10) (v := .int (nI 0)) (h1 := hp_sF h m 0 (.int (nI 0))) (st := [.ref m]) (bc := 0) (bs := 0) (c_M_within_f hst n (nI 1) (nI 60) hout _) vv_X11_within dX11_dice_10 wg_1601 rfl rfl rfl (Nat.le_of_ble_eq_true rfl) (Nat.le_of_ble_eq_true rfl) (Nat.le_of_ble_eq_true rfl) (Nat.le_of_ble_eq_true rfl) ?_
  refine ww_if_eqN (tgt := 29) dX11_dice_13 (by decide) (by omega) (fun c13 => ?_) (fun c13 => ?_)
  · refine ww_iconst (v := nI 0) dX11_dice_29 (by decide) ?_
    refine ww_iconst (v := nI 1) dX11_dice_30 (by decide) ?_
    refine ww_iconst (v := nI 1) dX11_dice_31 (by decide) ?_
    refine ww_cVr (M := m_X11_dice) (pc := 32) (v := .int (nI 0)) (h1 := hp_sI (hp_sF (hp_sF h m 0 (.int (nI 0))) m 0 (.int (nI 1))) (m + 1) (upd (hp_I (hp_sF h m 0 (.int (nI 0))) (m + 1)) 1 (hp_I (hp_sF h m 0 (.int (nI 0))) (m + 1) 1 + nI 1))) (st := []) (bc := 0) (bs := 0) (c_M_may_f hst (h := hp_sF h m 0 (.int (nI 0))) (ModS.sF hM (by decide)) (hp_F_eq _ _ _ _) 1 1 (by decide) (by decide) (by decide)) vv_X11_may dX11_dice_32 wg_1413 hM.K0 rfl rfl rfl rfl (Nat.le_of_ble_eq_true rfl) (Nat.le_of_ble_eq_true rfl) (Nat.le_of_ble_eq_true rfl) (Nat.le_of_ble_eq_true rfl) ?_
    refine ww_if_neN (tgt := 40) dX11_dice_35 (by decide) (by omega) (fun c35 => ?_) (fun c35 => ?_)
    · exact absurd c35 (by decide)
    · refine ww_iconst (v := nI 0) dX11_dice_38 (by decide) ?_
      exact ww_iret dX11_dice_39 rfl ⟨rfl, (((Same.rf.sF (SY0 m)).sF (SY0 m)).sI (Or.inr rfl)), (hp_F_eq _ _ _ _), by rw [hp_I_eq]; rfl⟩
  · exact absurd c13 (by decide)
set_option maxHeartbeats 4000000 in
set_option maxRecDepth 100000 in
theorem c_M_dice_no1 {l : Launch} {Z : EE} (hst : l.stackTraces = false) {h : PH} {m : Nat} (hM : ModS h m) {f : Nat → Int32} (hf : hp_I h (m + 14) = f) {g : Nat → Int32} (hs : hp_I h (m + 15) = g) {sz : Nat} {kf vf : Nat → Int32} (hQ : LawM h m sz kf vf) (hok : LawOK kf vf sz) (n : Nat) (ln : 1 ≤ n) (hn : n ≤ 60) (w : Int32) (hout : outR 0 1 w) : CC l Z m_X11_dice 5 0 0 [.ref m, .int (nI n), .int w] h (MNo 1 1 m h) := by
  refine ee_entry hst (by decide +kernel) rfl rfl (by simp [Value.category]) (Nat.le_of_ble_eq_true rfl) ?_
  refine ww_lv (lv2 := [.ref m, .int (nI n), .int w, UU, UU, UU, UU]) rfl ?_
  refine ww_aload_n dX11_dice_0 rfl rfl ?_
  refine ww_iconst (v := nI 0) dX11_dice_1 (by decide) ?_
  refine ww_pfI tyX11 0 dX11_dice_2 hM.K0 rfl (by decide) inX11 tyX11_ok nmX11 wg_1240 rfl rfl ?_
  refine ww_aload_n dX11_dice_5 rfl rfl ?_
  refine ww_iload_n dX11_dice_6 rfl rfl ?_
  refine ww_iconst (v := nI 1) dX11_dice_7 (by decide) ?_
  refine ww_bipush (v := nI 60) dX11_dice_8 (by decide) ?_
  refine ww_cSr (M := m_X11_dice) (pc := 10) (v := .int (nI 1)) (h1 := hp_sF h m 0 (.int (nI 0))) (st := [.ref m]) (bc := 0) (bs := 0) (c_M_within_t hst (nI n) (nI 1) (nI 60) (nI_le (by omega) (by omega)) (nI_le (by omega) (by omega)) _) vv_X11_within dX11_dice_10 wg_1601 rfl rfl rfl (Nat.le_of_ble_eq_true rfl) (Nat.le_of_ble_eq_true rfl) (Nat.le_of_ble_eq_true rfl) (Nat.le_of_ble_eq_true rfl) ?_
  refine ww_if_eqN (tgt := 29) dX11_dice_13 (by decide) (by omega) (fun c13 => ?_) (fun c13 => ?_)
  · exact absurd c13 (by decide)
  · refine ww_iload_n dX11_dice_16 rfl rfl ?_
    refine ww_iconst (v := nI 0) dX11_dice_17 (by decide) ?_
    refine ww_iconst (v := nI 1) dX11_dice_18 (by decide) ?_
    refine ww_cSr (M := m_X11_dice) (pc := 19) (v := .int (nI 0)) (h1 := hp_sF h m 0 (.int (nI 0))) (st := [.ref m]) (bc := 0) (bs := 0) (c_M_within_f hst w (nI 0) (nI 1) hout _) vv_X11_within dX11_dice_19 wg_1601 rfl rfl rfl (Nat.le_of_ble_eq_true rfl) (Nat.le_of_ble_eq_true rfl) (Nat.le_of_ble_eq_true rfl) (Nat.le_of_ble_eq_true rfl) ?_
    refine ww_if_eqN (tgt := 29) dX11_dice_22 (by decide) (by omega) (fun c22 => ?_) (fun c22 => ?_)
    · refine ww_iconst (v := nI 0) dX11_dice_29 (by decide) ?_
      refine ww_iconst (v := nI 1) dX11_dice_30 (by decide) ?_
      refine ww_iconst (v := nI 1) dX11_dice_31 (by decide) ?_
      refine ww_cVr (M := m_X11_dice) (pc := 32) (v := .int (nI 0)) (h1 := hp_sI (hp_sF (hp_sF h m 0 (.int (nI 0))) m 0 (.int (nI 1))) (m + 1) (upd (hp_I (hp_sF h m 0 (.int (nI 0))) (m + 1)) 1 (hp_I (hp_sF h m 0 (.int (nI 0))) (m + 1) 1 + nI 1))) (st := []) (bc := 0) (bs := 0) (c_M_may_f hst (h := hp_sF h m 0 (.int (nI 0))) (ModS.sF hM (by decide)) (hp_F_eq _ _ _ _) 1 1 (by decide) (by decide) (by decide)) vv_X11_may dX11_dice_32 wg_1413 hM.K0 rfl rfl rfl rfl (Nat.le_of_ble_eq_true rfl) (Nat.le_of_ble_eq_true rfl) (Nat.le_of_ble_eq_true rfl) (Nat.le_of_ble_eq_true rfl) ?_
      refine ww_if_neN (tgt := 40) dX11_dice_35 (by decide) (by omega) (fun c35 => ?_) (fun c35 => ?_)
      · exact absurd c35 (by decide)
      · refine ww_iconst (v := nI 0) dX11_dice_38 (by decide) ?_
        exact ww_iret dX11_dice_39 rfl ⟨rfl, (((Same.rf.sF (SY0 m)).sF (SY0 m)).sI (Or.inr rfl)), (hp_F_eq _ _ _ _), by rw [hp_I_eq]; rfl⟩
    · exact absurd c22 (by decide)
set_option maxHeartbeats 4000000 in
set_option maxRecDepth 100000 in
theorem c_M_dearest_no0 {l : Launch} {Z : EE} (hst : l.stackTraces = false) {h : PH} {m : Nat} (hM : ModS h m) (a b w : Int32) (hout : outR 0 60 a) : CC l Z m_X11_dearest 5 0 0 [.ref m, .int a, .int b, .int w] h (MNo 1 1 m h) := by
  refine ee_entry hst (by decide +kernel) rfl rfl (by simp [Value.category]) (Nat.le_of_ble_eq_true rfl) ?_
  refine ww_lv (lv2 := [.ref m, .int a, .int b, .int w, UU, UU, UU]) rfl ?_
  refine ww_aload_n dX11_dearest_0 rfl rfl ?_
  refine ww_iconst (v := nI 0) dX11_dearest_1 (by decide) ?_
  refine ww_pfI tyX11 0 dX11_dearest_2 hM.K0 rfl (by decide) inX11 tyX11_ok nmX11 wg_1240 rfl rfl ?_
  refine ww_aload_n dX11_dearest_5 rfl rfl ?_
  refine ww_iload_n dX11_dearest_6 rfl rfl ?_
  refine ww_iconst (v := nI 0) dX11_dearest_7 (by decide) ?_
  refine ww_bipush (v := nI 60) dX11_dearest_8 (by decide) ?_
  refine ww_cSr (M := m_X11_dearest) (pc := 10) (v := .int (nI 0)) (h1 := hp_sF h m 0 (.int (nI 0))) (st := [.ref m]) (bc := 0) (bs := 0) (c_M_within_f hst a (nI 0) (nI 60) hout _) vv_X11_within dX11_dearest_10 wg_1601 rfl rfl rfl (Nat.le_of_ble_eq_true rfl) (Nat.le_of_ble_eq_true rfl) (Nat.le_of_ble_eq_true rfl) (Nat.le_of_ble_eq_true rfl) ?_
  refine ww_if_eqN (tgt := 44) dX11_dearest_13 (by decide) (by omega) (fun c13 => ?_) (fun c13 => ?_)
  · refine ww_iconst (v := nI 0) dX11_dearest_44 (by decide) ?_
    refine ww_iconst (v := nI 1) dX11_dearest_45 (by decide) ?_
    refine ww_iconst (v := nI 1) dX11_dearest_46 (by decide) ?_
    refine ww_cVr (M := m_X11_dearest) (pc := 47) (v := .int (nI 0)) (h1 := hp_sI (hp_sF (hp_sF h m 0 (.int (nI 0))) m 0 (.int (nI 1))) (m + 1) (upd (hp_I (hp_sF h m 0 (.int (nI 0))) (m + 1)) 1 (hp_I (hp_sF h m 0 (.int (nI 0))) (m + 1) 1 + nI 1))) (st := []) (bc := 0) (bs := 0) (c_M_may_f hst (h := hp_sF h m 0 (.int (nI 0))) (ModS.sF hM (by decide)) (hp_F_eq _ _ _ _) 1 1 (by decide) (by decide) (by decide)) vv_X11_may dX11_dearest_47 wg_1413 hM.K0 rfl rfl rfl rfl (Nat.le_of_ble_eq_true rfl) (Nat.le_of_ble_eq_true rfl) (Nat.le_of_ble_eq_true rfl) (Nat.le_of_ble_eq_true rfl) ?_
    refine ww_if_neN (tgt := 55) dX11_dearest_50 (by decide) (by omega) (fun c50 => ?_) (fun c50 => ?_)
    · exact absurd c50 (by decide)
    · refine ww_iconst (v := nI 0) dX11_dearest_53 (by decide) ?_
      exact ww_iret dX11_dearest_54 rfl ⟨rfl, (((Same.rf.sF (SY0 m)).sF (SY0 m)).sI (Or.inr rfl)), (hp_F_eq _ _ _ _), by rw [hp_I_eq]; rfl⟩
  · exact absurd c13 (by decide)
set_option maxHeartbeats 4000000 in
set_option maxRecDepth 100000 in
theorem c_M_dearest_no1 {l : Launch} {Z : EE} (hst : l.stackTraces = false) {h : PH} {m : Nat} (hM : ModS h m) (a : Nat) (ha : a ≤ 60) (b w : Int32) (hout : outR 0 60 b) : CC l Z m_X11_dearest 5 0 0 [.ref m, .int (nI a), .int b, .int w] h (MNo 1 1 m h) := by
  refine ee_entry hst (by decide +kernel) rfl rfl (by simp [Value.category]) (Nat.le_of_ble_eq_true rfl) ?_
  refine ww_lv (lv2 := [.ref m, .int (nI a), .int b, .int w, UU, UU, UU]) rfl ?_
  refine ww_aload_n dX11_dearest_0 rfl rfl ?_
  refine ww_iconst (v := nI 0) dX11_dearest_1 (by decide) ?_
  refine ww_pfI tyX11 0 dX11_dearest_2 hM.K0 rfl (by decide) inX11 tyX11_ok nmX11 wg_1240 rfl rfl ?_
  refine ww_aload_n dX11_dearest_5 rfl rfl ?_
  refine ww_iload_n dX11_dearest_6 rfl rfl ?_
  refine ww_iconst (v := nI 0) dX11_dearest_7 (by decide) ?_
  refine ww_bipush (v := nI 60) dX11_dearest_8 (by decide) ?_
  refine ww_cSr (M := m_X11_dearest) (pc := 10) (v := .int (nI 1)) (h1 := hp_sF h m 0 (.int (nI 0))) (st := [.ref m]) (bc := 0) (bs := 0) (c_M_within_t hst (nI a) (nI 0) (nI 60) (nI_le (by omega) (by omega)) (nI_le (by omega) (by omega)) _) vv_X11_within dX11_dearest_10 wg_1601 rfl rfl rfl (Nat.le_of_ble_eq_true rfl) (Nat.le_of_ble_eq_true rfl) (Nat.le_of_ble_eq_true rfl) (Nat.le_of_ble_eq_true rfl) ?_
  refine ww_if_eqN (tgt := 44) dX11_dearest_13 (by decide) (by omega) (fun c13 => ?_) (fun c13 => ?_)
  · exact absurd c13 (by decide)
  · refine ww_iload_n dX11_dearest_16 rfl rfl ?_
    refine ww_iconst (v := nI 0) dX11_dearest_17 (by decide) ?_
    refine ww_bipush (v := nI 60) dX11_dearest_18 (by decide) ?_
    refine ww_cSr (M := m_X11_dearest) (pc := 20) (v := .int (nI 0)) (h1 := hp_sF h m 0 (.int (nI 0))) (st := [.ref m]) (bc := 0) (bs := 0) (c_M_within_f hst b (nI 0) (nI 60) hout _) vv_X11_within dX11_dearest_20 wg_1601 rfl rfl rfl (Nat.le_of_ble_eq_true rfl) (Nat.le_of_ble_eq_true rfl) (Nat.le_of_ble_eq_true rfl) (Nat.le_of_ble_eq_true rfl) ?_
    refine ww_if_eqN (tgt := 44) dX11_dearest_23 (by decide) (by omega) (fun c23 => ?_) (fun c23 => ?_)
    · refine ww_iconst (v := nI 0) dX11_dearest_44 (by decide) ?_
      refine ww_iconst (v := nI 1) dX11_dearest_45 (by decide) ?_
      refine ww_iconst (v := nI 1) dX11_dearest_46 (by decide) ?_
      refine ww_cVr (M := m_X11_dearest) (pc := 47) (v := .int (nI 0)) (h1 := hp_sI (hp_sF (hp_sF h m 0 (.int (nI 0))) m 0 (.int (nI 1))) (m + 1) (upd (hp_I (hp_sF h m 0 (.int (nI 0))) (m + 1)) 1 (hp_I (hp_sF h m 0 (.int (nI 0))) (m + 1) 1 + nI 1))) (st := []) (bc := 0) (bs := 0) (c_M_may_f hst (h := hp_sF h m 0 (.int (nI 0))) (ModS.sF hM (by decide)) (hp_F_eq _ _ _ _) 1 1 (by decide) (by decide) (by decide)) vv_X11_may dX11_dearest_47 wg_1413 hM.K0 rfl rfl rfl rfl (Nat.le_of_ble_eq_true rfl) (Nat.le_of_ble_eq_true rfl) (Nat.le_of_ble_eq_true rfl) (Nat.le_of_ble_eq_true rfl) ?_
      refine ww_if_neN (tgt := 55) dX11_dearest_50 (by decide) (by omega) (fun c50 => ?_) (fun c50 => ?_)
      · exact absurd c50 (by decide)
      · refine ww_iconst (v := nI 0) dX11_dearest_53 (by decide) ?_
        exact ww_iret dX11_dearest_54 rfl ⟨rfl, (((Same.rf.sF (SY0 m)).sF (SY0 m)).sI (Or.inr rfl)), (hp_F_eq _ _ _ _), by rw [hp_I_eq]; rfl⟩
    · exact absurd c23 (by decide)
set_option maxHeartbeats 4000000 in
set_option maxRecDepth 100000 in
theorem c_M_dearest_no2 {l : Launch} {Z : EE} (hst : l.stackTraces = false) {h : PH} {m : Nat} (hM : ModS h m) (a : Nat) (ha : a ≤ 60) (b : Nat) (hb : b ≤ 60) (w : Int32) (hout : b < a) : CC l Z m_X11_dearest 5 0 0 [.ref m, .int (nI a), .int (nI b), .int w] h (MNo 1 1 m h) := by
  refine ee_entry hst (by decide +kernel) rfl rfl (by simp [Value.category]) (Nat.le_of_ble_eq_true rfl) ?_
  refine ww_lv (lv2 := [.ref m, .int (nI a), .int (nI b), .int w, UU, UU, UU]) rfl ?_
  refine ww_aload_n dX11_dearest_0 rfl rfl ?_
  refine ww_iconst (v := nI 0) dX11_dearest_1 (by decide) ?_
  refine ww_pfI tyX11 0 dX11_dearest_2 hM.K0 rfl (by decide) inX11 tyX11_ok nmX11 wg_1240 rfl rfl ?_
  refine ww_aload_n dX11_dearest_5 rfl rfl ?_
  refine ww_iload_n dX11_dearest_6 rfl rfl ?_
  refine ww_iconst (v := nI 0) dX11_dearest_7 (by decide) ?_
  refine ww_bipush (v := nI 60) dX11_dearest_8 (by decide) ?_
  refine ww_cSr (M := m_X11_dearest) (pc := 10) (v := .int (nI 1)) (h1 := hp_sF h m 0 (.int (nI 0))) (st := [.ref m]) (bc := 0) (bs := 0) (c_M_within_t hst (nI a) (nI 0) (nI 60) (nI_le (by omega) (by omega)) (nI_le (by omega) (by omega)) _) vv_X11_within dX11_dearest_10 wg_1601 rfl rfl rfl (Nat.le_of_ble_eq_true rfl) (Nat.le_of_ble_eq_true rfl) (Nat.le_of_ble_eq_true rfl) (Nat.le_of_ble_eq_true rfl) ?_
  refine ww_if_eqN (tgt := 44) dX11_dearest_13 (by decide) (by omega) (fun c13 => ?_) (fun c13 => ?_)
  · exact absurd c13 (by decide)
  · refine ww_iload_n dX11_dearest_16 rfl rfl ?_
    refine ww_iconst (v := nI 0) dX11_dearest_17 (by decide) ?_
    refine ww_bipush (v := nI 60) dX11_dearest_18 (by decide) ?_
    refine ww_cSr (M := m_X11_dearest) (pc := 20) (v := .int (nI 1)) (h1 := hp_sF h m 0 (.int (nI 0))) (st := [.ref m]) (bc := 0) (bs := 0) (c_M_within_t hst (nI b) (nI 0) (nI 60) (nI_le (by omega) (by omega)) (nI_le (by omega) (by omega)) _) vv_X11_within dX11_dearest_20 wg_1601 rfl rfl rfl (Nat.le_of_ble_eq_true rfl) (Nat.le_of_ble_eq_true rfl) (Nat.le_of_ble_eq_true rfl) (Nat.le_of_ble_eq_true rfl) ?_
    refine ww_if_eqN (tgt := 44) dX11_dearest_23 (by decide) (by omega) (fun c23 => ?_) (fun c23 => ?_)
    · exact absurd c23 (by decide)
    · refine ww_iload_n dX11_dearest_26 rfl rfl ?_
      refine ww_iload_n dX11_dearest_27 rfl rfl ?_
      refine ww_icmp_gtN (tgt := 44) dX11_dearest_28 (by decide) (by omega) (by omega) (fun c28 => ?_) (fun c28 => ?_)
      · refine ww_iconst (v := nI 0) dX11_dearest_44 (by decide) ?_
        refine ww_iconst (v := nI 1) dX11_dearest_45 (by decide) ?_
        refine ww_iconst (v := nI 1) dX11_dearest_46 (by decide) ?_
        refine ww_cVr (M := m_X11_dearest) (pc := 47) (v := .int (nI 0)) (h1 := hp_sI (hp_sF (hp_sF h m 0 (.int (nI 0))) m 0 (.int (nI 1))) (m + 1) (upd (hp_I (hp_sF h m 0 (.int (nI 0))) (m + 1)) 1 (hp_I (hp_sF h m 0 (.int (nI 0))) (m + 1) 1 + nI 1))) (st := []) (bc := 0) (bs := 0) (c_M_may_f hst (h := hp_sF h m 0 (.int (nI 0))) (ModS.sF hM (by decide)) (hp_F_eq _ _ _ _) 1 1 (by decide) (by decide) (by decide)) vv_X11_may dX11_dearest_47 wg_1413 hM.K0 rfl rfl rfl rfl (Nat.le_of_ble_eq_true rfl) (Nat.le_of_ble_eq_true rfl) (Nat.le_of_ble_eq_true rfl) (Nat.le_of_ble_eq_true rfl) ?_
        refine ww_if_neN (tgt := 55) dX11_dearest_50 (by decide) (by omega) (fun c50 => ?_) (fun c50 => ?_)
        · exact absurd c50 (by decide)
        · refine ww_iconst (v := nI 0) dX11_dearest_53 (by decide) ?_
          exact ww_iret dX11_dearest_54 rfl ⟨rfl, (((Same.rf.sF (SY0 m)).sF (SY0 m)).sI (Or.inr rfl)), (hp_F_eq _ _ _ _), by rw [hp_I_eq]; rfl⟩
      · exfalso; omega
set_option maxHeartbeats 4000000 in
set_option maxRecDepth 100000 in
theorem c_M_dearest_no3 {l : Launch} {Z : EE} (hst : l.stackTraces = false) {h : PH} {m : Nat} (hM : ModS h m) (a : Nat) (ha : a ≤ 60) (b : Nat) (hb : b ≤ 60) (w : Int32) (hab : a ≤ b) (hout : outR 0 2 w) : CC l Z m_X11_dearest 5 0 0 [.ref m, .int (nI a), .int (nI b), .int w] h (MNo 1 1 m h) := by
  refine ee_entry hst (by decide +kernel) rfl rfl (by simp [Value.category]) (Nat.le_of_ble_eq_true rfl) ?_
  refine ww_lv (lv2 := [.ref m, .int (nI a), .int (nI b), .int w, UU, UU, UU]) rfl ?_
  refine ww_aload_n dX11_dearest_0 rfl rfl ?_
  refine ww_iconst (v := nI 0) dX11_dearest_1 (by decide) ?_
  refine ww_pfI tyX11 0 dX11_dearest_2 hM.K0 rfl (by decide) inX11 tyX11_ok nmX11 wg_1240 rfl rfl ?_
  refine ww_aload_n dX11_dearest_5 rfl rfl ?_
  refine ww_iload_n dX11_dearest_6 rfl rfl ?_
  refine ww_iconst (v := nI 0) dX11_dearest_7 (by decide) ?_
  refine ww_bipush (v := nI 60) dX11_dearest_8 (by decide) ?_
  refine ww_cSr (M := m_X11_dearest) (pc := 10) (v := .int (nI 1)) (h1 := hp_sF h m 0 (.int (nI 0))) (st := [.ref m]) (bc := 0) (bs := 0) (c_M_within_t hst (nI a) (nI 0) (nI 60) (nI_le (by omega) (by omega)) (nI_le (by omega) (by omega)) _) vv_X11_within dX11_dearest_10 wg_1601 rfl rfl rfl (Nat.le_of_ble_eq_true rfl) (Nat.le_of_ble_eq_true rfl) (Nat.le_of_ble_eq_true rfl) (Nat.le_of_ble_eq_true rfl) ?_
  refine ww_if_eqN (tgt := 44) dX11_dearest_13 (by decide) (by omega) (fun c13 => ?_) (fun c13 => ?_)
  · exact absurd c13 (by decide)
  · refine ww_iload_n dX11_dearest_16 rfl rfl ?_
    refine ww_iconst (v := nI 0) dX11_dearest_17 (by decide) ?_
    refine ww_bipush (v := nI 60) dX11_dearest_18 (by decide) ?_
    refine ww_cSr (M := m_X11_dearest) (pc := 20) (v := .int (nI 1)) (h1 := hp_sF h m 0 (.int (nI 0))) (st := [.ref m]) (bc := 0) (bs := 0) (c_M_within_t hst (nI b) (nI 0) (nI 60) (nI_le (by omega) (by omega)) (nI_le (by omega) (by omega)) _) vv_X11_within dX11_dearest_20 wg_1601 rfl rfl rfl (Nat.le_of_ble_eq_true rfl) (Nat.le_of_ble_eq_true rfl) (Nat.le_of_ble_eq_true rfl) (Nat.le_of_ble_eq_true rfl) ?_
    refine ww_if_eqN (tgt := 44) dX11_dearest_23 (by decide) (by omega) (fun c23 => ?_) (fun c23 => ?_)
    · exact absurd c23 (by decide)
    · refine ww_iload_n dX11_dearest_26 rfl rfl ?_
      refine ww_iload_n dX11_dearest_27 rfl rfl ?_
      refine ww_icmp_gtN (tgt := 44) dX11_dearest_28 (by decide) (by omega) (by omega) (fun c28 => ?_) (fun c28 => ?_)
      · exfalso; omega
      · refine ww_iload_n dX11_dearest_31 rfl rfl ?_
        refine ww_iconst (v := nI 0) dX11_dearest_32 (by decide) ?_
        refine ww_iconst (v := nI 2) dX11_dearest_33 (by decide) ?_
        refine ww_cSr (M := m_X11_dearest) (pc := 34) (v := .int (nI 0)) (h1 := hp_sF h m 0 (.int (nI 0))) (st := [.ref m]) (bc := 0) (bs := 0) (c_M_within_f hst w (nI 0) (nI 2) hout _) vv_X11_within dX11_dearest_34 wg_1601 rfl rfl rfl (Nat.le_of_ble_eq_true rfl) (Nat.le_of_ble_eq_true rfl) (Nat.le_of_ble_eq_true rfl) (Nat.le_of_ble_eq_true rfl) ?_
        refine ww_if_eqN (tgt := 44) dX11_dearest_37 (by decide) (by omega) (fun c37 => ?_) (fun c37 => ?_)
        · refine ww_iconst (v := nI 0) dX11_dearest_44 (by decide) ?_
          refine ww_iconst (v := nI 1) dX11_dearest_45 (by decide) ?_
          refine ww_iconst (v := nI 1) dX11_dearest_46 (by decide) ?_
          refine ww_cVr (M := m_X11_dearest) (pc := 47) (v := .int (nI 0)) (h1 := hp_sI (hp_sF (hp_sF h m 0 (.int (nI 0))) m 0 (.int (nI 1))) (m + 1) (upd (hp_I (hp_sF h m 0 (.int (nI 0))) (m + 1)) 1 (hp_I (hp_sF h m 0 (.int (nI 0))) (m + 1) 1 + nI 1))) (st := []) (bc := 0) (bs := 0) (c_M_may_f hst (h := hp_sF h m 0 (.int (nI 0))) (ModS.sF hM (by decide)) (hp_F_eq _ _ _ _) 1 1 (by decide) (by decide) (by decide)) vv_X11_may dX11_dearest_47 wg_1413 hM.K0 rfl rfl rfl rfl (Nat.le_of_ble_eq_true rfl) (Nat.le_of_ble_eq_true rfl) (Nat.le_of_ble_eq_true rfl) (Nat.le_of_ble_eq_true rfl) ?_
          refine ww_if_neN (tgt := 55) dX11_dearest_50 (by decide) (by omega) (fun c50 => ?_) (fun c50 => ?_)
          · exact absurd c50 (by decide)
          · refine ww_iconst (v := nI 0) dX11_dearest_53 (by decide) ?_
            exact ww_iret dX11_dearest_54 rfl ⟨rfl, (((Same.rf.sF (SY0 m)).sF (SY0 m)).sI (Or.inr rfl)), (hp_F_eq _ _ _ _), by rw [hp_I_eq]; rfl⟩
        · exact absurd c37 (by decide)
def hbF (a b : Nat) : Nat := if a < b then a else if a = b then a / 2 else 0
theorem hbF_le (a b : Nat) : hbF a b ≤ a := by unfold hbF; split; omega; split; omega; omega
/-- j and all behind it up to k hold to it -/
def reB (a b : Nat) : Nat → Nat → Bool
  | _, 0 => true
  | i, j + 1 => if hbF a b < hbF i b then false else if hbF b a < hbF i a then false else reB a b (i + 1) j
def lfM (k : Nat) : Nat → Nat × Int32
  | 0 => (0, -1)
  | i + 1 => if reB (i / (k + 1)) (i % (k + 1)) 0 (k + 1) = true then ((lfM k i).1 + 1, if (lfM k i).2 = -1 then nI (100 * (i / (k + 1)) + i % (k + 1)) else (lfM k i).2) else lfM k i
theorem lfM_ok (k : Nat) (hk : k ≤ 20) : ∀ i, i ≤ (k + 1) * (k + 1) → ((lfM k i).2 = -1 ∨ ∃ c : Nat, c ≤ 2020 ∧ (lfM k i).2 = nI c) ∧ (lfM k i).1 ≤ i
  | 0, _ => ⟨Or.inl rfl, Nat.le_refl _⟩
  | i + 1, hi => by
    obtain ⟨h1, h2⟩ := lfM_ok k hk i (by omega)
    have h3 : i / (k + 1) < k + 1 := Nat.div_lt_of_lt_mul (by omega)
    have h4 := Nat.mod_lt i (show 0 < k + 1 by omega)
    simp only [lfM]
    split
    · refine ⟨?_, by show (lfM k i).1 + 1 ≤ i + 1; omega⟩
      by_cases e : (lfM k i).2 = -1
      · right; exact ⟨100 * (i / (k + 1)) + i % (k + 1), by omega, by simp [e]⟩
      · rcases h1 with h1 | ⟨c, hc, h1⟩
        · exact absurd h1 e
        · right; exact ⟨c, hc, by show (if (lfM k i).2 = -1 then _ else (lfM k i).2) = nI c; rw [if_neg e]; exact h1⟩
    · exact ⟨h1, by omega⟩
set_option maxHeartbeats 4000000 in
set_option maxRecDepth 100000 in
theorem c_M_hasBy {l : Launch} {Z : EE} (hst : l.stackTraces = false) (a b : Nat) (ha : a ≤ 3000) (hb : b ≤ 3000) (h : PH) : CC l Z m_X11_hasBy 0 0 0 [.int (nI a), .int (nI b)] h (RT (some (.int (nI (hbF a b)))) h) := by
  refine ee_entry hst (by decide +kernel) rfl rfl (by simp [Value.category]) (Nat.le_of_ble_eq_true rfl) ?_
  refine ww_lv (lv2 := [.int (nI a), .int (nI b)]) rfl ?_
  refine ww_iload_n dX11_hasBy_0 rfl rfl ?_
  refine ww_iload_n dX11_hasBy_1 rfl rfl ?_
  refine ww_icmp_geN (tgt := 9) dX11_hasBy_2 (by decide) (by omega) (by omega) (fun c2 => ?_) (fun c2 => ?_)
  · refine ww_iload_n dX11_hasBy_9 rfl rfl ?_
    refine ww_iload_n dX11_hasBy_10 rfl rfl ?_
    refine ww_icmp_neN (tgt := 20) dX11_hasBy_11 (by decide) (by omega) (by omega) (fun c11 => ?_) (fun c11 => ?_)
    · refine ww_iconst (v := nI 0) dX11_hasBy_20 (by decide) ?_
      exact ww_iret dX11_hasBy_21 rfl ⟨by first | (rw [show hbF a b = a from if_pos (by omega)]; done) | (rw [show hbF a b = a / 2 from by unfold hbF; rw [if_neg (by omega), if_pos (by omega)]]; done) | (rw [show hbF a b = 0 from by unfold hbF; rw [if_neg (by omega), if_neg (by omega)]]; done), rfl⟩
    · refine ww_iload_n dX11_hasBy_14 rfl rfl ?_
      refine ww_iconst (v := nI 2) dX11_hasBy_15 (by decide) ?_
      refine ww_idivN dX11_hasBy_16 (by omega) (by omega) (by omega) ?_
      refine ww_goto (tgt := 21) dX11_hasBy_17 (by decide) ?_
      exact ww_iret dX11_hasBy_21 rfl ⟨by first | (rw [show hbF a b = a from if_pos (by omega)]; done) | (rw [show hbF a b = a / 2 from by unfold hbF; rw [if_neg (by omega), if_pos (by omega)]]; done) | (rw [show hbF a b = 0 from by unfold hbF; rw [if_neg (by omega), if_neg (by omega)]]; done), rfl⟩
  · refine ww_iload_n dX11_hasBy_5 rfl rfl ?_
    refine ww_goto (tgt := 21) dX11_hasBy_6 (by decide) ?_
    exact ww_iret dX11_hasBy_21 rfl ⟨by first | (rw [show hbF a b = a from if_pos (by omega)]; done) | (rw [show hbF a b = a / 2 from by unfold hbF; rw [if_neg (by omega), if_pos (by omega)]]; done) | (rw [show hbF a b = 0 from by unfold hbF; rw [if_neg (by omega), if_neg (by omega)]]; done), rfl⟩
set_option maxHeartbeats 4000000 in
set_option maxRecDepth 100000 in
theorem l_M_isRest {l : Launch} {Z : EE} (hst : l.stackTraces = false) {h : PH} (a b k : Nat) (ha : a ≤ 20) (hb : b ≤ 20) (hk : k ≤ 20) : ∀ (j i : Nat), i + j = k + 1 → WW l Z m_X11_isRest 1 0 0 2 [.int (nI a), .int (nI b), .int (nI k), .int (nI i)] [] h (RT (some (.int (bI (reB a b i j)))) h) := by
  intro j
  induction j with
  | zero =>
    intro i hi
    refine ww_iload_n dX11_isRest_2 rfl rfl ?_
    refine ww_iload_n dX11_isRest_3 rfl rfl ?_
    refine ww_icmp_gtN (tgt := 41) dX11_isRest_4 (by decide) (by omega) (by omega) (fun c4 => ?_) (fun c4 => ?_)
    · refine ww_iconst (v := nI 1) dX11_isRest_41 (by decide) ?_
      exact ww_zret dX11_isRest_42 rfl (by first | rfl | exact nar_bI _) ⟨rfl, rfl⟩
    · exfalso; omega
  | succ j ih =>
    intro i hi
    refine ww_iload_n dX11_isRest_2 rfl rfl ?_
    refine ww_iload_n dX11_isRest_3 rfl rfl ?_
    refine ww_icmp_gtN (tgt := 41) dX11_isRest_4 (by decide) (by first | omega | (have := hbF_le i b; have := hbF_le a b; have := hbF_le i a; have := hbF_le b a; omega)) (by first | omega | (have := hbF_le i b; have := hbF_le a b; have := hbF_le i a; have := hbF_le b a; omega)) (fun c4 => ?_) (fun c4 => ?_)
    · exfalso; omega
    · refine ww_iload_n dX11_isRest_7 rfl rfl ?_
      refine ww_iload_n dX11_isRest_8 rfl rfl ?_
      refine ww_cSr (M := m_X11_isRest) (pc := 9) (v := .int (nI (hbF i b))) (h1 := h) (st := []) (bc := 0) (bs := 0) (c_M_hasBy hst i b (by omega) (by omega) _) vv_X11_hasBy dX11_isRest_9 wg_1708 rfl rfl rfl (Nat.le_of_ble_eq_true rfl) (Nat.le_of_ble_eq_true rfl) (Nat.le_of_ble_eq_true rfl) (Nat.le_of_ble_eq_true rfl) ?_
      refine ww_iload_n dX11_isRest_12 rfl rfl ?_
      refine ww_iload_n dX11_isRest_13 rfl rfl ?_
      refine ww_cSr (M := m_X11_isRest) (pc := 14) (v := .int (nI (hbF a b))) (h1 := h) (st := [.int (nI (hbF i b))]) (bc := 0) (bs := 0) (c_M_hasBy hst a b (by omega) (by omega) _) vv_X11_hasBy dX11_isRest_14 wg_1708 rfl rfl rfl (Nat.le_of_ble_eq_true rfl) (Nat.le_of_ble_eq_true rfl) (Nat.le_of_ble_eq_true rfl) (Nat.le_of_ble_eq_true rfl) ?_
      refine ww_icmp_gtN (tgt := 33) dX11_isRest_17 (by decide) (by first | omega | (have := hbF_le i b; have := hbF_le a b; have := hbF_le i a; have := hbF_le b a; omega)) (by first | omega | (have := hbF_le i b; have := hbF_le a b; have := hbF_le i a; have := hbF_le b a; omega)) (fun c17 => ?_) (fun c17 => ?_)
      · refine ww_iconst (v := nI 0) dX11_isRest_33 (by decide) ?_
        exact ww_zret dX11_isRest_34 rfl (by first | rfl | exact nar_bI _) ⟨by first | (simp [reB, c17, bI]; rfl) | (simp [reB, Nat.not_lt.mpr c17, c30, bI]; rfl), rfl⟩
      · refine ww_iload_n dX11_isRest_20 rfl rfl ?_
        refine ww_iload_n dX11_isRest_21 rfl rfl ?_
        refine ww_cSr (M := m_X11_isRest) (pc := 22) (v := .int (nI (hbF i a))) (h1 := h) (st := []) (bc := 0) (bs := 0) (c_M_hasBy hst i a (by omega) (by omega) _) vv_X11_hasBy dX11_isRest_22 wg_1708 rfl rfl rfl (Nat.le_of_ble_eq_true rfl) (Nat.le_of_ble_eq_true rfl) (Nat.le_of_ble_eq_true rfl) (Nat.le_of_ble_eq_true rfl) ?_
        refine ww_iload_n dX11_isRest_25 rfl rfl ?_
        refine ww_iload_n dX11_isRest_26 rfl rfl ?_
        refine ww_cSr (M := m_X11_isRest) (pc := 27) (v := .int (nI (hbF b a))) (h1 := h) (st := [.int (nI (hbF i a))]) (bc := 0) (bs := 0) (c_M_hasBy hst b a (by omega) (by omega) _) vv_X11_hasBy dX11_isRest_27 wg_1708 rfl rfl rfl (Nat.le_of_ble_eq_true rfl) (Nat.le_of_ble_eq_true rfl) (Nat.le_of_ble_eq_true rfl) (Nat.le_of_ble_eq_true rfl) ?_
        refine ww_icmp_leN (tgt := 35) dX11_isRest_30 (by decide) (by first | omega | (have := hbF_le i b; have := hbF_le a b; have := hbF_le i a; have := hbF_le b a; omega)) (by first | omega | (have := hbF_le i b; have := hbF_le a b; have := hbF_le i a; have := hbF_le b a; omega)) (fun c30 => ?_) (fun c30 => ?_)
        · refine ww_incN (c := 1) (lv2 := [.int (nI a), .int (nI b), .int (nI k), .int (nI (i + 1))]) dX11_isRest_35 rfl rfl rfl (by decide) rfl ?_
          refine ww_goto (tgt := 2) dX11_isRest_38 (by decide) ?_
          refine ww_post (fun r h9 hp => ?_) (ih (i + 1) (by omega))
          simpa [reB, Nat.not_lt.mpr c17, Nat.not_lt.mpr c30] using hp
        · refine ww_iconst (v := nI 0) dX11_isRest_33 (by decide) ?_
          exact ww_zret dX11_isRest_34 rfl (by first | rfl | exact nar_bI _) ⟨by first | (simp [reB, c17, bI]; rfl) | (simp [reB, Nat.not_lt.mpr c17, c30, bI]; rfl), rfl⟩
set_option maxHeartbeats 4000000 in
set_option maxRecDepth 100000 in
theorem c_M_isRest {l : Launch} {Z : EE} (hst : l.stackTraces = false) (a b k : Nat) (ha : a ≤ 20) (hb : b ≤ 20) (hk : k ≤ 20) (h : PH) : CC l Z m_X11_isRest 1 0 0 [.int (nI a), .int (nI b), .int (nI k)] h (RT (some (.int (bI (reB a b 0 (k + 1))))) h) := by
  refine ee_entry hst (by decide +kernel) rfl rfl (by simp [Value.category]) (Nat.le_of_ble_eq_true rfl) ?_
  refine ww_lv (lv2 := [.int (nI a), .int (nI b), .int (nI k), UU]) rfl ?_
  refine ww_iconst (v := nI 0) dX11_isRest_0 (by decide) ?_
  refine ww_sti_n (lv2 := [.int (nI a), .int (nI b), .int (nI k), .int (nI 0)]) dX11_isRest_1 rfl rfl (by decide) rfl ?_
  exact l_M_isRest hst a b k ha hb hk (k + 1) 0 (by omega)
set_option maxHeartbeats 4000000 in
set_option maxRecDepth 100000 in
theorem l_M_lets {l : Launch} {Z : EE} (hst : l.stackTraces = false) {h : PH} {m : Nat} (k : Nat) (hk : k ≤ 20) (w : Int32) {Post : Res → PH → Prop} : ∀ (j i : Nat), i + j = (k + 1) * (k + 1) → WW l Z m_X11_lets 2 0 0 120 [.ref m, .int (nI k), .int w, .int (nI ((lfM k ((k + 1) * (k + 1))).1)), .int ((lfM k ((k + 1) * (k + 1))).2), .int (nI ((k + 1) * (k + 1))), UU, UU] [] h Post → WW l Z m_X11_lets 2 0 0 48 [.ref m, .int (nI k), .int w, .int (nI ((lfM k i).1)), .int ((lfM k i).2), .int (nI i), UU, UU] [] h Post := by
  have hm1 : (k + 1) * (k + 1) ≤ 441 := Nat.mul_le_mul (show k + 1 ≤ 21 by omega) (show k + 1 ≤ 21 by omega)
  intro j
  induction j with
  | zero =>
    intro i hi hex
    have hi0 : i = (k + 1) * (k + 1) := by omega
    subst hi0
    refine ww_iload dX11_lets_48 rfl ?_
    refine ww_iload_n dX11_lets_50 rfl rfl ?_
    refine ww_iconst (v := nI 1) dX11_lets_51 (by decide) ?_
    refine ww_iaddN dX11_lets_52 ?_
    refine ww_iload_n dX11_lets_53 rfl rfl ?_
    refine ww_iconst (v := nI 1) dX11_lets_54 (by decide) ?_
    refine ww_iaddN dX11_lets_55 ?_
    refine ww_imulN dX11_lets_56 ?_
    refine ww_icmp_geN (tgt := 120) dX11_lets_57 (by decide) (by omega) (by omega) (fun c57 => ?_) (fun c57 => ?_)
    · exact hex
    · exfalso; omega
  | succ j ih =>
    intro i hi hex
    have hd1 : i / (k + 1) < k + 1 := Nat.div_lt_of_lt_mul (by omega)
    have hd2 := Nat.mod_lt i (show 0 < k + 1 by omega)
    have hok := (lfM_ok k hk i (by omega)).2
    refine ww_iload dX11_lets_48 rfl ?_
    refine ww_iload_n dX11_lets_50 rfl rfl ?_
    refine ww_iconst (v := nI 1) dX11_lets_51 (by decide) ?_
    refine ww_iaddN dX11_lets_52 ?_
    refine ww_iload_n dX11_lets_53 rfl rfl ?_
    refine ww_iconst (v := nI 1) dX11_lets_54 (by decide) ?_
    refine ww_iaddN dX11_lets_55 ?_
    refine ww_imulN dX11_lets_56 ?_
    refine ww_icmp_geN (tgt := 120) dX11_lets_57 (by decide) (by omega) (by omega) (fun c57 => ?_) (fun c57 => ?_)
    · exfalso; omega
    · refine ww_iload dX11_lets_60 rfl ?_
      refine ww_iload_n dX11_lets_62 rfl rfl ?_
      refine ww_iconst (v := nI 1) dX11_lets_63 (by decide) ?_
      refine ww_iaddN dX11_lets_64 ?_
      refine ww_idivN dX11_lets_65 (by omega) (by omega) (by omega) ?_
      refine ww_sti (lv2 := [.ref m, .int (nI k), .int w, .int (nI ((lfM k i).1)), .int ((lfM k i).2), .int (nI i), .int (nI (i / (k + 1))), UU]) dX11_lets_66 rfl (by decide) rfl ?_
      refine ww_iload dX11_lets_68 rfl ?_
      refine ww_iload_n dX11_lets_70 rfl rfl ?_
      refine ww_iconst (v := nI 1) dX11_lets_71 (by decide) ?_
      refine ww_iaddN dX11_lets_72 ?_
      refine ww_iremN dX11_lets_73 (by omega) (by omega) (by omega) ?_
      refine ww_sti (lv2 := [.ref m, .int (nI k), .int w, .int (nI ((lfM k i).1)), .int ((lfM k i).2), .int (nI i), .int (nI (i / (k + 1))), .int (nI (i % (k + 1)))]) dX11_lets_74 rfl (by decide) rfl ?_
      refine ww_iload dX11_lets_76 rfl ?_
      refine ww_iload dX11_lets_78 rfl ?_
      refine ww_iload_n dX11_lets_80 rfl rfl ?_
      refine ww_cSr (M := m_X11_lets) (pc := 81) (v := .int (bI (reB (i / (k + 1)) (i % (k + 1)) 0 (k + 1)))) (h1 := h) (st := []) (bc := 0) (bs := 0) (c_M_isRest hst (i / (k + 1)) (i % (k + 1)) k (by omega) (by omega) hk _) vv_X11_isRest dX11_lets_81 wg_1705 rfl rfl rfl (Nat.le_of_ble_eq_true rfl) (Nat.le_of_ble_eq_true rfl) (Nat.le_of_ble_eq_true rfl) (Nat.le_of_ble_eq_true rfl) ?_
      refine ww_if_neB (tgt := 90) dX11_lets_84 (by decide) (fun c84 => ?_) (fun c84 => ?_)
      · refine ww_incN (c := 1) (lv2 := [.ref m, .int (nI k), .int w, .int (nI ((lfM k i).1 + 1)), .int ((lfM k i).2), .int (nI i), .int (nI (i / (k + 1))), .int (nI (i % (k + 1)))]) dX11_lets_90 rfl rfl rfl (by decide) rfl ?_
        refine ww_iload dX11_lets_93 rfl ?_
        refine ww_iconst (v := -1) dX11_lets_95 (by decide) ?_
        refine ww_icmp_ne (tgt := 110) dX11_lets_96 (by decide) (fun c96 => ?_) (fun c96 => ?_)
        · refine ww_iload dX11_lets_110 rfl ?_
          refine ww_sti (lv2 := [.ref m, .int (nI k), .int w, .int (nI ((lfM k i).1 + 1)), .int ((lfM k i).2), .int (nI i), .int (nI (i / (k + 1))), .int (nI (i % (k + 1)))]) dX11_lets_112 rfl (by decide) rfl ?_
          refine ww_incN (c := 1) (lv2 := [.ref m, .int (nI k), .int w, .int (nI ((lfM k i).1 + 1)), .int ((lfM k i).2), .int (nI (i + 1)), .int (nI (i / (k + 1))), .int (nI (i % (k + 1)))]) dX11_lets_114 rfl rfl rfl (by decide) rfl ?_
          refine ww_goto (tgt := 48) dX11_lets_117 (by decide) ?_
          refine ww_fg (lv2 := [.ref m, .int (nI k), .int w, .int (nI ((lfM k i).1 + 1)), .int ((lfM k i).2), .int (nI (i + 1)), UU, UU]) ⟨Or.inr rfl, Or.inr rfl, Or.inr rfl, Or.inr rfl, Or.inr rfl, Or.inr rfl, Or.inl rfl, Or.inl rfl, trivial⟩ ?_
          refine ww_lv (lv2 := [.ref m, .int (nI k), .int w, .int (nI ((lfM k ((i + 1))).1)), .int ((lfM k ((i + 1))).2), .int (nI ((i + 1))), UU, UU]) (by first | (simp [lfM, c84]; done) | (simp [lfM, c84, c96])) ?_
          exact ih (i + 1) (by omega) hex
        · refine ww_bipush (v := nI 100) dX11_lets_99 (by decide) ?_
          refine ww_iload dX11_lets_101 rfl ?_
          refine ww_imulN dX11_lets_103 ?_
          refine ww_iload dX11_lets_104 rfl ?_
          refine ww_iaddN dX11_lets_106 ?_
          refine ww_goto (tgt := 112) dX11_lets_107 (by decide) ?_
          refine ww_sti (lv2 := [.ref m, .int (nI k), .int w, .int (nI ((lfM k i).1 + 1)), .int (nI ((100 * (i / (k + 1))) + (i % (k + 1)))), .int (nI i), .int (nI (i / (k + 1))), .int (nI (i % (k + 1)))]) dX11_lets_112 rfl (by decide) rfl ?_
          refine ww_incN (c := 1) (lv2 := [.ref m, .int (nI k), .int w, .int (nI ((lfM k i).1 + 1)), .int (nI ((100 * (i / (k + 1))) + (i % (k + 1)))), .int (nI (i + 1)), .int (nI (i / (k + 1))), .int (nI (i % (k + 1)))]) dX11_lets_114 rfl rfl rfl (by decide) rfl ?_
          refine ww_goto (tgt := 48) dX11_lets_117 (by decide) ?_
          refine ww_fg (lv2 := [.ref m, .int (nI k), .int w, .int (nI ((lfM k i).1 + 1)), .int (nI ((100 * (i / (k + 1))) + (i % (k + 1)))), .int (nI (i + 1)), UU, UU]) ⟨Or.inr rfl, Or.inr rfl, Or.inr rfl, Or.inr rfl, Or.inr rfl, Or.inr rfl, Or.inl rfl, Or.inl rfl, trivial⟩ ?_
          refine ww_lv (lv2 := [.ref m, .int (nI k), .int w, .int (nI ((lfM k ((i + 1))).1)), .int ((lfM k ((i + 1))).2), .int (nI ((i + 1))), UU, UU]) (by first | (simp [lfM, c84]; done) | (simp [lfM, c84, c96])) ?_
          exact ih (i + 1) (by omega) hex
      · refine ww_goto (tgt := 114) dX11_lets_87 (by decide) ?_
        refine ww_incN (c := 1) (lv2 := [.ref m, .int (nI k), .int w, .int (nI ((lfM k i).1)), .int ((lfM k i).2), .int (nI (i + 1)), .int (nI (i / (k + 1))), .int (nI (i % (k + 1)))]) dX11_lets_114 rfl rfl rfl (by decide) rfl ?_
        refine ww_goto (tgt := 48) dX11_lets_117 (by decide) ?_
        refine ww_fg (lv2 := [.ref m, .int (nI k), .int w, .int (nI ((lfM k i).1)), .int ((lfM k i).2), .int (nI (i + 1)), UU, UU]) ⟨Or.inr rfl, Or.inr rfl, Or.inr rfl, Or.inr rfl, Or.inr rfl, Or.inr rfl, Or.inl rfl, Or.inl rfl, trivial⟩ ?_
        refine ww_lv (lv2 := [.ref m, .int (nI k), .int w, .int (nI ((lfM k ((i + 1))).1)), .int ((lfM k ((i + 1))).2), .int (nI ((i + 1))), UU, UU]) (by first | (simp [lfM, c84]; done) | (simp [lfM, c84, c96])) ?_
        exact ih (i + 1) (by omega) hex
def lsF (x : Int32) : Int32 := if x = -1 then 0 else nI (hbF (x.toNatClampNeg / 100) (x.toNatClampNeg % 100) + hbF (x.toNatClampNeg % 100) (x.toNatClampNeg / 100))
set_option maxHeartbeats 4000000 in
set_option maxRecDepth 100000 in
theorem c_M_lets0 {l : Launch} {Z : EE} (hst : l.stackTraces = false) {h : PH} {m : Nat} (hM : ModS h m) (k : Nat) (hk : k ≤ 20) : CC l Z m_X11_lets 2 0 0 [.ref m, .int (nI k), .int (nI 0)] h (MOk (nI (lfM k ((k + 1) * (k + 1))).1) m h) := by
  refine ee_entry hst (by decide +kernel) rfl rfl (by simp [Value.category]) (Nat.le_of_ble_eq_true rfl) ?_
  refine ww_lv (lv2 := [.ref m, .int (nI k), .int (nI 0), UU, UU, UU, UU, UU]) rfl ?_
  refine ww_aload_n dX11_lets_0 rfl rfl ?_
  refine ww_iconst (v := nI 0) dX11_lets_1 (by decide) ?_
  refine ww_pfI tyX11 0 dX11_lets_2 hM.K0 rfl (by decide) inX11 tyX11_ok nmX11 wg_1240 rfl rfl ?_
  refine ww_aload_n dX11_lets_5 rfl rfl ?_
  refine ww_iload_n dX11_lets_6 rfl rfl ?_
  refine ww_iconst (v := nI 0) dX11_lets_7 (by decide) ?_
  refine ww_bipush (v := nI 20) dX11_lets_8 (by decide) ?_
  refine ww_cSr (M := m_X11_lets) (pc := 10) (v := .int (nI 1)) (h1 := hp_sF h m 0 (.int (nI 0))) (st := [.ref m]) (bc := 0) (bs := 0) (c_M_within_t hst (nI k) (nI 0) (nI 20) (nI_le (by omega) (by omega)) (nI_le (by omega) (by omega)) _) vv_X11_within dX11_lets_10 wg_1601 rfl rfl rfl (Nat.le_of_ble_eq_true rfl) (Nat.le_of_ble_eq_true rfl) (Nat.le_of_ble_eq_true rfl) (Nat.le_of_ble_eq_true rfl) ?_
  refine ww_if_eqN (tgt := 29) dX11_lets_13 (by decide) (by omega) (fun c13 => ?_) (fun c13 => ?_)
  · exact absurd c13 (by decide)
  · refine ww_iload_n dX11_lets_16 rfl rfl ?_
    refine ww_iconst (v := nI 0) dX11_lets_17 (by decide) ?_
    refine ww_iconst (v := nI 2) dX11_lets_18 (by decide) ?_
    refine ww_cSr (M := m_X11_lets) (pc := 19) (v := .int (nI 1)) (h1 := hp_sF h m 0 (.int (nI 0))) (st := [.ref m]) (bc := 0) (bs := 0) (c_M_within_t hst (nI 0) (nI 0) (nI 2) (by decide) (by decide) _) vv_X11_within dX11_lets_19 wg_1601 rfl rfl rfl (Nat.le_of_ble_eq_true rfl) (Nat.le_of_ble_eq_true rfl) (Nat.le_of_ble_eq_true rfl) (Nat.le_of_ble_eq_true rfl) ?_
    refine ww_if_eqN (tgt := 29) dX11_lets_22 (by decide) (by omega) (fun c22 => ?_) (fun c22 => ?_)
    · exact absurd c22 (by decide)
    · refine ww_iconst (v := nI 1) dX11_lets_25 (by decide) ?_
      refine ww_goto (tgt := 30) dX11_lets_26 (by decide) ?_
      refine ww_iconst (v := nI 1) dX11_lets_30 (by decide) ?_
      refine ww_iconst (v := nI 1) dX11_lets_31 (by decide) ?_
      refine ww_cVr (M := m_X11_lets) (pc := 32) (v := .int (nI 1)) (h1 := hp_sF h m 0 (.int (nI 0))) (st := []) (bc := 0) (bs := 0) (c_M_may_t hst (h := hp_sF h m 0 (.int (nI 0))) (ModS.sF hM (by decide)) (hp_F_eq _ _ _ _) (nI 1) (nI 1)) vv_X11_may dX11_lets_32 wg_1413 hM.K0 rfl rfl rfl rfl (Nat.le_of_ble_eq_true rfl) (Nat.le_of_ble_eq_true rfl) (Nat.le_of_ble_eq_true rfl) (Nat.le_of_ble_eq_true rfl) ?_
      refine ww_if_neN (tgt := 40) dX11_lets_35 (by decide) (by omega) (fun c35 => ?_) (fun c35 => ?_)
      · refine ww_iconst (v := nI 0) dX11_lets_40 (by decide) ?_
        refine ww_sti_n (lv2 := [.ref m, .int (nI k), .int (nI 0), .int (nI 0), UU, UU, UU, UU]) dX11_lets_41 rfl rfl (by decide) rfl ?_
        refine ww_iconst (v := -1) dX11_lets_42 (by decide) ?_
        refine ww_sti (lv2 := [.ref m, .int (nI k), .int (nI 0), .int (nI 0), .int (-1), UU, UU, UU]) dX11_lets_43 rfl (by decide) rfl ?_
        refine ww_iconst (v := nI 0) dX11_lets_45 (by decide) ?_
        refine ww_sti (lv2 := [.ref m, .int (nI k), .int (nI 0), .int (nI 0), .int (-1), .int (nI 0), UU, UU]) dX11_lets_46 rfl (by decide) rfl ?_
        refine l_M_lets hst k hk (nI 0) ((k + 1) * (k + 1)) 0 (by omega) ?_
        refine ww_iload_n dX11_lets_120 rfl rfl ?_
        refine ww_if_neN (tgt := 128) dX11_lets_121 (by decide) (by omega) (fun c121 => ?_) (fun c121 => ?_)
        · exact absurd c121 (by decide)
        · refine ww_iload_n dX11_lets_124 rfl rfl ?_
          refine ww_goto (tgt := 175) dX11_lets_125 (by decide) ?_
          exact ww_iret dX11_lets_175 rfl ⟨rfl, (Same.rf.sF (SY0 m)), (hp_F_eq _ _ _ _)⟩
      · exact absurd c35 (by decide)
set_option maxHeartbeats 4000000 in
set_option maxRecDepth 100000 in
theorem c_M_lets1 {l : Launch} {Z : EE} (hst : l.stackTraces = false) {h : PH} {m : Nat} (hM : ModS h m) (k : Nat) (hk : k ≤ 20) : CC l Z m_X11_lets 2 0 0 [.ref m, .int (nI k), .int (nI 1)] h (MOk ((lfM k ((k + 1) * (k + 1))).2) m h) := by
  refine ee_entry hst (by decide +kernel) rfl rfl (by simp [Value.category]) (Nat.le_of_ble_eq_true rfl) ?_
  refine ww_lv (lv2 := [.ref m, .int (nI k), .int (nI 1), UU, UU, UU, UU, UU]) rfl ?_
  refine ww_aload_n dX11_lets_0 rfl rfl ?_
  refine ww_iconst (v := nI 0) dX11_lets_1 (by decide) ?_
  refine ww_pfI tyX11 0 dX11_lets_2 hM.K0 rfl (by decide) inX11 tyX11_ok nmX11 wg_1240 rfl rfl ?_
  refine ww_aload_n dX11_lets_5 rfl rfl ?_
  refine ww_iload_n dX11_lets_6 rfl rfl ?_
  refine ww_iconst (v := nI 0) dX11_lets_7 (by decide) ?_
  refine ww_bipush (v := nI 20) dX11_lets_8 (by decide) ?_
  refine ww_cSr (M := m_X11_lets) (pc := 10) (v := .int (nI 1)) (h1 := hp_sF h m 0 (.int (nI 0))) (st := [.ref m]) (bc := 0) (bs := 0) (c_M_within_t hst (nI k) (nI 0) (nI 20) (nI_le (by omega) (by omega)) (nI_le (by omega) (by omega)) _) vv_X11_within dX11_lets_10 wg_1601 rfl rfl rfl (Nat.le_of_ble_eq_true rfl) (Nat.le_of_ble_eq_true rfl) (Nat.le_of_ble_eq_true rfl) (Nat.le_of_ble_eq_true rfl) ?_
  refine ww_if_eqN (tgt := 29) dX11_lets_13 (by decide) (by omega) (fun c13 => ?_) (fun c13 => ?_)
  · exact absurd c13 (by decide)
  · refine ww_iload_n dX11_lets_16 rfl rfl ?_
    refine ww_iconst (v := nI 0) dX11_lets_17 (by decide) ?_
    refine ww_iconst (v := nI 2) dX11_lets_18 (by decide) ?_
    refine ww_cSr (M := m_X11_lets) (pc := 19) (v := .int (nI 1)) (h1 := hp_sF h m 0 (.int (nI 0))) (st := [.ref m]) (bc := 0) (bs := 0) (c_M_within_t hst (nI 1) (nI 0) (nI 2) (by decide) (by decide) _) vv_X11_within dX11_lets_19 wg_1601 rfl rfl rfl (Nat.le_of_ble_eq_true rfl) (Nat.le_of_ble_eq_true rfl) (Nat.le_of_ble_eq_true rfl) (Nat.le_of_ble_eq_true rfl) ?_
    refine ww_if_eqN (tgt := 29) dX11_lets_22 (by decide) (by omega) (fun c22 => ?_) (fun c22 => ?_)
    · exact absurd c22 (by decide)
    · refine ww_iconst (v := nI 1) dX11_lets_25 (by decide) ?_
      refine ww_goto (tgt := 30) dX11_lets_26 (by decide) ?_
      refine ww_iconst (v := nI 1) dX11_lets_30 (by decide) ?_
      refine ww_iconst (v := nI 1) dX11_lets_31 (by decide) ?_
      refine ww_cVr (M := m_X11_lets) (pc := 32) (v := .int (nI 1)) (h1 := hp_sF h m 0 (.int (nI 0))) (st := []) (bc := 0) (bs := 0) (c_M_may_t hst (h := hp_sF h m 0 (.int (nI 0))) (ModS.sF hM (by decide)) (hp_F_eq _ _ _ _) (nI 1) (nI 1)) vv_X11_may dX11_lets_32 wg_1413 hM.K0 rfl rfl rfl rfl (Nat.le_of_ble_eq_true rfl) (Nat.le_of_ble_eq_true rfl) (Nat.le_of_ble_eq_true rfl) (Nat.le_of_ble_eq_true rfl) ?_
      refine ww_if_neN (tgt := 40) dX11_lets_35 (by decide) (by omega) (fun c35 => ?_) (fun c35 => ?_)
      · refine ww_iconst (v := nI 0) dX11_lets_40 (by decide) ?_
        refine ww_sti_n (lv2 := [.ref m, .int (nI k), .int (nI 1), .int (nI 0), UU, UU, UU, UU]) dX11_lets_41 rfl rfl (by decide) rfl ?_
        refine ww_iconst (v := -1) dX11_lets_42 (by decide) ?_
        refine ww_sti (lv2 := [.ref m, .int (nI k), .int (nI 1), .int (nI 0), .int (-1), UU, UU, UU]) dX11_lets_43 rfl (by decide) rfl ?_
        refine ww_iconst (v := nI 0) dX11_lets_45 (by decide) ?_
        refine ww_sti (lv2 := [.ref m, .int (nI k), .int (nI 1), .int (nI 0), .int (-1), .int (nI 0), UU, UU]) dX11_lets_46 rfl (by decide) rfl ?_
        refine l_M_lets hst k hk (nI 1) ((k + 1) * (k + 1)) 0 (by omega) ?_
        refine ww_iload_n dX11_lets_120 rfl rfl ?_
        refine ww_if_neN (tgt := 128) dX11_lets_121 (by decide) (by omega) (fun c121 => ?_) (fun c121 => ?_)
        · refine ww_iload_n dX11_lets_128 rfl rfl ?_
          refine ww_iconst (v := nI 1) dX11_lets_129 (by decide) ?_
          refine ww_icmp_neN (tgt := 138) dX11_lets_130 (by decide) (by omega) (by omega) (fun c130 => ?_) (fun c130 => ?_)
          · exact absurd c130 (by decide)
          · refine ww_iload dX11_lets_133 rfl ?_
            refine ww_goto (tgt := 175) dX11_lets_135 (by decide) ?_
            exact ww_iret dX11_lets_175 rfl ⟨rfl, (Same.rf.sF (SY0 m)), (hp_F_eq _ _ _ _)⟩
        · exact absurd c121 (by decide)
      · exact absurd c35 (by decide)
set_option maxHeartbeats 4000000 in
set_option maxRecDepth 100000 in
theorem c_M_lets2 {l : Launch} {Z : EE} (hst : l.stackTraces = false) {h : PH} {m : Nat} (hM : ModS h m) (k : Nat) (hk : k ≤ 20) : CC l Z m_X11_lets 2 0 0 [.ref m, .int (nI k), .int (nI 2)] h (MOk (lsF (lfM k ((k + 1) * (k + 1))).2) m h) := by
  refine ee_entry hst (by decide +kernel) rfl rfl (by simp [Value.category]) (Nat.le_of_ble_eq_true rfl) ?_
  refine ww_lv (lv2 := [.ref m, .int (nI k), .int (nI 2), UU, UU, UU, UU, UU]) rfl ?_
  refine ww_aload_n dX11_lets_0 rfl rfl ?_
  refine ww_iconst (v := nI 0) dX11_lets_1 (by decide) ?_
  refine ww_pfI tyX11 0 dX11_lets_2 hM.K0 rfl (by decide) inX11 tyX11_ok nmX11 wg_1240 rfl rfl ?_
  refine ww_aload_n dX11_lets_5 rfl rfl ?_
  refine ww_iload_n dX11_lets_6 rfl rfl ?_
  refine ww_iconst (v := nI 0) dX11_lets_7 (by decide) ?_
  refine ww_bipush (v := nI 20) dX11_lets_8 (by decide) ?_
  refine ww_cSr (M := m_X11_lets) (pc := 10) (v := .int (nI 1)) (h1 := hp_sF h m 0 (.int (nI 0))) (st := [.ref m]) (bc := 0) (bs := 0) (c_M_within_t hst (nI k) (nI 0) (nI 20) (nI_le (by omega) (by omega)) (nI_le (by omega) (by omega)) _) vv_X11_within dX11_lets_10 wg_1601 rfl rfl rfl (Nat.le_of_ble_eq_true rfl) (Nat.le_of_ble_eq_true rfl) (Nat.le_of_ble_eq_true rfl) (Nat.le_of_ble_eq_true rfl) ?_
  refine ww_if_eqN (tgt := 29) dX11_lets_13 (by decide) (by omega) (fun c13 => ?_) (fun c13 => ?_)
  · exact absurd c13 (by decide)
  · refine ww_iload_n dX11_lets_16 rfl rfl ?_
    refine ww_iconst (v := nI 0) dX11_lets_17 (by decide) ?_
    refine ww_iconst (v := nI 2) dX11_lets_18 (by decide) ?_
    refine ww_cSr (M := m_X11_lets) (pc := 19) (v := .int (nI 1)) (h1 := hp_sF h m 0 (.int (nI 0))) (st := [.ref m]) (bc := 0) (bs := 0) (c_M_within_t hst (nI 2) (nI 0) (nI 2) (by decide) (by decide) _) vv_X11_within dX11_lets_19 wg_1601 rfl rfl rfl (Nat.le_of_ble_eq_true rfl) (Nat.le_of_ble_eq_true rfl) (Nat.le_of_ble_eq_true rfl) (Nat.le_of_ble_eq_true rfl) ?_
    refine ww_if_eqN (tgt := 29) dX11_lets_22 (by decide) (by omega) (fun c22 => ?_) (fun c22 => ?_)
    · exact absurd c22 (by decide)
    · refine ww_iconst (v := nI 1) dX11_lets_25 (by decide) ?_
      refine ww_goto (tgt := 30) dX11_lets_26 (by decide) ?_
      refine ww_iconst (v := nI 1) dX11_lets_30 (by decide) ?_
      refine ww_iconst (v := nI 1) dX11_lets_31 (by decide) ?_
      refine ww_cVr (M := m_X11_lets) (pc := 32) (v := .int (nI 1)) (h1 := hp_sF h m 0 (.int (nI 0))) (st := []) (bc := 0) (bs := 0) (c_M_may_t hst (h := hp_sF h m 0 (.int (nI 0))) (ModS.sF hM (by decide)) (hp_F_eq _ _ _ _) (nI 1) (nI 1)) vv_X11_may dX11_lets_32 wg_1413 hM.K0 rfl rfl rfl rfl (Nat.le_of_ble_eq_true rfl) (Nat.le_of_ble_eq_true rfl) (Nat.le_of_ble_eq_true rfl) (Nat.le_of_ble_eq_true rfl) ?_
      refine ww_if_neN (tgt := 40) dX11_lets_35 (by decide) (by omega) (fun c35 => ?_) (fun c35 => ?_)
      · refine ww_iconst (v := nI 0) dX11_lets_40 (by decide) ?_
        refine ww_sti_n (lv2 := [.ref m, .int (nI k), .int (nI 2), .int (nI 0), UU, UU, UU, UU]) dX11_lets_41 rfl rfl (by decide) rfl ?_
        refine ww_iconst (v := -1) dX11_lets_42 (by decide) ?_
        refine ww_sti (lv2 := [.ref m, .int (nI k), .int (nI 2), .int (nI 0), .int (-1), UU, UU, UU]) dX11_lets_43 rfl (by decide) rfl ?_
        refine ww_iconst (v := nI 0) dX11_lets_45 (by decide) ?_
        refine ww_sti (lv2 := [.ref m, .int (nI k), .int (nI 2), .int (nI 0), .int (-1), .int (nI 0), UU, UU]) dX11_lets_46 rfl (by decide) rfl ?_
        refine l_M_lets hst k hk (nI 2) ((k + 1) * (k + 1)) 0 (by omega) ?_
        have hok := (lfM_ok k hk ((k + 1) * (k + 1)) (Nat.le_refl _)).1
        unfold lsF
        generalize (lfM k ((k + 1) * (k + 1))).2 = fi at hok ⊢
        rcases hok with rfl | ⟨c, hc, rfl⟩
        · refine ww_iload_n dX11_lets_120 rfl rfl ?_
          refine ww_if_neN (tgt := 128) dX11_lets_121 (by decide) (by omega) (fun c121 => ?_) (fun c121 => ?_)
          · refine ww_iload_n dX11_lets_128 rfl rfl ?_
            refine ww_iconst (v := nI 1) dX11_lets_129 (by decide) ?_
            refine ww_icmp_neN (tgt := 138) dX11_lets_130 (by decide) (by omega) (by omega) (fun c130 => ?_) (fun c130 => ?_)
            · refine ww_iload dX11_lets_138 rfl ?_
              refine ww_iconst (v := -1) dX11_lets_140 (by decide) ?_
              refine ww_icmp_ne (tgt := 148) dX11_lets_141 (by decide) (fun c141 => ?_) (fun c141 => ?_)
              · exact absurd rfl c141
              · refine ww_iconst (v := nI 0) dX11_lets_144 (by decide) ?_
                refine ww_goto (tgt := 175) dX11_lets_145 (by decide) ?_
                exact ww_iret dX11_lets_175 rfl ⟨rfl, (Same.rf.sF (SY0 m)), (hp_F_eq _ _ _ _)⟩
            · exact absurd c130 (by decide)
          · exact absurd c121 (by decide)
        · refine ww_iload_n dX11_lets_120 rfl rfl ?_
          refine ww_if_neN (tgt := 128) dX11_lets_121 (by decide) (by omega) (fun c121 => ?_) (fun c121 => ?_)
          · refine ww_iload_n dX11_lets_128 rfl rfl ?_
            refine ww_iconst (v := nI 1) dX11_lets_129 (by decide) ?_
            refine ww_icmp_neN (tgt := 138) dX11_lets_130 (by decide) (by omega) (by omega) (fun c130 => ?_) (fun c130 => ?_)
            · refine ww_iload dX11_lets_138 rfl ?_
              refine ww_iconst (v := -1) dX11_lets_140 (by decide) ?_
              refine ww_icmp_ne (tgt := 148) dX11_lets_141 (by decide) (fun c141 => ?_) (fun c141 => ?_)
              · refine ww_iload dX11_lets_148 rfl ?_
                refine ww_bipush (v := nI 100) dX11_lets_150 (by decide) ?_
                refine ww_idivN dX11_lets_152 (by omega) (by omega) (by omega) ?_
                refine ww_iload dX11_lets_153 rfl ?_
                refine ww_bipush (v := nI 100) dX11_lets_155 (by decide) ?_
                refine ww_iremN dX11_lets_157 (by omega) (by omega) (by omega) ?_
                refine ww_cSr (M := m_X11_lets) (pc := 158) (v := .int (nI (hbF (c / 100) (c % 100)))) (h1 := hp_sF h m 0 (.int (nI 0))) (st := []) (bc := 0) (bs := 0) (c_M_hasBy hst (c / 100) (c % 100) (by omega) (by omega) _) vv_X11_hasBy dX11_lets_158 wg_1708 rfl rfl rfl (Nat.le_of_ble_eq_true rfl) (Nat.le_of_ble_eq_true rfl) (Nat.le_of_ble_eq_true rfl) (Nat.le_of_ble_eq_true rfl) ?_
                refine ww_iload dX11_lets_161 rfl ?_
                refine ww_bipush (v := nI 100) dX11_lets_163 (by decide) ?_
                refine ww_iremN dX11_lets_165 (by omega) (by omega) (by omega) ?_
                refine ww_iload dX11_lets_166 rfl ?_
                refine ww_bipush (v := nI 100) dX11_lets_168 (by decide) ?_
                refine ww_idivN dX11_lets_170 (by omega) (by omega) (by omega) ?_
                refine ww_cSr (M := m_X11_lets) (pc := 171) (v := .int (nI (hbF (c % 100) (c / 100)))) (h1 := hp_sF h m 0 (.int (nI 0))) (st := [.int (nI (hbF (c / 100) (c % 100)))]) (bc := 0) (bs := 0) (c_M_hasBy hst (c % 100) (c / 100) (by omega) (by omega) _) vv_X11_hasBy dX11_lets_171 wg_1708 rfl rfl rfl (Nat.le_of_ble_eq_true rfl) (Nat.le_of_ble_eq_true rfl) (Nat.le_of_ble_eq_true rfl) (Nat.le_of_ble_eq_true rfl) ?_
                refine ww_iaddN dX11_lets_174 ?_
                exact ww_iret dX11_lets_175 rfl ⟨by rw [if_neg (nI_m1 (by omega)), nI_clamp (by omega)], (Same.rf.sF (SY0 m)), (hp_F_eq _ _ _ _)⟩
              · exact absurd c141 (nI_m1 (by omega))
            · exact absurd c130 (by decide)
          · exact absurd c121 (by decide)
      · exact absurd c35 (by decide)
set_option maxHeartbeats 4000000 in
set_option maxRecDepth 100000 in
theorem c_M_lets_no0 {l : Launch} {Z : EE} (hst : l.stackTraces = false) {h : PH} {m : Nat} (hM : ModS h m) (k : Int32) (w : Int32) (hout : outR 0 20 k) : CC l Z m_X11_lets 2 0 0 [.ref m, .int k, .int w] h (MNo 1 1 m h) := by
  refine ee_entry hst (by decide +kernel) rfl rfl (by simp [Value.category]) (Nat.le_of_ble_eq_true rfl) ?_
  refine ww_lv (lv2 := [.ref m, .int k, .int w, UU, UU, UU, UU, UU]) rfl ?_
  refine ww_aload_n dX11_lets_0 rfl rfl ?_
  refine ww_iconst (v := nI 0) dX11_lets_1 (by decide) ?_
  refine ww_pfI tyX11 0 dX11_lets_2 hM.K0 rfl (by decide) inX11 tyX11_ok nmX11 wg_1240 rfl rfl ?_
  refine ww_aload_n dX11_lets_5 rfl rfl ?_
  refine ww_iload_n dX11_lets_6 rfl rfl ?_
  refine ww_iconst (v := nI 0) dX11_lets_7 (by decide) ?_
  refine ww_bipush (v := nI 20) dX11_lets_8 (by decide) ?_
  refine ww_cSr (M := m_X11_lets) (pc := 10) (v := .int (nI 0)) (h1 := hp_sF h m 0 (.int (nI 0))) (st := [.ref m]) (bc := 0) (bs := 0) (c_M_within_f hst k (nI 0) (nI 20) hout _) vv_X11_within dX11_lets_10 wg_1601 rfl rfl rfl (Nat.le_of_ble_eq_true rfl) (Nat.le_of_ble_eq_true rfl) (Nat.le_of_ble_eq_true rfl) (Nat.le_of_ble_eq_true rfl) ?_
  refine ww_if_eqN (tgt := 29) dX11_lets_13 (by decide) (by omega) (fun c13 => ?_) (fun c13 => ?_)
  · refine ww_iconst (v := nI 0) dX11_lets_29 (by decide) ?_
    refine ww_iconst (v := nI 1) dX11_lets_30 (by decide) ?_
    refine ww_iconst (v := nI 1) dX11_lets_31 (by decide) ?_
    refine ww_cVr (M := m_X11_lets) (pc := 32) (v := .int (nI 0)) (h1 := hp_sI (hp_sF (hp_sF h m 0 (.int (nI 0))) m 0 (.int (nI 1))) (m + 1) (upd (hp_I (hp_sF h m 0 (.int (nI 0))) (m + 1)) 1 (hp_I (hp_sF h m 0 (.int (nI 0))) (m + 1) 1 + nI 1))) (st := []) (bc := 0) (bs := 0) (c_M_may_f hst (h := hp_sF h m 0 (.int (nI 0))) (ModS.sF hM (by decide)) (hp_F_eq _ _ _ _) 1 1 (by decide) (by decide) (by decide)) vv_X11_may dX11_lets_32 wg_1413 hM.K0 rfl rfl rfl rfl (Nat.le_of_ble_eq_true rfl) (Nat.le_of_ble_eq_true rfl) (Nat.le_of_ble_eq_true rfl) (Nat.le_of_ble_eq_true rfl) ?_
    refine ww_if_neN (tgt := 40) dX11_lets_35 (by decide) (by omega) (fun c35 => ?_) (fun c35 => ?_)
    · exact absurd c35 (by decide)
    · refine ww_iconst (v := nI 0) dX11_lets_38 (by decide) ?_
      exact ww_iret dX11_lets_39 rfl ⟨rfl, (((Same.rf.sF (SY0 m)).sF (SY0 m)).sI (Or.inr rfl)), (hp_F_eq _ _ _ _), by rw [hp_I_eq]; rfl⟩
  · exact absurd c13 (by decide)
set_option maxHeartbeats 4000000 in
set_option maxRecDepth 100000 in
theorem c_M_lets_no1 {l : Launch} {Z : EE} (hst : l.stackTraces = false) {h : PH} {m : Nat} (hM : ModS h m) (k : Nat) (lk : 0 ≤ k) (hk : k ≤ 20) (w : Int32) (hout : outR 0 2 w) : CC l Z m_X11_lets 2 0 0 [.ref m, .int (nI k), .int w] h (MNo 1 1 m h) := by
  refine ee_entry hst (by decide +kernel) rfl rfl (by simp [Value.category]) (Nat.le_of_ble_eq_true rfl) ?_
  refine ww_lv (lv2 := [.ref m, .int (nI k), .int w, UU, UU, UU, UU, UU]) rfl ?_
  refine ww_aload_n dX11_lets_0 rfl rfl ?_
  refine ww_iconst (v := nI 0) dX11_lets_1 (by decide) ?_
  refine ww_pfI tyX11 0 dX11_lets_2 hM.K0 rfl (by decide) inX11 tyX11_ok nmX11 wg_1240 rfl rfl ?_
  refine ww_aload_n dX11_lets_5 rfl rfl ?_
  refine ww_iload_n dX11_lets_6 rfl rfl ?_
  refine ww_iconst (v := nI 0) dX11_lets_7 (by decide) ?_
  refine ww_bipush (v := nI 20) dX11_lets_8 (by decide) ?_
  refine ww_cSr (M := m_X11_lets) (pc := 10) (v := .int (nI 1)) (h1 := hp_sF h m 0 (.int (nI 0))) (st := [.ref m]) (bc := 0) (bs := 0) (c_M_within_t hst (nI k) (nI 0) (nI 20) (nI_le (by omega) (by omega)) (nI_le (by omega) (by omega)) _) vv_X11_within dX11_lets_10 wg_1601 rfl rfl rfl (Nat.le_of_ble_eq_true rfl) (Nat.le_of_ble_eq_true rfl) (Nat.le_of_ble_eq_true rfl) (Nat.le_of_ble_eq_true rfl) ?_
  refine ww_if_eqN (tgt := 29) dX11_lets_13 (by decide) (by omega) (fun c13 => ?_) (fun c13 => ?_)
  · exact absurd c13 (by decide)
  · refine ww_iload_n dX11_lets_16 rfl rfl ?_
    refine ww_iconst (v := nI 0) dX11_lets_17 (by decide) ?_
    refine ww_iconst (v := nI 2) dX11_lets_18 (by decide) ?_
    refine ww_cSr (M := m_X11_lets) (pc := 19) (v := .int (nI 0)) (h1 := hp_sF h m 0 (.int (nI 0))) (st := [.ref m]) (bc := 0) (bs := 0) (c_M_within_f hst w (nI 0) (nI 2) hout _) vv_X11_within dX11_lets_19 wg_1601 rfl rfl rfl (Nat.le_of_ble_eq_true rfl) (Nat.le_of_ble_eq_true rfl) (Nat.le_of_ble_eq_true rfl) (Nat.le_of_ble_eq_true rfl) ?_
    refine ww_if_eqN (tgt := 29) dX11_lets_22 (by decide) (by omega) (fun c22 => ?_) (fun c22 => ?_)
    · refine ww_iconst (v := nI 0) dX11_lets_29 (by decide) ?_
      refine ww_iconst (v := nI 1) dX11_lets_30 (by decide) ?_
      refine ww_iconst (v := nI 1) dX11_lets_31 (by decide) ?_
      refine ww_cVr (M := m_X11_lets) (pc := 32) (v := .int (nI 0)) (h1 := hp_sI (hp_sF (hp_sF h m 0 (.int (nI 0))) m 0 (.int (nI 1))) (m + 1) (upd (hp_I (hp_sF h m 0 (.int (nI 0))) (m + 1)) 1 (hp_I (hp_sF h m 0 (.int (nI 0))) (m + 1) 1 + nI 1))) (st := []) (bc := 0) (bs := 0) (c_M_may_f hst (h := hp_sF h m 0 (.int (nI 0))) (ModS.sF hM (by decide)) (hp_F_eq _ _ _ _) 1 1 (by decide) (by decide) (by decide)) vv_X11_may dX11_lets_32 wg_1413 hM.K0 rfl rfl rfl rfl (Nat.le_of_ble_eq_true rfl) (Nat.le_of_ble_eq_true rfl) (Nat.le_of_ble_eq_true rfl) (Nat.le_of_ble_eq_true rfl) ?_
      refine ww_if_neN (tgt := 40) dX11_lets_35 (by decide) (by omega) (fun c35 => ?_) (fun c35 => ?_)
      · exact absurd c35 (by decide)
      · refine ww_iconst (v := nI 0) dX11_lets_38 (by decide) ?_
        exact ww_iret dX11_lets_39 rfl ⟨rfl, (((Same.rf.sF (SY0 m)).sF (SY0 m)).sI (Or.inr rfl)), (hp_F_eq _ _ _ _), by rw [hp_I_eq]; rfl⟩
    · exact absurd c22 (by decide)
