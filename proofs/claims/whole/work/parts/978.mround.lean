/-! ===== ways round in the reference ===== -/
theorem nlt_neg {x : Int32} {k : Nat} (hk : k ≤ 100) (hx : x < 0) : ¬ nI k < x := fun c => by
  have h1 : (nI k).toInt = k := Int32.toInt_ofNat_of_lt (by omega)
  rw [Int32.lt_iff_toInt_lt] at c hx
  rw [h1] at c
  have h0 : (0 : Int32).toInt = 0 := rfl
  rw [h0] at hx
  omega
theorem i_nx (b : Nat) : nI b - nI 3 + 1 = nI (b + 1) - nI 3 := by
  rw [← nI_add b 1]
  show nI b - nI 3 + 1 = nI b + 1 - nI 3
  rw [Int32.sub_eq_add_neg, Int32.sub_eq_add_neg, Int32.add_assoc, Int32.add_comm (-nI 3) 1, ← Int32.add_assoc]
theorem i_nx3 {b : Nat} (h : 3 ≤ b) : nI (b - 3 + 1) = nI (b + 1) - nI 3 := by
  rw [pk_sub (by omega), show b + 1 - 3 = b - 3 + 1 by omega]
theorem fareC_tn {f g9 : Nat → Int32} (hg9 : ∀ i, i < 190 → g9 i = f i) {sz : Nat} {kf vf : Nat → Int32} {k w : Nat} (hk : k ≤ 60) : fareC g9 sz kf vf k w = nI (fareTn f sz kf vf k w) := by
  rw [← fareT_in hk, fareT_eq hg9]; exact (fareTn_ok f sz kf vf k w).1
def RdM (m : Nat) (v : Nat → Nat) (h : PH) : Prop := ∀ i, i < 61 → hp_I h (m + 21) i = nI (v i)
theorem RdM.st {m : Nat} {v : Nat → Nat} {h h2 : PH} (hR : RdM m v h) (hS : Same (fun c => c = m + 10 ∨ c = m + 11) (fun _ _ => False) h h2) : RdM m v h2 := fun i hi => by rw [hS.2.2.2.1 _ (by omega)]; exact hR i hi
theorem RdM.up {h : PH} {m : Nat} {v : Nat → Nat} {n x : Nat} (hA : RdM m v h) {F : Nat → Int32} (hF : F = upd (hp_I h (m + 21)) n (nI x)) : RdM m (ubN v n x) (hp_sI h (m + 21) F) := fun i hi => by
  rw [hp_I_eq, hF]
  by_cases e : i = n
  · rw [e, ubN_s]; simp [upd]
  · rw [ubN_n _ _ e]; simp [upd, e]; exact hA i hi
set_option maxHeartbeats 4000000 in
set_option maxRecDepth 100000 in
theorem c_M_stepC {l : Launch} {Z : EE} (hst : l.stackTraces = false) {h : PH} {m : Nat} {sz : Nat} {kf vf : Nat → Int32} (hok : LawOK kf vf sz) {f g9 : Nat → Int32} (hg9 : ∀ i, i < 190 → g9 i = f i) {h2 : PH} (hi : MI m sz kf vf g9 h h2) (n e : Nat) (hn : n ≤ 60) (he : e ≤ 60) : CC l Z m_X11_stepCost 5 0 0 [.ref m, .int (nI n), .int (nI e)] h2 (RQ (some (.int (nI (1000 * tlN f sz kf vf e n + 1)))) (Same (fun c => c = m + 10 ∨ c = m + 11) (fun _ _ => False) h2)) := by
  refine ee_entry hst (by decide +kernel) rfl rfl (by simp [Value.category]) (Nat.le_of_ble_eq_true rfl) ?_
  refine ww_lv (lv2 := [.ref m, .int (nI n), .int (nI e)]) rfl ?_
  refine ww_sipush (v := nI 1000) dX11_stepCost_0 (by decide) ?_
  refine ww_aload_n dX11_stepCost_3 rfl rfl ?_
  refine ww_iload_n dX11_stepCost_4 rfl rfl ?_
  refine ww_iload_n dX11_stepCost_5 rfl rfl ?_
  refine ww_iload_n dX11_stepCost_6 rfl rfl ?_
  refine ww_icmp_neN (tgt := 14) dX11_stepCost_7 (by decide) (by omega) (by omega) (fun c7 => ?_) (fun c7 => ?_)
  · refine ww_iconst (v := nI 2) dX11_stepCost_14 (by decide) ?_
    refine ww_cVq (M := m_X11_stepCost) (pc := 15) (v := .int (fareC g9 sz kf vf n 2)) (st := [.int (nI 1000)]) (d := 5) (bc := 0) (bs := 0) (c_M_fareBy hst hi.1 hi.2.1 hok hi.2.2.1 n (by omega) 2 (by omega)) vv_X11_fareBy dX11_stepCost_15 wg_1555 hi.1.K0 rfl rfl rfl rfl (Nat.le_of_ble_eq_true rfl) (Nat.le_of_ble_eq_true rfl) (Nat.le_of_ble_eq_true rfl) (Nat.le_of_ble_eq_true rfl) (fun hq1 qq1 => ?_)
    have hi1 := hi.step qq1
    refine ww_sk (st2 := [.int (nI (fareTn f sz kf vf n 2)), .int (nI 1000)]) (by rw [fareC_tn hg9 (by omega)]) ?_
    refine ww_imulN dX11_stepCost_18 ?_
    refine ww_iconst (v := nI 1) dX11_stepCost_19 (by decide) ?_
    refine ww_iaddN dX11_stepCost_20 ?_
    exact ww_iret dX11_stepCost_21 rfl ⟨by unfold tlN; rw [if_neg c7], qq1⟩
  · refine ww_iconst (v := nI 1) dX11_stepCost_10 (by decide) ?_
    refine ww_goto (tgt := 15) dX11_stepCost_11 (by decide) ?_
    refine ww_cVq (M := m_X11_stepCost) (pc := 15) (v := .int (fareC g9 sz kf vf n 1)) (st := [.int (nI 1000)]) (d := 5) (bc := 0) (bs := 0) (c_M_fareBy hst hi.1 hi.2.1 hok hi.2.2.1 n (by omega) 1 (by omega)) vv_X11_fareBy dX11_stepCost_15 wg_1555 hi.1.K0 rfl rfl rfl rfl (Nat.le_of_ble_eq_true rfl) (Nat.le_of_ble_eq_true rfl) (Nat.le_of_ble_eq_true rfl) (Nat.le_of_ble_eq_true rfl) (fun hq1 qq1 => ?_)
    have hi1 := hi.step qq1
    refine ww_sk (st2 := [.int (nI (fareTn f sz kf vf n 1)), .int (nI 1000)]) (by rw [fareC_tn hg9 (by omega)]) ?_
    refine ww_imulN dX11_stepCost_18 ?_
    refine ww_iconst (v := nI 1) dX11_stepCost_19 (by decide) ?_
    refine ww_iaddN dX11_stepCost_20 ?_
    exact ww_iret dX11_stepCost_21 rfl ⟨by unfold tlN; rw [if_pos c7], qq1⟩
set_option maxHeartbeats 4000000 in
set_option maxRecDepth 100000 in
theorem l_M_rin {l : Launch} {Z : EE} (hst : l.stackTraces = false) {h : PH} {m : Nat} {sz : Nat} {kf vf : Nat → Int32} (hok : LawOK kf vf sz) {f g9 : Nat → Int32} (hg9 : ∀ i, i < 190 → g9 i = f i) {e : Nat} (he : e ≤ 60) {v0 : Nat → Nat} (n : Nat) (hn : n ≤ 60) (hne : n ≠ e) {Post : Res → PH → Prop} : ∀ (j b c : Nat) (v : Nat → Nat) (hq : PH), b + j = n + 7 → n ≤ b → MI m sz kf vf g9 h hq → RdM m v hq → rI 1000 (tlN f sz kf vf e) e v → rS (tlN f sz kf vf e) e v0 n (b - 3) c v → (∀ c v h9, MI m sz kf vf g9 h h9 → RdM m v h9 → rI 1000 (tlN f sz kf vf e) e v → rS (tlN f sz kf vf e) e v0 n (n + 7 - 3) c v → WW l Z m_X11_layRound 6 0 0 141 [.ref m, .int (nI e), .int (nI c), .int (nI n), UU, UU] [] h9 Post) → WW l Z m_X11_layRound 6 0 0 65 [.ref m, .int (nI e), .int (nI c), .int (nI n), .int (nI b - nI 3), UU] [] hq Post := by
  intro j
  induction j with
  | zero =>
    intro b c v hq hj hb hi hr hI hP hex
    have hb9 : b = n + 7 := by omega
    subst hb9
    refine ww_lv (lv2 := [.ref m, .int (nI e), .int (nI c), .int (nI n), .int (nI (n + 7 - 3)), UU]) (by rw [pk_sub (by omega)]) ?_
    refine ww_iload dX11_layRound_65 rfl ?_
    refine ww_iload_n dX11_layRound_67 rfl rfl ?_
    refine ww_iconst (v := nI 3) dX11_layRound_68 (by decide) ?_
    refine ww_iaddN dX11_layRound_69 ?_
    refine ww_icmp_gtN (tgt := 141) dX11_layRound_70 (by decide) (by omega) (by omega) (fun c70 => ?_) (fun c70 => ?_)
    · refine ww_fg (lv2 := [.ref m, .int (nI e), .int (nI c), .int (nI n), UU, UU]) ⟨Or.inr rfl, Or.inr rfl, Or.inr rfl, Or.inr rfl, Or.inl rfl, Or.inl rfl, trivial⟩ ?_
      exact hex c v hq hi hr hI (show rS (tlN f sz kf vf e) e v0 n (n + 7 - 3) c v from hP)
    · exfalso; omega
  | succ j ih =>
    intro b c v hq hj hb hi hr hI hP hex
    have hc1 : c ≤ 1 := by rcases hP with q | q <;> omega
    rcases Nat.lt_or_ge b 3 with h3 | h3
    · refine ww_iload dX11_layRound_65 rfl ?_
      refine ww_iload_n dX11_layRound_67 rfl rfl ?_
      refine ww_iconst (v := nI 3) dX11_layRound_68 (by decide) ?_
      refine ww_iaddN dX11_layRound_69 ?_
      refine ww_icmp_gt (tgt := 141) dX11_layRound_70 (by decide) (fun c70 => ?_) (fun c70 => ?_)
      · exact absurd c70 (nlt_neg (by omega) (nsub_neg h3 (by omega)))
      · refine ww_iload dX11_layRound_73 rfl ?_
        refine ww_if_lt (tgt := 135) dX11_layRound_75 (by decide) (fun c75 => ?_) (fun c75 => ?_)
        · refine ww_inc (v := (nI b - nI 3) + 1) (lv2 := [.ref m, .int (nI e), .int (nI c), .int (nI n), .int ((nI b - nI 3) + 1), UU]) dX11_layRound_135 rfl rfl rfl (by decide) rfl ?_
          refine ww_goto (tgt := 65) dX11_layRound_138 (by decide) ?_
          refine ww_lv (lv2 := [.ref m, .int (nI e), .int (nI c), .int (nI n), .int (nI (b + 1) - nI 3), UU]) (by rw [i_nx]) ?_
          refine ih (b + 1) c v hq (by omega) (by omega) hi hr hI ?_ hex
          rw [show b + 1 - 3 = b - 3 by omega]; exact hP
        · exact absurd (nsub_neg h3 (by omega)) c75
    · refine ww_lv (lv2 := [.ref m, .int (nI e), .int (nI c), .int (nI n), .int (nI (b - 3)), UU]) (by rw [pk_sub h3]) ?_
      refine ww_iload dX11_layRound_65 rfl ?_
      refine ww_iload_n dX11_layRound_67 rfl rfl ?_
      refine ww_iconst (v := nI 3) dX11_layRound_68 (by decide) ?_
      refine ww_iaddN dX11_layRound_69 ?_
      refine ww_icmp_gtN (tgt := 141) dX11_layRound_70 (by decide) (by omega) (by omega) (fun c70 => ?_) (fun c70 => ?_)
      · exfalso; omega
      · refine ww_iload dX11_layRound_73 rfl ?_
        refine ww_if_ltN (tgt := 135) dX11_layRound_75 (by decide) (by omega) ?_
        have hvb : b - 3 ≤ 60 → v (b - 3) ≤ 100000000 := fun q => hI.2.2 _ q
        have htb : b - 3 ≤ 60 → tlN f sz kf vf e (b - 3) ≤ 99 := fun q => tlN_le f sz kf vf e _ q
        have hvn := hI.2.2 n hn
        refine ww_iload dX11_layRound_78 rfl ?_
        refine ww_bipush (v := nI 61) dX11_layRound_80 (by decide) ?_
        refine ww_icmp_geN (tgt := 135) dX11_layRound_82 (by decide) (by omega) (by omega) (fun c82 => ?_) (fun c82 => ?_)
        · refine ww_incN (c := 1) (lv2 := [.ref m, .int (nI e), .int (nI c), .int (nI n), .int (nI (b - 3 + 1)), UU]) dX11_layRound_135 rfl rfl rfl (by decide) rfl ?_
          refine ww_goto (tgt := 65) dX11_layRound_138 (by decide) ?_
          refine ww_lv (lv2 := [.ref m, .int (nI e), .int (nI c), .int (nI n), .int (nI (b + 1) - nI 3), UU]) (by rw [i_nx3 h3]) ?_
          refine ih (b + 1) c v hq (by omega) (by omega) hi hr hI ?_ hex
          rw [show b + 1 - 3 = b - 3 + 1 by omega]
          exact rS_keep hP (fun _ q => by unfold adj at q; omega)
        · refine ww_iload dX11_layRound_85 rfl ?_
          refine ww_iload_n dX11_layRound_87 rfl rfl ?_
          refine ww_icmp_neN (tgt := 94) dX11_layRound_88 (by decide) (by omega) (by omega) (fun c88 => ?_) (fun c88 => ?_)
          · refine ww_aload_n dX11_layRound_94 rfl rfl ?_
            refine ww_iload dX11_layRound_95 rfl ?_
            refine ww_iload_n dX11_layRound_97 rfl rfl ?_
            refine ww_cVq (M := m_X11_layRound) (pc := 98) (v := .int (nI (1000 * tlN f sz kf vf e (b - 3) + 1))) (st := []) (d := 6) (bc := 0) (bs := 0) (c_M_stepC hst hok hg9 hi (b - 3) e (by omega) he) vv_X11_stepCost dX11_layRound_98 wg_1666 hi.1.K0 rfl rfl rfl rfl (Nat.le_of_ble_eq_true rfl) (Nat.le_of_ble_eq_true rfl) (Nat.le_of_ble_eq_true rfl) (Nat.le_of_ble_eq_true rfl) (fun hq1 qq1 => ?_)
            have hi1 := hi.step qq1
            have hr1 := hr.st qq1
            refine ww_aload_n dX11_layRound_101 rfl rfl ?_
            refine ww_get 41 dX11_layRound_102 hi1.1.K0 rfl (by decide) inX11 wg_1281 hi1.1.F21 ?_
            refine ww_iload dX11_layRound_105 rfl ?_
            refine ww_ialdF dX11_layRound_107 hi1.1.K21 rfl (by omega) (by omega) ?_
            refine ww_sk (st2 := [.int (nI (v (b - 3))), .int (nI (1000 * tlN f sz kf vf e (b - 3) + 1))]) (by rw [hr1 (b - 3) (by omega)]) ?_
            refine ww_iaddN dX11_layRound_108 ?_
            refine ww_sti (lv2 := [.ref m, .int (nI e), .int (nI c), .int (nI n), .int (nI (b - 3)), .int (nI ((1000 * tlN f sz kf vf e (b - 3) + 1) + (v (b - 3))))]) dX11_layRound_109 rfl (by decide) rfl ?_
            refine ww_iload dX11_layRound_111 rfl ?_
            refine ww_aload_n dX11_layRound_113 rfl rfl ?_
            refine ww_get 41 dX11_layRound_114 hi1.1.K0 rfl (by decide) inX11 wg_1281 hi1.1.F21 ?_
            refine ww_iload_n dX11_layRound_117 rfl rfl ?_
            refine ww_ialdF dX11_layRound_118 hi1.1.K21 rfl (by omega) (by omega) ?_
            refine ww_sk (st2 := [.int (nI (v n)), .int (nI ((1000 * tlN f sz kf vf e (b - 3) + 1) + (v (b - 3))))]) (by rw [hr1 n (by omega)]) ?_
            refine ww_icmp_ltN (tgt := 125) dX11_layRound_119 (by decide) (by omega) (by omega) (fun c119 => ?_) (fun c119 => ?_)
            · refine ww_aload_n dX11_layRound_125 rfl rfl ?_
              refine ww_get 41 dX11_layRound_126 hi1.1.K0 rfl (by decide) inX11 wg_1281 hi1.1.F21 ?_
              refine ww_iload_n dX11_layRound_129 rfl rfl ?_
              refine ww_iload dX11_layRound_130 rfl ?_
              refine ww_iastF dX11_layRound_132 hi1.1.K21 rfl (by omega) (by omega) ?_
              refine ww_iconst (v := nI 1) dX11_layRound_133 (by decide) ?_
              refine ww_sti_n (lv2 := [.ref m, .int (nI e), .int (nI 1), .int (nI n), .int (nI (b - 3)), .int (nI ((1000 * tlN f sz kf vf e (b - 3) + 1) + (v (b - 3))))]) dX11_layRound_134 rfl rfl (by decide) rfl ?_
              refine ww_incN (c := 1) (lv2 := [.ref m, .int (nI e), .int (nI 1), .int (nI n), .int (nI (b - 3 + 1)), .int (nI ((1000 * tlN f sz kf vf e (b - 3) + 1) + (v (b - 3))))]) dX11_layRound_135 rfl rfl rfl (by decide) rfl ?_
              refine ww_goto (tgt := 65) dX11_layRound_138 (by decide) ?_
              refine ww_fg (lv2 := [.ref m, .int (nI e), .int (nI 1), .int (nI n), .int (nI (b - 3 + 1)), UU]) ⟨Or.inr rfl, Or.inr rfl, Or.inr rfl, Or.inr rfl, Or.inr rfl, Or.inl rfl, trivial⟩ ?_
              refine ww_lv (lv2 := [.ref m, .int (nI e), .int (nI 1), .int (nI n), .int (nI (b + 1) - nI 3), UU]) (by rw [i_nx3 h3]) ?_
              refine ih (b + 1) 1 _ _ (by omega) (by omega) (hi1.sI (SX21 m) (by omega) (by omega) (by omega)) (hr1.up rfl) (rI_up (to := b - 3) hI hn hne (by unfold adj; omega) (by omega) (by omega)) (rS_new hP hn (by omega)) hex
            · refine ww_goto (tgt := 135) dX11_layRound_122 (by decide) ?_
              refine ww_incN (c := 1) (lv2 := [.ref m, .int (nI e), .int (nI c), .int (nI n), .int (nI (b - 3 + 1)), .int (nI ((1000 * tlN f sz kf vf e (b - 3) + 1) + (v (b - 3))))]) dX11_layRound_135 rfl rfl rfl (by decide) rfl ?_
              refine ww_goto (tgt := 65) dX11_layRound_138 (by decide) ?_
              refine ww_fg (lv2 := [.ref m, .int (nI e), .int (nI c), .int (nI n), .int (nI (b - 3 + 1)), UU]) ⟨Or.inr rfl, Or.inr rfl, Or.inr rfl, Or.inr rfl, Or.inr rfl, Or.inl rfl, trivial⟩ ?_
              refine ww_lv (lv2 := [.ref m, .int (nI e), .int (nI c), .int (nI n), .int (nI (b + 1) - nI 3), UU]) (by rw [i_nx3 h3]) ?_
              refine ih (b + 1) c v hq1 (by omega) (by omega) hi1 hr1 hI ?_ hex
              rw [show b + 1 - 3 = b - 3 + 1 by omega]
              exact rS_keep hP (fun _ q => by unfold adj at q; omega)
          · refine ww_goto (tgt := 135) dX11_layRound_91 (by decide) ?_
            refine ww_incN (c := 1) (lv2 := [.ref m, .int (nI e), .int (nI c), .int (nI n), .int (nI (b - 3 + 1)), UU]) dX11_layRound_135 rfl rfl rfl (by decide) rfl ?_
            refine ww_goto (tgt := 65) dX11_layRound_138 (by decide) ?_
            refine ww_lv (lv2 := [.ref m, .int (nI e), .int (nI c), .int (nI n), .int (nI (b + 1) - nI 3), UU]) (by rw [i_nx3 h3]) ?_
            refine ih (b + 1) c v hq (by omega) (by omega) hi hr hI ?_ hex
            rw [show b + 1 - 3 = b - 3 + 1 by omega]
            exact rS_keep hP (fun _ q => by unfold adj at q; omega)
set_option maxHeartbeats 4000000 in
set_option maxRecDepth 100000 in
theorem l_M_rsw {l : Launch} {Z : EE} (hst : l.stackTraces = false) {h : PH} {m : Nat} {sz : Nat} {kf vf : Nat → Int32} (hok : LawOK kf vf sz) {f g9 : Nat → Int32} (hg9 : ∀ i, i < 190 → g9 i = f i) {e : Nat} (he : e ≤ 60) {v0 : Nat → Nat} {Post : Res → PH → Prop} : ∀ (j n c : Nat) (v : Nat → Nat) (hq : PH), n + j = 61 → MI m sz kf vf g9 h hq → RdM m v hq → rI 1000 (tlN f sz kf vf e) e v → rS (tlN f sz kf vf e) e v0 n (n - 3) c v → (∀ c v h9, MI m sz kf vf g9 h h9 → RdM m v h9 → rI 1000 (tlN f sz kf vf e) e v → rS (tlN f sz kf vf e) e v0 61 (61 - 3) c v → WW l Z m_X11_layRound 6 0 0 147 [.ref m, .int (nI e), .int (nI c), .int (nI 61), UU, UU] [] h9 Post) → WW l Z m_X11_layRound 6 0 0 46 [.ref m, .int (nI e), .int (nI c), .int (nI n), UU, UU] [] hq Post := by
  intro j
  induction j with
  | zero =>
    intro n c v hq hj hi hr hI hP hex
    have hb9 : n = 61 := by omega
    subst hb9
    refine ww_iload_n dX11_layRound_46 rfl rfl ?_
    refine ww_bipush (v := nI 61) dX11_layRound_47 (by decide) ?_
    refine ww_icmp_geN (tgt := 147) dX11_layRound_49 (by decide) (by omega) (by omega) (fun c49 => ?_) (fun c49 => ?_)
    · exact hex c v hq hi hr hI hP
    · exfalso; omega
  | succ j ih =>
    intro n c v hq hj hi hr hI hP hex
    have hc1 : c ≤ 1 := by rcases hP with q | q <;> omega
    refine ww_iload_n dX11_layRound_46 rfl rfl ?_
    refine ww_bipush (v := nI 61) dX11_layRound_47 (by decide) ?_
    refine ww_icmp_geN (tgt := 147) dX11_layRound_49 (by decide) (by omega) (by omega) (fun c49 => ?_) (fun c49 => ?_)
    · exfalso; omega
    · refine ww_iload_n dX11_layRound_52 rfl rfl ?_
      refine ww_iload_n dX11_layRound_53 rfl rfl ?_
      refine ww_icmp_neN (tgt := 60) dX11_layRound_54 (by decide) (by omega) (by omega) (fun c54 => ?_) (fun c54 => ?_)
      · refine ww_iload_n dX11_layRound_60 rfl rfl ?_
        refine ww_iconst (v := nI 3) dX11_layRound_61 (by decide) ?_
        refine ww_isub dX11_layRound_62 ?_
        refine ww_sti (lv2 := [.ref m, .int (nI e), .int (nI c), .int (nI n), .int ((nI n) - (nI 3)), UU]) dX11_layRound_63 rfl (by decide) rfl ?_
        refine l_M_rin hst hok hg9 he n (by omega) c54 7 n c v hq rfl (Nat.le_refl _) hi hr hI hP (fun c9 v9 h9 i9 r9 I9 P9 => ?_)
        refine ww_incN (c := 1) (lv2 := [.ref m, .int (nI e), .int (nI c9), .int (nI (n + 1)), UU, UU]) dX11_layRound_141 rfl rfl rfl (by decide) rfl ?_
        refine ww_goto (tgt := 46) dX11_layRound_144 (by decide) ?_
        exact ih (n + 1) c9 v9 h9 (by omega) i9 r9 I9 (rS_row P9 (Or.inr (by omega)) (by omega)) hex
      · refine ww_goto (tgt := 141) dX11_layRound_57 (by decide) ?_
        refine ww_incN (c := 1) (lv2 := [.ref m, .int (nI e), .int (nI c), .int (nI (n + 1)), UU, UU]) dX11_layRound_141 rfl rfl rfl (by decide) rfl ?_
        refine ww_goto (tgt := 46) dX11_layRound_144 (by decide) ?_
        exact ih (n + 1) c v hq (by omega) hi hr hI (rS_row hP (Or.inl c54) (by omega)) hex
set_option maxHeartbeats 4000000 in
set_option maxRecDepth 100000 in
theorem l_M_rall {l : Launch} {Z : EE} (hst : l.stackTraces = false) {h : PH} {m : Nat} {sz : Nat} {kf vf : Nat → Int32} (hok : LawOK kf vf sz) {f g9 : Nat → Int32} (hg9 : ∀ i, i < 190 → g9 i = f i) {e : Nat} (he : e ≤ 60) : ∀ (k : Nat) (v : Nat → Nat) (hq : PH), smN v 61 < k → MI m sz kf vf g9 h hq → RdM m v hq → rI 1000 (tlN f sz kf vf e) e v → WW l Z m_X11_layRound 6 0 0 38 [.ref m, .int (nI e), .int (nI 1), UU, UU, UU] [] hq (RQ none (fun h9 => MI m sz kf vf g9 h h9 ∧ ∃ v, RdM m v h9 ∧ fixR 1000 (tlN f sz kf vf e) e v)) := by
  intro k
  induction k with
  | zero => intro v hq hk; exfalso; omega
  | succ k ih =>
    intro v hq hk hi hr hI
    refine ww_iload_n dX11_layRound_38 rfl rfl ?_
    refine ww_if_eqN (tgt := 150) dX11_layRound_39 (by decide) (by omega) (fun c39 => ?_) (fun c39 => ?_)
    · exfalso; omega
    · refine ww_iconst (v := nI 0) dX11_layRound_42 (by decide) ?_
      refine ww_sti_n (lv2 := [.ref m, .int (nI e), .int (nI 0), UU, UU, UU]) dX11_layRound_43 rfl rfl (by decide) rfl ?_
      refine ww_iconst (v := nI 0) dX11_layRound_44 (by decide) ?_
      refine ww_sti_n (lv2 := [.ref m, .int (nI e), .int (nI 0), .int (nI 0), UU, UU]) dX11_layRound_45 rfl rfl (by decide) rfl ?_
      refine l_M_rsw hst hok hg9 he (v0 := v) 61 0 0 v hq rfl hi hr hI rS_0 (fun c9 v9 h9 i9 r9 I9 p9 => ?_)
      refine ww_goto (tgt := 38) dX11_layRound_147 (by decide) ?_
      refine ww_fg (lv2 := [.ref m, .int (nI e), .int (nI c9), UU, UU, UU]) ⟨Or.inr rfl, Or.inr rfl, Or.inr rfl, Or.inl rfl, Or.inl rfl, Or.inl rfl, trivial⟩ ?_
      have q9 : c9 = 0 ∨ (c9 = 1 ∧ smN v9 61 < smN v 61) := by
        rcases p9 with q | q
        · exact Or.inl q.1
        · exact Or.inr q
      rcases q9 with q9 | q9
      · subst q9
        refine ww_iload_n dX11_layRound_38 rfl rfl ?_
        refine ww_if_eqN (tgt := 150) dX11_layRound_39 (by decide) (by omega) (fun c39 => ?_) (fun c39 => ?_)
        · exact ww_vret dX11_layRound_150 rfl ⟨rfl, i9, v9, r9, rS_fix (tlN_le f sz kf vf e) he I9 p9⟩
        · exfalso; omega
      · obtain ⟨q1, q2⟩ := q9
        subst q1
        exact ih v9 h9 (by omega) i9 r9 I9
set_option maxHeartbeats 4000000 in
set_option maxRecDepth 100000 in
theorem l_M_rini {l : Launch} {Z : EE} (hst : l.stackTraces = false) {h : PH} {m : Nat} {sz : Nat} {kf vf : Nat → Int32} (hok : LawOK kf vf sz) {f g9 : Nat → Int32} (hg9 : ∀ i, i < 190 → g9 i = f i) {e : Nat} (he : e ≤ 60) : ∀ (j k : Nat) (hq : PH), k + j = 61 → MI m sz kf vf g9 h hq → (∀ i, i < k → hp_I hq (m + 21) i = nI (if i = e then 0 else 100000000)) → WW l Z m_X11_layRound 6 0 0 6 [.ref m, .int (nI e), .int (nI k), UU, UU, UU] [] hq (RQ none (fun h9 => MI m sz kf vf g9 h h9 ∧ ∃ v, RdM m v h9 ∧ fixR 1000 (tlN f sz kf vf e) e v)) := by
  intro j
  induction j with
  | zero =>
    intro k hq hj hi hr
    have hb9 : k = 61 := by omega
    subst hb9
    refine ww_iload_n dX11_layRound_6 rfl rfl ?_
    refine ww_bipush (v := nI 61) dX11_layRound_7 (by decide) ?_
    refine ww_icmp_geN (tgt := 36) dX11_layRound_9 (by decide) (by omega) (by omega) (fun c9 => ?_) (fun c9 => ?_)
    · refine ww_iconst (v := nI 1) dX11_layRound_36 (by decide) ?_
      refine ww_sti_n (lv2 := [.ref m, .int (nI e), .int (nI 1), UU, UU, UU]) dX11_layRound_37 rfl rfl (by decide) rfl ?_
      exact l_M_rall hst hok hg9 he _ (fun n => if n = e then 0 else 100000000) hq (Nat.lt_succ_self _) hi (fun i q => hr i (by omega)) (rI_0 1000 (tlN f sz kf vf e) e)
    · exfalso; omega
  | succ j ih =>
    intro k hq hj hi hr
    refine ww_iload_n dX11_layRound_6 rfl rfl ?_
    refine ww_bipush (v := nI 61) dX11_layRound_7 (by decide) ?_
    refine ww_icmp_geN (tgt := 36) dX11_layRound_9 (by decide) (by omega) (by omega) (fun c9 => ?_) (fun c9 => ?_)
    · exfalso; omega
    · refine ww_aload_n dX11_layRound_12 rfl rfl ?_
      refine ww_get 41 dX11_layRound_13 hi.1.K0 rfl (by decide) inX11 wg_1281 hi.1.F21 ?_
      refine ww_iload_n dX11_layRound_16 rfl rfl ?_
      refine ww_iload_n dX11_layRound_17 rfl rfl ?_
      refine ww_iload_n dX11_layRound_18 rfl rfl ?_
      refine ww_icmp_neN (tgt := 26) dX11_layRound_19 (by decide) (by omega) (by omega) (fun c19 => ?_) (fun c19 => ?_)
      · refine ww_ldcw (v := nI 100000000) dX11_layRound_26 wg_1665 ?_
        refine ww_iastF dX11_layRound_29 hi.1.K21 rfl (by omega) (by omega) ?_
        refine ww_incN (c := 1) (lv2 := [.ref m, .int (nI e), .int (nI (k + 1)), UU, UU, UU]) dX11_layRound_30 rfl rfl rfl (by decide) rfl ?_
        refine ww_goto (tgt := 6) dX11_layRound_33 (by decide) ?_
        refine ih (k + 1) _ (by omega) (hi.sI (SX21 m) (by omega) (by omega) (by omega)) (fun i q => ?_)
        rw [hp_I_eq]
        by_cases e1 : i = k
        · rw [e1, pk_us, if_neg c19]
        · rw [pk_un e1]; exact hr i (by omega)
      · refine ww_iconst (v := nI 0) dX11_layRound_22 (by decide) ?_
        refine ww_goto (tgt := 29) dX11_layRound_23 (by decide) ?_
        refine ww_iastF dX11_layRound_29 hi.1.K21 rfl (by omega) (by omega) ?_
        refine ww_incN (c := 1) (lv2 := [.ref m, .int (nI e), .int (nI (k + 1)), UU, UU, UU]) dX11_layRound_30 rfl rfl rfl (by decide) rfl ?_
        refine ww_goto (tgt := 6) dX11_layRound_33 (by decide) ?_
        refine ih (k + 1) _ (by omega) (hi.sI (SX21 m) (by omega) (by omega) (by omega)) (fun i q => ?_)
        rw [hp_I_eq]
        by_cases e1 : i = k
        · rw [e1, pk_us, if_pos c19]
        · rw [pk_un e1]; exact hr i (by omega)
set_option maxHeartbeats 4000000 in
set_option maxRecDepth 100000 in
theorem c_M_layRound {l : Launch} {Z : EE} (hst : l.stackTraces = false) {h : PH} {m : Nat} (hM : ModS h m) {f : Nat → Int32} (hf : hp_I h (m + 14) = f) {g : Nat → Int32} (hs : hp_I h (m + 15) = g) {sz : Nat} {kf vf : Nat → Int32} (hQ : LawM h m sz kf vf) (hok : LawOK kf vf sz) (e : Nat) (he : e ≤ 60) (ht : hp_F h m 0 = .int (nI 0)) : CC l Z m_X11_layRound 6 0 0 [.ref m, .int (nI e)] h (RQ none (fun h9 => MI m sz kf vf (cpF f g 190) h h9 ∧ ∃ v, RdM m v h9 ∧ fixR 1000 (tlN f sz kf vf e) e v)) := by
  refine ee_entry hst (by decide +kernel) rfl rfl (by simp [Value.category]) (Nat.le_of_ble_eq_true rfl) ?_
  refine ww_lv (lv2 := [.ref m, .int (nI e), UU, UU, UU, UU]) rfl ?_
  refine ww_aload_n dX11_layRound_0 rfl rfl ?_
  refine ww_cV0 (M := m_X11_layRound) (pc := 1) (h1 := hp_sI (h) (m + 15) (cpF f g 190)) (st := []) (d := 6) (bc := 0) (bs := 0) (c_M_take hst (h := h) hM hf hs) vv_X11_take dX11_layRound_1 wg_1539 hM.K0 rfl rfl rfl rfl (Nat.le_of_ble_eq_true rfl) (Nat.le_of_ble_eq_true rfl) (Nat.le_of_ble_eq_true rfl) (Nat.le_of_ble_eq_true rfl) ?_
  refine ww_iconst (v := nI 0) dX11_layRound_4 (by decide) ?_
  refine ww_sti_n (lv2 := [.ref m, .int (nI e), .int (nI 0), UU, UU, UU]) dX11_layRound_5 rfl rfl (by decide) rfl ?_
  exact l_M_rini hst hok (fun i hi => cpF_in hi) he 61 0 _ rfl (MI.start2 hM hQ ht) (fun i hi => absurd hi (Nat.not_lt_zero i))
set_option maxHeartbeats 4000000 in
set_option maxRecDepth 100000 in
theorem l_M_rff {l : Launch} {Z : EE} (hst : l.stackTraces = false) {h : PH} {m : Nat} {sz : Nat} {kf vf : Nat → Int32} (hok : LawOK kf vf sz) {f g9 : Nat → Int32} (hg9 : ∀ i, i < 190 → g9 i = f i) {e : Nat} (he : e ≤ 60) {v : Nat → Nat} (hv : fixR 1000 (tlN f sz kf vf e) e v) (hvl : ∀ n, n ≤ 60 → v n ≤ 100000000) (n : Nat) (hn : n ≤ 60) : ∀ (j b : Nat) (hq : PH), b + j = n + 7 → n ≤ b → MI m sz kf vf g9 h hq → RdM m v hq → WW l Z m_X11_round 7 0 0 90 [.ref m, .int (nI n), .int (nI e), .int (nI 2), .int (nI b - nI 3)] [] hq (MOk (fsI (rdW (tlN f sz kf vf e) e n) (b - 3) (61 - (b - 3))) m h) := by
  intro j
  induction j with
  | zero =>
    intro b hq hj hb hi hr
    have hb9 : b = n + 7 := by omega
    subst hb9
    refine ww_lv (lv2 := [.ref m, .int (nI n), .int (nI e), .int (nI 2), .int (nI (n + 7 - 3))]) (by rw [pk_sub (by omega)]) ?_
    refine ww_iload dX11_round_90 rfl ?_
    refine ww_iload_n dX11_round_92 rfl rfl ?_
    refine ww_iconst (v := nI 3) dX11_round_93 (by decide) ?_
    refine ww_iaddN dX11_round_94 ?_
    refine ww_icmp_gtN (tgt := 149) dX11_round_95 (by decide) (by omega) (by omega) (fun c95 => ?_) (fun c95 => ?_)
    · refine ww_iconst (v := -1) dX11_round_149 (by decide) ?_
      exact ww_iret dX11_round_150 rfl ⟨by rw [fsI_none _ _ (fun i h1 h2 => rdW_f (by omega))], hi.2.2.2.1, hi.2.2.2.2⟩
    · exfalso; omega
  | succ j ih =>
    intro b hq hj hb hi hr
    rcases Nat.lt_or_ge b 3 with h3 | h3
    · refine ww_iload dX11_round_90 rfl ?_
      refine ww_iload_n dX11_round_92 rfl rfl ?_
      refine ww_iconst (v := nI 3) dX11_round_93 (by decide) ?_
      refine ww_iaddN dX11_round_94 ?_
      refine ww_icmp_gt (tgt := 149) dX11_round_95 (by decide) (fun c95 => ?_) (fun c95 => ?_)
      · exact absurd c95 (nlt_neg (by omega) (nsub_neg h3 (by omega)))
      · refine ww_iload dX11_round_98 rfl ?_
        refine ww_if_lt (tgt := 143) dX11_round_100 (by decide) (fun c100 => ?_) (fun c100 => ?_)
        · refine ww_inc (v := (nI b - nI 3) + 1) (lv2 := [.ref m, .int (nI n), .int (nI e), .int (nI 2), .int ((nI b - nI 3) + 1)]) dX11_round_143 rfl rfl rfl (by decide) rfl ?_
          refine ww_goto (tgt := 90) dX11_round_146 (by decide) ?_
          refine ww_lv (lv2 := [.ref m, .int (nI n), .int (nI e), .int (nI 2), .int (nI (b + 1) - nI 3)]) (by rw [i_nx]) ?_
          rw [show b - 3 = b + 1 - 3 by omega]
          exact ih (b + 1) hq (by omega) (by omega) hi hr
        · exact absurd (nsub_neg h3 (by omega)) c100
    · refine ww_lv (lv2 := [.ref m, .int (nI n), .int (nI e), .int (nI 2), .int (nI (b - 3))]) (by rw [pk_sub h3]) ?_
      refine ww_iload dX11_round_90 rfl ?_
      refine ww_iload_n dX11_round_92 rfl rfl ?_
      refine ww_iconst (v := nI 3) dX11_round_93 (by decide) ?_
      refine ww_iaddN dX11_round_94 ?_
      refine ww_icmp_gtN (tgt := 149) dX11_round_95 (by decide) (by omega) (by omega) (fun c95 => ?_) (fun c95 => ?_)
      · exfalso; omega
      · refine ww_iload dX11_round_98 rfl ?_
        refine ww_if_ltN (tgt := 143) dX11_round_100 (by decide) (by omega) ?_
        have hvb : b - 3 ≤ 60 → v (b - 3) ≤ 100000000 := fun q => hvl _ q
        have htb : b - 3 ≤ 60 → tlN f sz kf vf e (b - 3) ≤ 99 := fun q => tlN_le f sz kf vf e _ q
        have hvn := hvl n hn
        refine ww_iload dX11_round_103 rfl ?_
        refine ww_bipush (v := nI 61) dX11_round_105 (by decide) ?_
        refine ww_icmp_geN (tgt := 143) dX11_round_107 (by decide) (by omega) (by omega) (fun c107 => ?_) (fun c107 => ?_)
        · refine ww_incN (c := 1) (lv2 := [.ref m, .int (nI n), .int (nI e), .int (nI 2), .int (nI (b - 3 + 1))]) dX11_round_143 rfl rfl rfl (by decide) rfl ?_
          refine ww_goto (tgt := 90) dX11_round_146 (by decide) ?_
          refine ww_lv (lv2 := [.ref m, .int (nI n), .int (nI e), .int (nI 2), .int (nI (b + 1) - nI 3)]) (by rw [i_nx3 h3]) ?_
          have hx9 : fsI (rdW (tlN f sz kf vf e) e n) (b - 3) (61 - (b - 3)) = fsI (rdW (tlN f sz kf vf e) e n) (b + 1 - 3) (61 - (b + 1 - 3)) := by
            rw [show b + 1 - 3 = b - 3 + 1 by omega]
            by_cases q61 : b - 3 < 61
            · exact fsI_nx q61 (rdW_f (by first | omega | exact Or.inr (Or.inr (Or.inr (fun q => c137 ((rd_refE (tlN_le f sz kf vf e) he hv hn (show b - 3 ≤ 60 by omega)).mpr q))))))
            · rw [show 61 - (b - 3) = 0 by omega, show 61 - (b - 3 + 1) = 0 by omega]; rfl
          rw [hx9]
          exact ih (b + 1) hq (by omega) (by omega) hi hr
        · refine ww_iload dX11_round_110 rfl ?_
          refine ww_iload_n dX11_round_112 rfl rfl ?_
          refine ww_icmp_eqN (tgt := 143) dX11_round_113 (by decide) (by omega) (by omega) (fun c113 => ?_) (fun c113 => ?_)
          · refine ww_incN (c := 1) (lv2 := [.ref m, .int (nI n), .int (nI e), .int (nI 2), .int (nI (b - 3 + 1))]) dX11_round_143 rfl rfl rfl (by decide) rfl ?_
            refine ww_goto (tgt := 90) dX11_round_146 (by decide) ?_
            refine ww_lv (lv2 := [.ref m, .int (nI n), .int (nI e), .int (nI 2), .int (nI (b + 1) - nI 3)]) (by rw [i_nx3 h3]) ?_
            have hx9 : fsI (rdW (tlN f sz kf vf e) e n) (b - 3) (61 - (b - 3)) = fsI (rdW (tlN f sz kf vf e) e n) (b + 1 - 3) (61 - (b + 1 - 3)) := by
              rw [show b + 1 - 3 = b - 3 + 1 by omega]
              by_cases q61 : b - 3 < 61
              · exact fsI_nx q61 (rdW_f (by first | omega | exact Or.inr (Or.inr (Or.inr (fun q => c137 ((rd_refE (tlN_le f sz kf vf e) he hv hn (show b - 3 ≤ 60 by omega)).mpr q))))))
              · rw [show 61 - (b - 3) = 0 by omega, show 61 - (b - 3 + 1) = 0 by omega]; rfl
            rw [hx9]
            exact ih (b + 1) hq (by omega) (by omega) hi hr
          · refine ww_aload_n dX11_round_116 rfl rfl ?_
            refine ww_iload dX11_round_117 rfl ?_
            refine ww_iload_n dX11_round_119 rfl rfl ?_
            refine ww_cVq (M := m_X11_round) (pc := 120) (v := .int (nI (1000 * tlN f sz kf vf e (b - 3) + 1))) (st := []) (d := 7) (bc := 0) (bs := 0) (c_M_stepC hst hok hg9 hi (b - 3) e (by omega) he) vv_X11_stepCost dX11_round_120 wg_1666 hi.1.K0 rfl rfl rfl rfl (Nat.le_of_ble_eq_true rfl) (Nat.le_of_ble_eq_true rfl) (Nat.le_of_ble_eq_true rfl) (Nat.le_of_ble_eq_true rfl) (fun hq1 qq1 => ?_)
            have hi1 := hi.step qq1
            have hr1 := hr.st qq1
            refine ww_aload_n dX11_round_123 rfl rfl ?_
            refine ww_get 41 dX11_round_124 hi1.1.K0 rfl (by decide) inX11 wg_1281 hi1.1.F21 ?_
            refine ww_iload dX11_round_127 rfl ?_
            refine ww_ialdF dX11_round_129 hi1.1.K21 rfl (by omega) (by omega) ?_
            refine ww_sk (st2 := [.int (nI (v (b - 3))), .int (nI (1000 * tlN f sz kf vf e (b - 3) + 1))]) (by rw [hr1 (b - 3) (by omega)]) ?_
            refine ww_iaddN dX11_round_130 ?_
            refine ww_aload_n dX11_round_131 rfl rfl ?_
            refine ww_get 41 dX11_round_132 hi1.1.K0 rfl (by decide) inX11 wg_1281 hi1.1.F21 ?_
            refine ww_iload_n dX11_round_135 rfl rfl ?_
            refine ww_ialdF dX11_round_136 hi1.1.K21 rfl (by omega) (by omega) ?_
            refine ww_sk (st2 := [.int (nI (v n)), .int (nI ((1000 * tlN f sz kf vf e (b - 3) + 1) + (v (b - 3))))]) (by rw [hr1 n (by omega)]) ?_
            refine ww_icmp_neN (tgt := 143) dX11_round_137 (by decide) (by omega) (by omega) (fun c137 => ?_) (fun c137 => ?_)
            · refine ww_incN (c := 1) (lv2 := [.ref m, .int (nI n), .int (nI e), .int (nI 2), .int (nI (b - 3 + 1))]) dX11_round_143 rfl rfl rfl (by decide) rfl ?_
              refine ww_goto (tgt := 90) dX11_round_146 (by decide) ?_
              refine ww_lv (lv2 := [.ref m, .int (nI n), .int (nI e), .int (nI 2), .int (nI (b + 1) - nI 3)]) (by rw [i_nx3 h3]) ?_
              have hx9 : fsI (rdW (tlN f sz kf vf e) e n) (b - 3) (61 - (b - 3)) = fsI (rdW (tlN f sz kf vf e) e n) (b + 1 - 3) (61 - (b + 1 - 3)) := by
                rw [show b + 1 - 3 = b - 3 + 1 by omega]
                by_cases q61 : b - 3 < 61
                · exact fsI_nx q61 (rdW_f (by first | omega | exact Or.inr (Or.inr (Or.inr (fun q => c137 ((rd_refE (tlN_le f sz kf vf e) he hv hn (show b - 3 ≤ 60 by omega)).mpr q))))))
                · rw [show 61 - (b - 3) = 0 by omega, show 61 - (b - 3 + 1) = 0 by omega]; rfl
              rw [hx9]
              exact ih (b + 1) hq1 (by omega) (by omega) hi1 hr1
            · refine ww_iload dX11_round_140 rfl ?_
              exact ww_iret dX11_round_142 rfl ⟨by rw [fsI_at (by omega) (rdW_t (by omega) (by omega) (by omega) ((rd_refE (tlN_le f sz kf vf e) he hv hn (show b - 3 ≤ 60 by omega)).mp c137))], hi1.2.2.2.1, hi1.2.2.2.2⟩
set_option maxHeartbeats 4000000 in
set_option maxRecDepth 100000 in
theorem c_M_round0 {l : Launch} {Z : EE} (hst : l.stackTraces = false) {h : PH} {m : Nat} (hM : ModS h m) {f : Nat → Int32} (hf : hp_I h (m + 14) = f) {g : Nat → Int32} (hs : hp_I h (m + 15) = g) {sz : Nat} {kf vf : Nat → Int32} (hQ : LawM h m sz kf vf) (hok : LawOK kf vf sz) (n : Nat) (hn : n ≤ 60) (e : Nat) (he : e ≤ 60) : CC l Z m_X11_round 7 0 0 [.ref m, .int (nI n), .int (nI e), .int (nI 0)] h (MOk (nI (rdD (tlN f sz kf vf e) e n / 64)) m h) := by
  refine ee_entry hst (by decide +kernel) rfl rfl (by simp [Value.category]) (Nat.le_of_ble_eq_true rfl) ?_
  refine ww_lv (lv2 := [.ref m, .int (nI n), .int (nI e), .int (nI 0), UU]) rfl ?_
  refine ww_aload_n dX11_round_0 rfl rfl ?_
  refine ww_iconst (v := nI 0) dX11_round_1 (by decide) ?_
  refine ww_pfI tyX11 0 dX11_round_2 hM.K0 rfl (by decide) inX11 tyX11_ok nmX11 wg_1240 rfl rfl ?_
  refine ww_aload_n dX11_round_5 rfl rfl ?_
  refine ww_iload_n dX11_round_6 rfl rfl ?_
  refine ww_iconst (v := nI 1) dX11_round_7 (by decide) ?_
  refine ww_cVr (M := m_X11_round) (pc := 8) (v := .int (nI 1)) (h1 := hp_sF h m 0 (.int (nI 0))) (st := []) (d := 7) (bc := 0) (bs := 0) (c_M_isThere_t hst (h := hp_sF h m 0 (.int (nI 0))) (ModS.sF hM (by decide)) (hp_F_eq _ _ _ _) n hn) vv_X11_isThere dX11_round_8 wg_1620 hM.K0 rfl rfl rfl rfl (Nat.le_of_ble_eq_true rfl) (Nat.le_of_ble_eq_true rfl) (Nat.le_of_ble_eq_true rfl) (Nat.le_of_ble_eq_true rfl) ?_
  refine ww_if_eqN (tgt := 38) dX11_round_11 (by decide) (by omega) (fun c11 => ?_) (fun c11 => ?_)
  · exfalso; omega
  · refine ww_aload_n dX11_round_14 rfl rfl ?_
    refine ww_iload_n dX11_round_15 rfl rfl ?_
    refine ww_iconst (v := nI 1) dX11_round_16 (by decide) ?_
    refine ww_cVr (M := m_X11_round) (pc := 17) (v := .int (nI 1)) (h1 := hp_sF h m 0 (.int (nI 0))) (st := []) (d := 7) (bc := 0) (bs := 0) (c_M_isThere_t hst (h := hp_sF h m 0 (.int (nI 0))) (ModS.sF hM (by decide)) (hp_F_eq _ _ _ _) e he) vv_X11_isThere dX11_round_17 wg_1620 hM.K0 rfl rfl rfl rfl (Nat.le_of_ble_eq_true rfl) (Nat.le_of_ble_eq_true rfl) (Nat.le_of_ble_eq_true rfl) (Nat.le_of_ble_eq_true rfl) ?_
    refine ww_if_eqN (tgt := 38) dX11_round_20 (by decide) (by omega) (fun c20 => ?_) (fun c20 => ?_)
    · exfalso; omega
    · refine ww_aload_n dX11_round_23 rfl rfl ?_
      refine ww_iload_n dX11_round_24 rfl rfl ?_
      refine ww_iconst (v := nI 0) dX11_round_25 (by decide) ?_
      refine ww_iconst (v := nI 2) dX11_round_26 (by decide) ?_
      refine ww_cSr (M := m_X11_round) (pc := 27) (v := .int (nI 1)) (h1 := hp_sF h m 0 (.int (nI 0))) (st := [.ref m]) (d := 7) (bc := 0) (bs := 0) (c_M_within_t hst (nI 0) (nI 0) (nI 2) (by decide) (by decide) _) vv_X11_within dX11_round_27 wg_1601 rfl rfl rfl (Nat.le_of_ble_eq_true rfl) (Nat.le_of_ble_eq_true rfl) (Nat.le_of_ble_eq_true rfl) (Nat.le_of_ble_eq_true rfl) ?_
      refine ww_iconst (v := nI 2) dX11_round_30 (by decide) ?_
      refine ww_iconst (v := nI 1) dX11_round_31 (by decide) ?_
      refine ww_cVr (M := m_X11_round) (pc := 32) (v := .int (nI 1)) (h1 := hp_sF h m 0 (.int (nI 0))) (st := []) (d := 7) (bc := 0) (bs := 0) (c_M_may_t hst (h := hp_sF h m 0 (.int (nI 0))) (ModS.sF hM (by decide)) (hp_F_eq _ _ _ _) (nI 2) (nI 1)) vv_X11_may dX11_round_32 wg_1413 hM.K0 rfl rfl rfl rfl (Nat.le_of_ble_eq_true rfl) (Nat.le_of_ble_eq_true rfl) (Nat.le_of_ble_eq_true rfl) (Nat.le_of_ble_eq_true rfl) ?_
      refine ww_if_neN (tgt := 40) dX11_round_35 (by decide) (by omega) (fun c35 => ?_) (fun c35 => ?_)
      · refine ww_aload_n dX11_round_40 rfl rfl ?_
        refine ww_iload_n dX11_round_41 rfl rfl ?_
        have hQ0 : LawM (hp_sF h m 0 (.int (nI 0))) m sz kf vf := hQ.same (Same.rf.sF (SY0 m)) (SX_no (by decide)) (SX_no (by decide)) (SY_no (by decide))
        refine ww_cVq0 (M := m_X11_round) (pc := 42) (st := []) (d := 7) (bc := 0) (bs := 0) (c_M_layRound hst (h := hp_sF h m 0 (.int (nI 0))) (ModS.sF hM (by decide)) hf hs hQ0 hok e he (hp_F_eq _ _ _ _)) vv_X11_layRound dX11_round_42 wg_1661 hM.K0 rfl rfl rfl rfl (Nat.le_of_ble_eq_true rfl) (Nat.le_of_ble_eq_true rfl) (Nat.le_of_ble_eq_true rfl) (Nat.le_of_ble_eq_true rfl) (fun hq0 qq0 => ?_)
        obtain ⟨qi, v, hr, hv⟩ := qq0
        have hI0 : MI m sz kf vf (cpF f g 190) h hq0 := ⟨qi.1, qi.2.1, qi.2.2.1, (Same.rf.sF (SY0 m)).tr qi.2.2.2.1, qi.2.2.2.2⟩
        generalize hge : cpF f g 190 = g9 at hI0
        have hg9 : ∀ i, i < 190 → g9 i = f i := fun i hi => by rw [← hge]; exact cpF_in hi
        have hrv := rd_ref (tlN_le f sz kf vf e) he hv hn
        have hDn := rdD_b (tlN_le f sz kf vf e) he hn
        have hvn : v n ≤ 100000000 := by omega
        refine ww_iload_n dX11_round_45 rfl rfl ?_
        refine ww_iconst (v := nI 2) dX11_round_46 (by decide) ?_
        refine ww_icmp_geN (tgt := 78) dX11_round_47 (by decide) (by omega) (by omega) (fun c47 => ?_) (fun c47 => ?_)
        · exact absurd c47 (by decide)
        · refine ww_iload_n dX11_round_50 rfl rfl ?_
          refine ww_if_neN (tgt := 67) dX11_round_51 (by decide) (by omega) (fun c51 => ?_) (fun c51 => ?_)
          · exact absurd c51 (by decide)
          · refine ww_aload_n dX11_round_54 rfl rfl ?_
            refine ww_get 41 dX11_round_55 hI0.1.K0 rfl (by decide) inX11 wg_1281 hI0.1.F21 ?_
            refine ww_iload_n dX11_round_58 rfl rfl ?_
            refine ww_ialdF dX11_round_59 hI0.1.K21 rfl (by omega) (by omega) ?_
            refine ww_sk (st2 := [.int (nI (v n))]) (by rw [hr n (by omega)]) ?_
            refine ww_sipush (v := nI 1000) dX11_round_60 (by decide) ?_
            refine ww_idivN dX11_round_63 (by omega) (by omega) (by omega) ?_
            refine ww_goto (tgt := 77) dX11_round_64 (by decide) ?_
            exact ww_iret dX11_round_77 rfl ⟨by rw [hrv.1], hI0.2.2.2.1, hI0.2.2.2.2⟩
      · exact absurd c35 (by decide)
set_option maxHeartbeats 4000000 in
set_option maxRecDepth 100000 in
theorem c_M_round1 {l : Launch} {Z : EE} (hst : l.stackTraces = false) {h : PH} {m : Nat} (hM : ModS h m) {f : Nat → Int32} (hf : hp_I h (m + 14) = f) {g : Nat → Int32} (hs : hp_I h (m + 15) = g) {sz : Nat} {kf vf : Nat → Int32} (hQ : LawM h m sz kf vf) (hok : LawOK kf vf sz) (n : Nat) (hn : n ≤ 60) (e : Nat) (he : e ≤ 60) : CC l Z m_X11_round 7 0 0 [.ref m, .int (nI n), .int (nI e), .int (nI 1)] h (MOk (nI (rdD (tlN f sz kf vf e) e n % 64)) m h) := by
  refine ee_entry hst (by decide +kernel) rfl rfl (by simp [Value.category]) (Nat.le_of_ble_eq_true rfl) ?_
  refine ww_lv (lv2 := [.ref m, .int (nI n), .int (nI e), .int (nI 1), UU]) rfl ?_
  refine ww_aload_n dX11_round_0 rfl rfl ?_
  refine ww_iconst (v := nI 0) dX11_round_1 (by decide) ?_
  refine ww_pfI tyX11 0 dX11_round_2 hM.K0 rfl (by decide) inX11 tyX11_ok nmX11 wg_1240 rfl rfl ?_
  refine ww_aload_n dX11_round_5 rfl rfl ?_
  refine ww_iload_n dX11_round_6 rfl rfl ?_
  refine ww_iconst (v := nI 1) dX11_round_7 (by decide) ?_
  refine ww_cVr (M := m_X11_round) (pc := 8) (v := .int (nI 1)) (h1 := hp_sF h m 0 (.int (nI 0))) (st := []) (d := 7) (bc := 0) (bs := 0) (c_M_isThere_t hst (h := hp_sF h m 0 (.int (nI 0))) (ModS.sF hM (by decide)) (hp_F_eq _ _ _ _) n hn) vv_X11_isThere dX11_round_8 wg_1620 hM.K0 rfl rfl rfl rfl (Nat.le_of_ble_eq_true rfl) (Nat.le_of_ble_eq_true rfl) (Nat.le_of_ble_eq_true rfl) (Nat.le_of_ble_eq_true rfl) ?_
  refine ww_if_eqN (tgt := 38) dX11_round_11 (by decide) (by omega) (fun c11 => ?_) (fun c11 => ?_)
  · exfalso; omega
  · refine ww_aload_n dX11_round_14 rfl rfl ?_
    refine ww_iload_n dX11_round_15 rfl rfl ?_
    refine ww_iconst (v := nI 1) dX11_round_16 (by decide) ?_
    refine ww_cVr (M := m_X11_round) (pc := 17) (v := .int (nI 1)) (h1 := hp_sF h m 0 (.int (nI 0))) (st := []) (d := 7) (bc := 0) (bs := 0) (c_M_isThere_t hst (h := hp_sF h m 0 (.int (nI 0))) (ModS.sF hM (by decide)) (hp_F_eq _ _ _ _) e he) vv_X11_isThere dX11_round_17 wg_1620 hM.K0 rfl rfl rfl rfl (Nat.le_of_ble_eq_true rfl) (Nat.le_of_ble_eq_true rfl) (Nat.le_of_ble_eq_true rfl) (Nat.le_of_ble_eq_true rfl) ?_
    refine ww_if_eqN (tgt := 38) dX11_round_20 (by decide) (by omega) (fun c20 => ?_) (fun c20 => ?_)
    · exfalso; omega
    · refine ww_aload_n dX11_round_23 rfl rfl ?_
      refine ww_iload_n dX11_round_24 rfl rfl ?_
      refine ww_iconst (v := nI 0) dX11_round_25 (by decide) ?_
      refine ww_iconst (v := nI 2) dX11_round_26 (by decide) ?_
      refine ww_cSr (M := m_X11_round) (pc := 27) (v := .int (nI 1)) (h1 := hp_sF h m 0 (.int (nI 0))) (st := [.ref m]) (d := 7) (bc := 0) (bs := 0) (c_M_within_t hst (nI 1) (nI 0) (nI 2) (by decide) (by decide) _) vv_X11_within dX11_round_27 wg_1601 rfl rfl rfl (Nat.le_of_ble_eq_true rfl) (Nat.le_of_ble_eq_true rfl) (Nat.le_of_ble_eq_true rfl) (Nat.le_of_ble_eq_true rfl) ?_
      refine ww_iconst (v := nI 2) dX11_round_30 (by decide) ?_
      refine ww_iconst (v := nI 1) dX11_round_31 (by decide) ?_
      refine ww_cVr (M := m_X11_round) (pc := 32) (v := .int (nI 1)) (h1 := hp_sF h m 0 (.int (nI 0))) (st := []) (d := 7) (bc := 0) (bs := 0) (c_M_may_t hst (h := hp_sF h m 0 (.int (nI 0))) (ModS.sF hM (by decide)) (hp_F_eq _ _ _ _) (nI 2) (nI 1)) vv_X11_may dX11_round_32 wg_1413 hM.K0 rfl rfl rfl rfl (Nat.le_of_ble_eq_true rfl) (Nat.le_of_ble_eq_true rfl) (Nat.le_of_ble_eq_true rfl) (Nat.le_of_ble_eq_true rfl) ?_
      refine ww_if_neN (tgt := 40) dX11_round_35 (by decide) (by omega) (fun c35 => ?_) (fun c35 => ?_)
      · refine ww_aload_n dX11_round_40 rfl rfl ?_
        refine ww_iload_n dX11_round_41 rfl rfl ?_
        have hQ0 : LawM (hp_sF h m 0 (.int (nI 0))) m sz kf vf := hQ.same (Same.rf.sF (SY0 m)) (SX_no (by decide)) (SX_no (by decide)) (SY_no (by decide))
        refine ww_cVq0 (M := m_X11_round) (pc := 42) (st := []) (d := 7) (bc := 0) (bs := 0) (c_M_layRound hst (h := hp_sF h m 0 (.int (nI 0))) (ModS.sF hM (by decide)) hf hs hQ0 hok e he (hp_F_eq _ _ _ _)) vv_X11_layRound dX11_round_42 wg_1661 hM.K0 rfl rfl rfl rfl (Nat.le_of_ble_eq_true rfl) (Nat.le_of_ble_eq_true rfl) (Nat.le_of_ble_eq_true rfl) (Nat.le_of_ble_eq_true rfl) (fun hq0 qq0 => ?_)
        obtain ⟨qi, v, hr, hv⟩ := qq0
        have hI0 : MI m sz kf vf (cpF f g 190) h hq0 := ⟨qi.1, qi.2.1, qi.2.2.1, (Same.rf.sF (SY0 m)).tr qi.2.2.2.1, qi.2.2.2.2⟩
        generalize hge : cpF f g 190 = g9 at hI0
        have hg9 : ∀ i, i < 190 → g9 i = f i := fun i hi => by rw [← hge]; exact cpF_in hi
        have hrv := rd_ref (tlN_le f sz kf vf e) he hv hn
        have hDn := rdD_b (tlN_le f sz kf vf e) he hn
        have hvn : v n ≤ 100000000 := by omega
        refine ww_iload_n dX11_round_45 rfl rfl ?_
        refine ww_iconst (v := nI 2) dX11_round_46 (by decide) ?_
        refine ww_icmp_geN (tgt := 78) dX11_round_47 (by decide) (by omega) (by omega) (fun c47 => ?_) (fun c47 => ?_)
        · exact absurd c47 (by decide)
        · refine ww_iload_n dX11_round_50 rfl rfl ?_
          refine ww_if_neN (tgt := 67) dX11_round_51 (by decide) (by omega) (fun c51 => ?_) (fun c51 => ?_)
          · refine ww_aload_n dX11_round_67 rfl rfl ?_
            refine ww_get 41 dX11_round_68 hI0.1.K0 rfl (by decide) inX11 wg_1281 hI0.1.F21 ?_
            refine ww_iload_n dX11_round_71 rfl rfl ?_
            refine ww_ialdF dX11_round_72 hI0.1.K21 rfl (by omega) (by omega) ?_
            refine ww_sk (st2 := [.int (nI (v n))]) (by rw [hr n (by omega)]) ?_
            refine ww_sipush (v := nI 1000) dX11_round_73 (by decide) ?_
            refine ww_iremN dX11_round_76 (by omega) (by omega) (by omega) ?_
            exact ww_iret dX11_round_77 rfl ⟨by rw [hrv.2], hI0.2.2.2.1, hI0.2.2.2.2⟩
          · exact absurd c51 (by decide)
      · exact absurd c35 (by decide)
set_option maxHeartbeats 4000000 in
set_option maxRecDepth 100000 in
theorem c_M_round2 {l : Launch} {Z : EE} (hst : l.stackTraces = false) {h : PH} {m : Nat} (hM : ModS h m) {f : Nat → Int32} (hf : hp_I h (m + 14) = f) {g : Nat → Int32} (hs : hp_I h (m + 15) = g) {sz : Nat} {kf vf : Nat → Int32} (hQ : LawM h m sz kf vf) (hok : LawOK kf vf sz) (n : Nat) (hn : n ≤ 60) (e : Nat) (he : e ≤ 60) : CC l Z m_X11_round 7 0 0 [.ref m, .int (nI n), .int (nI e), .int (nI 2)] h (MOk (if n = e then -1 else fsI (rdW (tlN f sz kf vf e) e n) 0 61) m h) := by
  refine ee_entry hst (by decide +kernel) rfl rfl (by simp [Value.category]) (Nat.le_of_ble_eq_true rfl) ?_
  refine ww_lv (lv2 := [.ref m, .int (nI n), .int (nI e), .int (nI 2), UU]) rfl ?_
  refine ww_aload_n dX11_round_0 rfl rfl ?_
  refine ww_iconst (v := nI 0) dX11_round_1 (by decide) ?_
  refine ww_pfI tyX11 0 dX11_round_2 hM.K0 rfl (by decide) inX11 tyX11_ok nmX11 wg_1240 rfl rfl ?_
  refine ww_aload_n dX11_round_5 rfl rfl ?_
  refine ww_iload_n dX11_round_6 rfl rfl ?_
  refine ww_iconst (v := nI 1) dX11_round_7 (by decide) ?_
  refine ww_cVr (M := m_X11_round) (pc := 8) (v := .int (nI 1)) (h1 := hp_sF h m 0 (.int (nI 0))) (st := []) (d := 7) (bc := 0) (bs := 0) (c_M_isThere_t hst (h := hp_sF h m 0 (.int (nI 0))) (ModS.sF hM (by decide)) (hp_F_eq _ _ _ _) n hn) vv_X11_isThere dX11_round_8 wg_1620 hM.K0 rfl rfl rfl rfl (Nat.le_of_ble_eq_true rfl) (Nat.le_of_ble_eq_true rfl) (Nat.le_of_ble_eq_true rfl) (Nat.le_of_ble_eq_true rfl) ?_
  refine ww_if_eqN (tgt := 38) dX11_round_11 (by decide) (by omega) (fun c11 => ?_) (fun c11 => ?_)
  · exfalso; omega
  · refine ww_aload_n dX11_round_14 rfl rfl ?_
    refine ww_iload_n dX11_round_15 rfl rfl ?_
    refine ww_iconst (v := nI 1) dX11_round_16 (by decide) ?_
    refine ww_cVr (M := m_X11_round) (pc := 17) (v := .int (nI 1)) (h1 := hp_sF h m 0 (.int (nI 0))) (st := []) (d := 7) (bc := 0) (bs := 0) (c_M_isThere_t hst (h := hp_sF h m 0 (.int (nI 0))) (ModS.sF hM (by decide)) (hp_F_eq _ _ _ _) e he) vv_X11_isThere dX11_round_17 wg_1620 hM.K0 rfl rfl rfl rfl (Nat.le_of_ble_eq_true rfl) (Nat.le_of_ble_eq_true rfl) (Nat.le_of_ble_eq_true rfl) (Nat.le_of_ble_eq_true rfl) ?_
    refine ww_if_eqN (tgt := 38) dX11_round_20 (by decide) (by omega) (fun c20 => ?_) (fun c20 => ?_)
    · exfalso; omega
    · refine ww_aload_n dX11_round_23 rfl rfl ?_
      refine ww_iload_n dX11_round_24 rfl rfl ?_
      refine ww_iconst (v := nI 0) dX11_round_25 (by decide) ?_
      refine ww_iconst (v := nI 2) dX11_round_26 (by decide) ?_
      refine ww_cSr (M := m_X11_round) (pc := 27) (v := .int (nI 1)) (h1 := hp_sF h m 0 (.int (nI 0))) (st := [.ref m]) (d := 7) (bc := 0) (bs := 0) (c_M_within_t hst (nI 2) (nI 0) (nI 2) (by decide) (by decide) _) vv_X11_within dX11_round_27 wg_1601 rfl rfl rfl (Nat.le_of_ble_eq_true rfl) (Nat.le_of_ble_eq_true rfl) (Nat.le_of_ble_eq_true rfl) (Nat.le_of_ble_eq_true rfl) ?_
      refine ww_iconst (v := nI 2) dX11_round_30 (by decide) ?_
      refine ww_iconst (v := nI 1) dX11_round_31 (by decide) ?_
      refine ww_cVr (M := m_X11_round) (pc := 32) (v := .int (nI 1)) (h1 := hp_sF h m 0 (.int (nI 0))) (st := []) (d := 7) (bc := 0) (bs := 0) (c_M_may_t hst (h := hp_sF h m 0 (.int (nI 0))) (ModS.sF hM (by decide)) (hp_F_eq _ _ _ _) (nI 2) (nI 1)) vv_X11_may dX11_round_32 wg_1413 hM.K0 rfl rfl rfl rfl (Nat.le_of_ble_eq_true rfl) (Nat.le_of_ble_eq_true rfl) (Nat.le_of_ble_eq_true rfl) (Nat.le_of_ble_eq_true rfl) ?_
      refine ww_if_neN (tgt := 40) dX11_round_35 (by decide) (by omega) (fun c35 => ?_) (fun c35 => ?_)
      · refine ww_aload_n dX11_round_40 rfl rfl ?_
        refine ww_iload_n dX11_round_41 rfl rfl ?_
        have hQ0 : LawM (hp_sF h m 0 (.int (nI 0))) m sz kf vf := hQ.same (Same.rf.sF (SY0 m)) (SX_no (by decide)) (SX_no (by decide)) (SY_no (by decide))
        refine ww_cVq0 (M := m_X11_round) (pc := 42) (st := []) (d := 7) (bc := 0) (bs := 0) (c_M_layRound hst (h := hp_sF h m 0 (.int (nI 0))) (ModS.sF hM (by decide)) hf hs hQ0 hok e he (hp_F_eq _ _ _ _)) vv_X11_layRound dX11_round_42 wg_1661 hM.K0 rfl rfl rfl rfl (Nat.le_of_ble_eq_true rfl) (Nat.le_of_ble_eq_true rfl) (Nat.le_of_ble_eq_true rfl) (Nat.le_of_ble_eq_true rfl) (fun hq0 qq0 => ?_)
        obtain ⟨qi, v, hr, hv⟩ := qq0
        have hI0 : MI m sz kf vf (cpF f g 190) h hq0 := ⟨qi.1, qi.2.1, qi.2.2.1, (Same.rf.sF (SY0 m)).tr qi.2.2.2.1, qi.2.2.2.2⟩
        generalize hge : cpF f g 190 = g9 at hI0
        have hg9 : ∀ i, i < 190 → g9 i = f i := fun i hi => by rw [← hge]; exact cpF_in hi
        have hrv := rd_ref (tlN_le f sz kf vf e) he hv hn
        have hDn := rdD_b (tlN_le f sz kf vf e) he hn
        have hvn : v n ≤ 100000000 := by omega
        refine ww_iload_n dX11_round_45 rfl rfl ?_
        refine ww_iconst (v := nI 2) dX11_round_46 (by decide) ?_
        refine ww_icmp_geN (tgt := 78) dX11_round_47 (by decide) (by omega) (by omega) (fun c47 => ?_) (fun c47 => ?_)
        · refine ww_iload_n dX11_round_78 rfl rfl ?_
          refine ww_iload_n dX11_round_79 rfl rfl ?_
          refine ww_icmp_neN (tgt := 85) dX11_round_80 (by decide) (by omega) (by omega) (fun c80 => ?_) (fun c80 => ?_)
          · refine ww_iload_n dX11_round_85 rfl rfl ?_
            refine ww_iconst (v := nI 3) dX11_round_86 (by decide) ?_
            refine ww_isub dX11_round_87 ?_
            refine ww_sti (lv2 := [.ref m, .int (nI n), .int (nI e), .int (nI 2), .int ((nI n) - (nI 3))]) dX11_round_88 rfl (by decide) rfl ?_
            have hvl : ∀ k, k ≤ 60 → v k ≤ 100000000 := fun k hk => by have q1 := rd_ref (tlN_le f sz kf vf e) he hv hk; have q2 := rdD_b (tlN_le f sz kf vf e) he hk; omega
            have hk9 : fsI (rdW (tlN f sz kf vf e) e n) 0 61 = fsI (rdW (tlN f sz kf vf e) e n) (n - 3) (61 - (n - 3)) := by
              have h9 := fsI_skip (q := rdW (tlN f sz kf vf e) e n) (r := 61 - (n - 3)) (n - 3) 0 (fun i _ h2 => rdW_f (by omega))
              rw [show n - 3 + (61 - (n - 3)) = 61 by omega, Nat.zero_add] at h9; exact h9
            rw [if_neg c80, hk9]
            exact l_M_rff hst hok hg9 he hv hvl n hn 7 n hq0 rfl (Nat.le_refl _) hI0 hr
          · refine ww_iconst (v := -1) dX11_round_83 (by decide) ?_
            exact ww_iret dX11_round_84 rfl ⟨by rw [if_pos c80], hI0.2.2.2.1, hI0.2.2.2.2⟩
        · exact absurd c47 (by decide)
      · exact absurd c35 (by decide)
set_option maxHeartbeats 4000000 in
set_option maxRecDepth 100000 in
theorem c_M_round_no0 {l : Launch} {Z : EE} (hst : l.stackTraces = false) {h : PH} {m : Nat} (hM : ModS h m) (n e w : Int32) (hout : outR 0 60 n) : CC l Z m_X11_round 6 0 0 [.ref m, .int n, .int e, .int w] h (MNo 1 0 m h) := by
  refine ee_entry hst (by decide +kernel) rfl rfl (by simp [Value.category]) (Nat.le_of_ble_eq_true rfl) ?_
  refine ww_lv (lv2 := [.ref m, .int n, .int e, .int w, UU]) rfl ?_
  refine ww_aload_n dX11_round_0 rfl rfl ?_
  refine ww_iconst (v := nI 0) dX11_round_1 (by decide) ?_
  refine ww_pfI tyX11 0 dX11_round_2 hM.K0 rfl (by decide) inX11 tyX11_ok nmX11 wg_1240 rfl rfl ?_
  refine ww_aload_n dX11_round_5 rfl rfl ?_
  refine ww_iload_n dX11_round_6 rfl rfl ?_
  refine ww_iconst (v := nI 1) dX11_round_7 (by decide) ?_
  refine ww_cVr (M := m_X11_round) (pc := 8) (v := .int (nI 0)) (h1 := hp_sI (hp_sF (hp_sF h m 0 (.int (nI 0))) m 0 (.int (nI 1))) (m + 1) (upd (hp_I (hp_sF h m 0 (.int (nI 0))) (m + 1)) 0 (hp_I (hp_sF h m 0 (.int (nI 0))) (m + 1) 0 + nI 1))) (st := []) (d := 6) (bc := 0) (bs := 0) (c_M_isThere_f hst (h := hp_sF h m 0 (.int (nI 0))) (ModS.sF hM (by decide)) (hp_F_eq _ _ _ _) n hout) vv_X11_isThere dX11_round_8 wg_1620 hM.K0 rfl rfl rfl rfl (Nat.le_of_ble_eq_true rfl) (Nat.le_of_ble_eq_true rfl) (Nat.le_of_ble_eq_true rfl) (Nat.le_of_ble_eq_true rfl) ?_
  refine ww_if_eqN (tgt := 38) dX11_round_11 (by decide) (by omega) (fun c11 => ?_) (fun c11 => ?_)
  · refine ww_iconst (v := nI 0) dX11_round_38 (by decide) ?_
    exact ww_iret dX11_round_39 rfl ⟨rfl, (((Same.rf.sF (SY0 m)).sF (SY0 m)).sI (Or.inr rfl)), (hp_F_sI (hp_F_eq _ _ _ _)), by rw [hp_I_eq]; rfl⟩
  · exfalso; omega
set_option maxHeartbeats 4000000 in
set_option maxRecDepth 100000 in
theorem c_M_round_no1 {l : Launch} {Z : EE} (hst : l.stackTraces = false) {h : PH} {m : Nat} (hM : ModS h m) (n : Nat) (hn : n ≤ 60) (e w : Int32) (hout : outR 0 60 e) : CC l Z m_X11_round 6 0 0 [.ref m, .int (nI n), .int e, .int w] h (MNo 1 0 m h) := by
  refine ee_entry hst (by decide +kernel) rfl rfl (by simp [Value.category]) (Nat.le_of_ble_eq_true rfl) ?_
  refine ww_lv (lv2 := [.ref m, .int (nI n), .int e, .int w, UU]) rfl ?_
  refine ww_aload_n dX11_round_0 rfl rfl ?_
  refine ww_iconst (v := nI 0) dX11_round_1 (by decide) ?_
  refine ww_pfI tyX11 0 dX11_round_2 hM.K0 rfl (by decide) inX11 tyX11_ok nmX11 wg_1240 rfl rfl ?_
  refine ww_aload_n dX11_round_5 rfl rfl ?_
  refine ww_iload_n dX11_round_6 rfl rfl ?_
  refine ww_iconst (v := nI 1) dX11_round_7 (by decide) ?_
  refine ww_cVr (M := m_X11_round) (pc := 8) (v := .int (nI 1)) (h1 := hp_sF h m 0 (.int (nI 0))) (st := []) (d := 6) (bc := 0) (bs := 0) (c_M_isThere_t hst (h := hp_sF h m 0 (.int (nI 0))) (ModS.sF hM (by decide)) (hp_F_eq _ _ _ _) n hn) vv_X11_isThere dX11_round_8 wg_1620 hM.K0 rfl rfl rfl rfl (Nat.le_of_ble_eq_true rfl) (Nat.le_of_ble_eq_true rfl) (Nat.le_of_ble_eq_true rfl) (Nat.le_of_ble_eq_true rfl) ?_
  refine ww_if_eqN (tgt := 38) dX11_round_11 (by decide) (by omega) (fun c11 => ?_) (fun c11 => ?_)
  · exfalso; omega
  · refine ww_aload_n dX11_round_14 rfl rfl ?_
    refine ww_iload_n dX11_round_15 rfl rfl ?_
    refine ww_iconst (v := nI 1) dX11_round_16 (by decide) ?_
    refine ww_cVr (M := m_X11_round) (pc := 17) (v := .int (nI 0)) (h1 := hp_sI (hp_sF (hp_sF h m 0 (.int (nI 0))) m 0 (.int (nI 1))) (m + 1) (upd (hp_I (hp_sF h m 0 (.int (nI 0))) (m + 1)) 0 (hp_I (hp_sF h m 0 (.int (nI 0))) (m + 1) 0 + nI 1))) (st := []) (d := 6) (bc := 0) (bs := 0) (c_M_isThere_f hst (h := hp_sF h m 0 (.int (nI 0))) (ModS.sF hM (by decide)) (hp_F_eq _ _ _ _) e hout) vv_X11_isThere dX11_round_17 wg_1620 hM.K0 rfl rfl rfl rfl (Nat.le_of_ble_eq_true rfl) (Nat.le_of_ble_eq_true rfl) (Nat.le_of_ble_eq_true rfl) (Nat.le_of_ble_eq_true rfl) ?_
    refine ww_if_eqN (tgt := 38) dX11_round_20 (by decide) (by omega) (fun c20 => ?_) (fun c20 => ?_)
    · refine ww_iconst (v := nI 0) dX11_round_38 (by decide) ?_
      exact ww_iret dX11_round_39 rfl ⟨rfl, (((Same.rf.sF (SY0 m)).sF (SY0 m)).sI (Or.inr rfl)), (hp_F_sI (hp_F_eq _ _ _ _)), by rw [hp_I_eq]; rfl⟩
    · exfalso; omega
set_option maxHeartbeats 4000000 in
set_option maxRecDepth 100000 in
theorem c_M_round_no2 {l : Launch} {Z : EE} (hst : l.stackTraces = false) {h : PH} {m : Nat} (hM : ModS h m) (n : Nat) (hn : n ≤ 60) (e : Nat) (he : e ≤ 60) (w : Int32) (hout : outR 0 2 w) : CC l Z m_X11_round 6 0 0 [.ref m, .int (nI n), .int (nI e), .int w] h (MNo 2 1 m h) := by
  refine ee_entry hst (by decide +kernel) rfl rfl (by simp [Value.category]) (Nat.le_of_ble_eq_true rfl) ?_
  refine ww_lv (lv2 := [.ref m, .int (nI n), .int (nI e), .int w, UU]) rfl ?_
  refine ww_aload_n dX11_round_0 rfl rfl ?_
  refine ww_iconst (v := nI 0) dX11_round_1 (by decide) ?_
  refine ww_pfI tyX11 0 dX11_round_2 hM.K0 rfl (by decide) inX11 tyX11_ok nmX11 wg_1240 rfl rfl ?_
  refine ww_aload_n dX11_round_5 rfl rfl ?_
  refine ww_iload_n dX11_round_6 rfl rfl ?_
  refine ww_iconst (v := nI 1) dX11_round_7 (by decide) ?_
  refine ww_cVr (M := m_X11_round) (pc := 8) (v := .int (nI 1)) (h1 := hp_sF h m 0 (.int (nI 0))) (st := []) (d := 6) (bc := 0) (bs := 0) (c_M_isThere_t hst (h := hp_sF h m 0 (.int (nI 0))) (ModS.sF hM (by decide)) (hp_F_eq _ _ _ _) n hn) vv_X11_isThere dX11_round_8 wg_1620 hM.K0 rfl rfl rfl rfl (Nat.le_of_ble_eq_true rfl) (Nat.le_of_ble_eq_true rfl) (Nat.le_of_ble_eq_true rfl) (Nat.le_of_ble_eq_true rfl) ?_
  refine ww_if_eqN (tgt := 38) dX11_round_11 (by decide) (by omega) (fun c11 => ?_) (fun c11 => ?_)
  · exfalso; omega
  · refine ww_aload_n dX11_round_14 rfl rfl ?_
    refine ww_iload_n dX11_round_15 rfl rfl ?_
    refine ww_iconst (v := nI 1) dX11_round_16 (by decide) ?_
    refine ww_cVr (M := m_X11_round) (pc := 17) (v := .int (nI 1)) (h1 := hp_sF h m 0 (.int (nI 0))) (st := []) (d := 6) (bc := 0) (bs := 0) (c_M_isThere_t hst (h := hp_sF h m 0 (.int (nI 0))) (ModS.sF hM (by decide)) (hp_F_eq _ _ _ _) e he) vv_X11_isThere dX11_round_17 wg_1620 hM.K0 rfl rfl rfl rfl (Nat.le_of_ble_eq_true rfl) (Nat.le_of_ble_eq_true rfl) (Nat.le_of_ble_eq_true rfl) (Nat.le_of_ble_eq_true rfl) ?_
    refine ww_if_eqN (tgt := 38) dX11_round_20 (by decide) (by omega) (fun c20 => ?_) (fun c20 => ?_)
    · exfalso; omega
    · refine ww_aload_n dX11_round_23 rfl rfl ?_
      refine ww_iload_n dX11_round_24 rfl rfl ?_
      refine ww_iconst (v := nI 0) dX11_round_25 (by decide) ?_
      refine ww_iconst (v := nI 2) dX11_round_26 (by decide) ?_
      refine ww_cSr (M := m_X11_round) (pc := 27) (v := .int (nI 0)) (h1 := hp_sF h m 0 (.int (nI 0))) (st := [.ref m]) (d := 6) (bc := 0) (bs := 0) (c_M_within_f hst w (nI 0) (nI 2) hout _) vv_X11_within dX11_round_27 wg_1601 rfl rfl rfl (Nat.le_of_ble_eq_true rfl) (Nat.le_of_ble_eq_true rfl) (Nat.le_of_ble_eq_true rfl) (Nat.le_of_ble_eq_true rfl) ?_
      refine ww_iconst (v := nI 2) dX11_round_30 (by decide) ?_
      refine ww_iconst (v := nI 1) dX11_round_31 (by decide) ?_
      refine ww_cVr (M := m_X11_round) (pc := 32) (v := .int (nI 0)) (h1 := hp_sI (hp_sF (hp_sF h m 0 (.int (nI 0))) m 0 (.int (nI 2))) (m + 1) (upd (hp_I (hp_sF h m 0 (.int (nI 0))) (m + 1)) 1 (hp_I (hp_sF h m 0 (.int (nI 0))) (m + 1) 1 + nI 1))) (st := []) (d := 6) (bc := 0) (bs := 0) (c_M_may_f hst (h := hp_sF h m 0 (.int (nI 0))) (ModS.sF hM (by decide)) (hp_F_eq _ _ _ _) 2 1 (by decide) (by decide) (by decide)) vv_X11_may dX11_round_32 wg_1413 hM.K0 rfl rfl rfl rfl (Nat.le_of_ble_eq_true rfl) (Nat.le_of_ble_eq_true rfl) (Nat.le_of_ble_eq_true rfl) (Nat.le_of_ble_eq_true rfl) ?_
      refine ww_if_neN (tgt := 40) dX11_round_35 (by decide) (by omega) (fun c35 => ?_) (fun c35 => ?_)
      · exact absurd c35 (by decide)
      · refine ww_iconst (v := nI 0) dX11_round_38 (by decide) ?_
        exact ww_iret dX11_round_39 rfl ⟨rfl, (((Same.rf.sF (SY0 m)).sF (SY0 m)).sI (Or.inr rfl)), (hp_F_sI (hp_F_eq _ _ _ _)), by rw [hp_I_eq]; rfl⟩
