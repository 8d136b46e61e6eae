/-! ===== which to buy in the reference ===== -/
theorem BookM.mi {h h2 : PH} {m : Nat} {s : BKt} (hB : BookM h m s) (hS : Same (SX m) (SY m) h h2) : BookM h2 m s := by
  have e := hS.2.2.2.1 (m + 18) (SX_no (by decide))
  exact ⟨(hS.2.2.1 _ _ (SY_no (by decide))).trans hB.1, hB.2.1, fun i hi => by rw [e]; exact hB.2.2 i hi⟩
theorem MI.fs {m sz : Nat} {kf vf g : Nat → Int32} {h h2 : PH} {x y : Value} (hi : MI m sz kf vf g h h2) : MI m sz kf vf g h (hp_sF (hp_sF h2 m 42 x) m 43 y) :=
  (hi.sF (SY42 m) (by decide) (by decide) (by decide)).sF (SY43 m) (by decide) (by decide) (by decide)
theorem frB_eq {f g : Nat → Int32} (hg : ∀ i, i < 190 → g i = f i) {s : BKt} (hG : BkG s) (set : Nat) : ∀ k, k ≤ s.1 → frB g s set k = frB f s set k
  | 0, _ => rfl
  | k + 1, h => by
    show (frB g s set k && _) = (frB f s set k && _)
    rw [frB_eq hg hG set k (by omega), hg (bkN s k) (by have := (bk_n hG (show k < s.1 by omega)).2; omega)]
set_option maxHeartbeats 4000000 in
set_option maxRecDepth 100000 in
theorem l_M_bin {l : Launch} {Z : EE} (hst : l.stackTraces = false) {h : PH} {m : Nat} {sz : Nat} {kf vf : Nat → Int32} (hok : LawOK kf vf sz) {f g9 : Nat → Int32} (hg9 : ∀ i, i < 190 → g9 i = f i) {np : Nat} (hu : RowOK f np) {s : BKt} (hB : BookM h m s) (hg : BkG s) (c : Nat) (hc : c ≤ 9999) (set : Nat) (hset : set ≤ 256) {vs vt : Value} {Post : Res → PH → Prop} : ∀ (j k : Nat) (hq : PH), k + j = s.1 → MI m sz kf vf g9 h hq → hp_F hq m 42 = vs → hp_F hq m 43 = vt → (∀ h9, MI m sz kf vf g9 h h9 → hp_F h9 m 42 = vs → hp_F h9 m 43 = vt → WW l Z m_X11_findBuy 6 0 0 142 [.ref m, .int (nI c), .int (nI set), .int (nI (prB f s set s.1)), .int (nI (svB (frN f sz kf vf) s set s.1)), .int (bI (frB f s set s.1)), .int (nI s.1), UU] [] h9 Post) → WW l Z m_X11_findBuy 6 0 0 37 [.ref m, .int (nI c), .int (nI set), .int (nI (prB f s set k)), .int (nI (svB (frN f sz kf vf) s set k)), .int (bI (frB f s set k)), .int (nI k), UU] [] hq Post := by
  have hs8 := hg.1
  intro j
  induction j with
  | zero =>
    intro k hq hk hi hvs hvt hex
    have hb9 : k = s.1 := by omega
    subst hb9
    have hBq := hB.mi hi.2.2.2.1
    refine ww_iload dX11_findBuy_37 rfl ?_
    refine ww_aload_n dX11_findBuy_39 rfl rfl ?_
    refine ww_get 38 dX11_findBuy_40 hi.1.K0 rfl (by decide) inX11 wg_1278 hBq.1 ?_
    refine ww_icmp_geN (tgt := 142) dX11_findBuy_43 (by decide) (by omega) (by omega) (fun c43 => ?_) (fun c43 => ?_)
    · exact hex hq hi hvs hvt
    · exfalso; omega
  | succ j ih =>
    intro k hq hk hi hvs hvt hex
    have hBq := hB.mi hi.2.2.2.1
    have hn9 := bk_n hg (show k < s.1 by omega)
    have hm9 := bk_m hg (show k < s.1 by omega)
    have hr9 := rt_n hu hn9.2
    have hb9 := bkB_le set k
    have hp9 := prB_le hu hg set (show k ≤ s.1 by omega)
    have hv9 := svB_le (frN_le f sz kf vf) hg set (show k ≤ s.1 by omega)
    have hf9 := mu_le hm9.2 (frN_le f sz kf vf _ hn9.2)
    refine ww_iload dX11_findBuy_37 rfl ?_
    refine ww_aload_n dX11_findBuy_39 rfl rfl ?_
    refine ww_get 38 dX11_findBuy_40 hi.1.K0 rfl (by decide) inX11 wg_1278 hBq.1 ?_
    refine ww_icmp_geN (tgt := 142) dX11_findBuy_43 (by decide) (by omega) (by omega) (fun c43 => ?_) (fun c43 => ?_)
    · exfalso; omega
    · refine ww_iload_n dX11_findBuy_46 rfl rfl ?_
      refine ww_iload dX11_findBuy_47 rfl ?_
      refine ww_ishr dX11_findBuy_49 ?_
      refine ww_iconst (v := nI 1) dX11_findBuy_50 (by decide) ?_
      refine ww_iand dX11_findBuy_51 ?_
      refine ww_sk (st2 := [.int (nI (bkB set k))]) (by rw [sh_bit (by omega) (by omega)]) ?_
      refine ww_if_neN (tgt := 58) dX11_findBuy_52 (by decide) (by omega) (fun c52 => ?_) (fun c52 => ?_)
      · refine ww_aload_n dX11_findBuy_58 rfl rfl ?_
        refine ww_get 37 dX11_findBuy_59 hi.1.K0 rfl (by decide) inX11 wg_1277 hi.1.F18 ?_
        refine ww_iconst (v := nI 2) dX11_findBuy_62 (by decide) ?_
        refine ww_iload dX11_findBuy_63 rfl ?_
        refine ww_imulN dX11_findBuy_65 ?_
        refine ww_ialdF dX11_findBuy_66 hi.1.K18 rfl (by omega) (by omega) ?_
        refine ww_sk (st2 := [.int (nI (bkN s k))]) (by rw [(hBq.2.2 k (by omega)).1, hn9.1]) ?_
        refine ww_sti (lv2 := [.ref m, .int (nI c), .int (nI set), .int (nI (prB f s set k)), .int (nI (svB (frN f sz kf vf) s set k)), .int (bI (frB f s set k)), .int (nI k), .int (nI (bkN s k))]) dX11_findBuy_67 rfl (by decide) rfl ?_
        refine ww_iload dX11_findBuy_69 rfl ?_
        refine ww_if_eqB (tgt := 91) dX11_findBuy_71 (by decide) (fun c71 => ?_) (fun c71 => ?_)
        · refine ww_iconst (v := nI 0) dX11_findBuy_91 (by decide) ?_
          refine ww_sti (lv2 := [.ref m, .int (nI c), .int (nI set), .int (nI (prB f s set k)), .int (nI (svB (frN f sz kf vf) s set k)), .int (nI 0), .int (nI k), .int (nI (bkN s k))]) dX11_findBuy_92 rfl (by decide) rfl ?_
          refine ww_iload_n dX11_findBuy_94 rfl rfl ?_
          refine ww_bipush (v := nI 10) dX11_findBuy_95 (by decide) ?_
          refine ww_aload_n dX11_findBuy_97 rfl rfl ?_
          refine ww_get 34 dX11_findBuy_98 hi.1.K0 rfl (by decide) inX11 wg_1274 hi.1.F15 ?_
          refine ww_bipush (v := nI 61) dX11_findBuy_101 (by decide) ?_
          refine ww_iload dX11_findBuy_103 rfl ?_
          refine ww_iaddN dX11_findBuy_105 ?_
          refine ww_ialdF dX11_findBuy_106 hi.1.K15 hi.2.2.1 (by omega) (by omega) ?_
          refine ww_sk (st2 := [.int (nI (rtN f (bkN s k))), .int (nI 10), .int (nI (prB f s set k))]) (by rw [hg9 (61 + bkN s k) (by omega), hr9.1]) ?_
          refine ww_imulN dX11_findBuy_107 ?_
          refine ww_iconst (v := nI 1) dX11_findBuy_108 (by decide) ?_
          refine ww_iaddN dX11_findBuy_109 ?_
          refine ww_iaddN dX11_findBuy_110 ?_
          refine ww_sti_n (lv2 := [.ref m, .int (nI c), .int (nI set), .int (nI ((prB f s set k) + ((10 * (rtN f (bkN s k))) + 1))), .int (nI (svB (frN f sz kf vf) s set k)), .int (nI 0), .int (nI k), .int (nI (bkN s k))]) dX11_findBuy_111 rfl rfl (by decide) rfl ?_
          refine ww_iload dX11_findBuy_112 rfl ?_
          refine ww_aload_n dX11_findBuy_114 rfl rfl ?_
          refine ww_iload dX11_findBuy_115 rfl ?_
          refine ww_iconst (v := nI 1) dX11_findBuy_117 (by decide) ?_
          refine ww_cVq (M := m_X11_findBuy) (pc := 118) (v := .int (fareC g9 sz kf vf (bkN s k) 1)) (st := [.int (nI (svB (frN f sz kf vf) s set k))]) (d := 6) (bc := 0) (bs := 0) (c_M_fareBy hst hi.1 hi.2.1 hok hi.2.2.1 (bkN s k) (by omega) 1 (by omega)) vv_X11_fareBy dX11_findBuy_118 wg_1555 hi.1.K0 rfl rfl rfl rfl (Nat.le_of_ble_eq_true rfl) (Nat.le_of_ble_eq_true rfl) (Nat.le_of_ble_eq_true rfl) (Nat.le_of_ble_eq_true rfl) (fun hq1 qq1 => ?_)
          have hi1 := hi.step qq1
          have hB1 := hB.mi hi1.2.2.2.1
          refine ww_sk (st2 := [.int (nI (frN f sz kf vf (bkN s k))), .int (nI (svB (frN f sz kf vf) s set k))]) (by rw [fareC_tn hg9 (by omega)]; rfl) ?_
          refine ww_aload_n dX11_findBuy_121 rfl rfl ?_
          refine ww_get 37 dX11_findBuy_122 hi1.1.K0 rfl (by decide) inX11 wg_1277 hi1.1.F18 ?_
          refine ww_iconst (v := nI 2) dX11_findBuy_125 (by decide) ?_
          refine ww_iload dX11_findBuy_126 rfl ?_
          refine ww_imulN dX11_findBuy_128 ?_
          refine ww_iconst (v := nI 1) dX11_findBuy_129 (by decide) ?_
          refine ww_iaddN dX11_findBuy_130 ?_
          refine ww_ialdF dX11_findBuy_131 hi1.1.K18 rfl (by omega) (by omega) ?_
          refine ww_sk (st2 := [.int (nI (bkM s k)), .int (nI (frN f sz kf vf (bkN s k))), .int (nI (svB (frN f sz kf vf) s set k))]) (by rw [(hB1.2.2 k (by omega)).2, hm9.1]) ?_
          refine ww_imulN dX11_findBuy_132 ?_
          refine ww_iaddN dX11_findBuy_133 ?_
          refine ww_sti (lv2 := [.ref m, .int (nI c), .int (nI set), .int (nI ((prB f s set k) + ((10 * (rtN f (bkN s k))) + 1))), .int (nI ((svB (frN f sz kf vf) s set k) + ((frN f sz kf vf (bkN s k)) * (bkM s k)))), .int (nI 0), .int (nI k), .int (nI (bkN s k))]) dX11_findBuy_134 rfl (by decide) rfl ?_
          refine ww_incN (c := 1) (lv2 := [.ref m, .int (nI c), .int (nI set), .int (nI ((prB f s set k) + ((10 * (rtN f (bkN s k))) + 1))), .int (nI ((svB (frN f sz kf vf) s set k) + ((frN f sz kf vf (bkN s k)) * (bkM s k)))), .int (nI 0), .int (nI (k + 1)), .int (nI (bkN s k))]) dX11_findBuy_136 rfl rfl rfl (by decide) rfl ?_
          refine ww_goto (tgt := 37) dX11_findBuy_139 (by decide) ?_
          refine ww_fg (lv2 := [.ref m, .int (nI c), .int (nI set), .int (nI ((prB f s set k) + ((10 * (rtN f (bkN s k))) + 1))), .int (nI ((svB (frN f sz kf vf) s set k) + ((frN f sz kf vf (bkN s k)) * (bkM s k)))), .int (nI 0), .int (nI (k + 1)), UU]) ⟨Or.inr rfl, Or.inr rfl, Or.inr rfl, Or.inr rfl, Or.inr rfl, Or.inr rfl, Or.inr rfl, Or.inl rfl, trivial⟩ ?_
          have hfr : frB f s set (k + 1) = false := by first | (rw [frB_s1 c84]; exact c71) | exact frB_f c71 _ (by omega) | exact frB_s2 (by omega) c84
          refine ww_lv (lv2 := [.ref m, .int (nI c), .int (nI set), .int (nI (prB f s set (k + 1))), .int (nI (svB (frN f sz kf vf) s set (k + 1))), .int (bI (frB f s set (k + 1))), .int (nI (k + 1)), UU]) (by rw [prB_s, svB_s, hfr, if_pos (by omega), if_pos (by omega), Nat.mul_comm (bkM s k)]; rfl) ?_
          exact ih (k + 1) hq1 (by omega) hi1 ((qq1.2.2.1 _ _ (fun e => e)).trans hvs) ((qq1.2.2.1 _ _ (fun e => e)).trans hvt) hex
        · refine ww_aload_n dX11_findBuy_74 rfl rfl ?_
          refine ww_get 34 dX11_findBuy_75 hi.1.K0 rfl (by decide) inX11 wg_1274 hi.1.F15 ?_
          refine ww_iconst (v := nI 0) dX11_findBuy_78 (by decide) ?_
          refine ww_iload dX11_findBuy_79 rfl ?_
          refine ww_iadd0 dX11_findBuy_81 ?_
          refine ww_ialdF dX11_findBuy_82 hi.1.K15 hi.2.2.1 (by omega) (by omega) ?_
          refine ww_sk (st2 := [.int (f (bkN s k))]) (by rw [hg9 (bkN s k) (by omega)]) ?_
          refine ww_iconst (v := -1) dX11_findBuy_83 (by decide) ?_
          refine ww_icmp_eq (tgt := 91) dX11_findBuy_84 (by decide) (fun c84 => ?_) (fun c84 => ?_)
          · refine ww_iconst (v := nI 0) dX11_findBuy_91 (by decide) ?_
            refine ww_sti (lv2 := [.ref m, .int (nI c), .int (nI set), .int (nI (prB f s set k)), .int (nI (svB (frN f sz kf vf) s set k)), .int (nI 0), .int (nI k), .int (nI (bkN s k))]) dX11_findBuy_92 rfl (by decide) rfl ?_
            refine ww_iload_n dX11_findBuy_94 rfl rfl ?_
            refine ww_bipush (v := nI 10) dX11_findBuy_95 (by decide) ?_
            refine ww_aload_n dX11_findBuy_97 rfl rfl ?_
            refine ww_get 34 dX11_findBuy_98 hi.1.K0 rfl (by decide) inX11 wg_1274 hi.1.F15 ?_
            refine ww_bipush (v := nI 61) dX11_findBuy_101 (by decide) ?_
            refine ww_iload dX11_findBuy_103 rfl ?_
            refine ww_iaddN dX11_findBuy_105 ?_
            refine ww_ialdF dX11_findBuy_106 hi.1.K15 hi.2.2.1 (by omega) (by omega) ?_
            refine ww_sk (st2 := [.int (nI (rtN f (bkN s k))), .int (nI 10), .int (nI (prB f s set k))]) (by rw [hg9 (61 + bkN s k) (by omega), hr9.1]) ?_
            refine ww_imulN dX11_findBuy_107 ?_
            refine ww_iconst (v := nI 1) dX11_findBuy_108 (by decide) ?_
            refine ww_iaddN dX11_findBuy_109 ?_
            refine ww_iaddN dX11_findBuy_110 ?_
            refine ww_sti_n (lv2 := [.ref m, .int (nI c), .int (nI set), .int (nI ((prB f s set k) + ((10 * (rtN f (bkN s k))) + 1))), .int (nI (svB (frN f sz kf vf) s set k)), .int (nI 0), .int (nI k), .int (nI (bkN s k))]) dX11_findBuy_111 rfl rfl (by decide) rfl ?_
            refine ww_iload dX11_findBuy_112 rfl ?_
            refine ww_aload_n dX11_findBuy_114 rfl rfl ?_
            refine ww_iload dX11_findBuy_115 rfl ?_
            refine ww_iconst (v := nI 1) dX11_findBuy_117 (by decide) ?_
            refine ww_cVq (M := m_X11_findBuy) (pc := 118) (v := .int (fareC g9 sz kf vf (bkN s k) 1)) (st := [.int (nI (svB (frN f sz kf vf) s set k))]) (d := 6) (bc := 0) (bs := 0) (c_M_fareBy hst hi.1 hi.2.1 hok hi.2.2.1 (bkN s k) (by omega) 1 (by omega)) vv_X11_fareBy dX11_findBuy_118 wg_1555 hi.1.K0 rfl rfl rfl rfl (Nat.le_of_ble_eq_true rfl) (Nat.le_of_ble_eq_true rfl) (Nat.le_of_ble_eq_true rfl) (Nat.le_of_ble_eq_true rfl) (fun hq1 qq1 => ?_)
            have hi1 := hi.step qq1
            have hB1 := hB.mi hi1.2.2.2.1
            refine ww_sk (st2 := [.int (nI (frN f sz kf vf (bkN s k))), .int (nI (svB (frN f sz kf vf) s set k))]) (by rw [fareC_tn hg9 (by omega)]; rfl) ?_
            refine ww_aload_n dX11_findBuy_121 rfl rfl ?_
            refine ww_get 37 dX11_findBuy_122 hi1.1.K0 rfl (by decide) inX11 wg_1277 hi1.1.F18 ?_
            refine ww_iconst (v := nI 2) dX11_findBuy_125 (by decide) ?_
            refine ww_iload dX11_findBuy_126 rfl ?_
            refine ww_imulN dX11_findBuy_128 ?_
            refine ww_iconst (v := nI 1) dX11_findBuy_129 (by decide) ?_
            refine ww_iaddN dX11_findBuy_130 ?_
            refine ww_ialdF dX11_findBuy_131 hi1.1.K18 rfl (by omega) (by omega) ?_
            refine ww_sk (st2 := [.int (nI (bkM s k)), .int (nI (frN f sz kf vf (bkN s k))), .int (nI (svB (frN f sz kf vf) s set k))]) (by rw [(hB1.2.2 k (by omega)).2, hm9.1]) ?_
            refine ww_imulN dX11_findBuy_132 ?_
            refine ww_iaddN dX11_findBuy_133 ?_
            refine ww_sti (lv2 := [.ref m, .int (nI c), .int (nI set), .int (nI ((prB f s set k) + ((10 * (rtN f (bkN s k))) + 1))), .int (nI ((svB (frN f sz kf vf) s set k) + ((frN f sz kf vf (bkN s k)) * (bkM s k)))), .int (nI 0), .int (nI k), .int (nI (bkN s k))]) dX11_findBuy_134 rfl (by decide) rfl ?_
            refine ww_incN (c := 1) (lv2 := [.ref m, .int (nI c), .int (nI set), .int (nI ((prB f s set k) + ((10 * (rtN f (bkN s k))) + 1))), .int (nI ((svB (frN f sz kf vf) s set k) + ((frN f sz kf vf (bkN s k)) * (bkM s k)))), .int (nI 0), .int (nI (k + 1)), .int (nI (bkN s k))]) dX11_findBuy_136 rfl rfl rfl (by decide) rfl ?_
            refine ww_goto (tgt := 37) dX11_findBuy_139 (by decide) ?_
            refine ww_fg (lv2 := [.ref m, .int (nI c), .int (nI set), .int (nI ((prB f s set k) + ((10 * (rtN f (bkN s k))) + 1))), .int (nI ((svB (frN f sz kf vf) s set k) + ((frN f sz kf vf (bkN s k)) * (bkM s k)))), .int (nI 0), .int (nI (k + 1)), UU]) ⟨Or.inr rfl, Or.inr rfl, Or.inr rfl, Or.inr rfl, Or.inr rfl, Or.inr rfl, Or.inr rfl, Or.inl rfl, trivial⟩ ?_
            have hfr : frB f s set (k + 1) = false := by first | (rw [frB_s1 c84]; exact c71) | exact frB_f c71 _ (by omega) | exact frB_s2 (by omega) c84
            refine ww_lv (lv2 := [.ref m, .int (nI c), .int (nI set), .int (nI (prB f s set (k + 1))), .int (nI (svB (frN f sz kf vf) s set (k + 1))), .int (bI (frB f s set (k + 1))), .int (nI (k + 1)), UU]) (by rw [prB_s, svB_s, hfr, if_pos (by omega), if_pos (by omega), Nat.mul_comm (bkM s k)]; rfl) ?_
            exact ih (k + 1) hq1 (by omega) hi1 ((qq1.2.2.1 _ _ (fun e => e)).trans hvs) ((qq1.2.2.1 _ _ (fun e => e)).trans hvt) hex
          · refine ww_iconst (v := nI 1) dX11_findBuy_87 (by decide) ?_
            refine ww_goto (tgt := 92) dX11_findBuy_88 (by decide) ?_
            refine ww_sti (lv2 := [.ref m, .int (nI c), .int (nI set), .int (nI (prB f s set k)), .int (nI (svB (frN f sz kf vf) s set k)), .int (nI 1), .int (nI k), .int (nI (bkN s k))]) dX11_findBuy_92 rfl (by decide) rfl ?_
            refine ww_iload_n dX11_findBuy_94 rfl rfl ?_
            refine ww_bipush (v := nI 10) dX11_findBuy_95 (by decide) ?_
            refine ww_aload_n dX11_findBuy_97 rfl rfl ?_
            refine ww_get 34 dX11_findBuy_98 hi.1.K0 rfl (by decide) inX11 wg_1274 hi.1.F15 ?_
            refine ww_bipush (v := nI 61) dX11_findBuy_101 (by decide) ?_
            refine ww_iload dX11_findBuy_103 rfl ?_
            refine ww_iaddN dX11_findBuy_105 ?_
            refine ww_ialdF dX11_findBuy_106 hi.1.K15 hi.2.2.1 (by omega) (by omega) ?_
            refine ww_sk (st2 := [.int (nI (rtN f (bkN s k))), .int (nI 10), .int (nI (prB f s set k))]) (by rw [hg9 (61 + bkN s k) (by omega), hr9.1]) ?_
            refine ww_imulN dX11_findBuy_107 ?_
            refine ww_iconst (v := nI 1) dX11_findBuy_108 (by decide) ?_
            refine ww_iaddN dX11_findBuy_109 ?_
            refine ww_iaddN dX11_findBuy_110 ?_
            refine ww_sti_n (lv2 := [.ref m, .int (nI c), .int (nI set), .int (nI ((prB f s set k) + ((10 * (rtN f (bkN s k))) + 1))), .int (nI (svB (frN f sz kf vf) s set k)), .int (nI 1), .int (nI k), .int (nI (bkN s k))]) dX11_findBuy_111 rfl rfl (by decide) rfl ?_
            refine ww_iload dX11_findBuy_112 rfl ?_
            refine ww_aload_n dX11_findBuy_114 rfl rfl ?_
            refine ww_iload dX11_findBuy_115 rfl ?_
            refine ww_iconst (v := nI 1) dX11_findBuy_117 (by decide) ?_
            refine ww_cVq (M := m_X11_findBuy) (pc := 118) (v := .int (fareC g9 sz kf vf (bkN s k) 1)) (st := [.int (nI (svB (frN f sz kf vf) s set k))]) (d := 6) (bc := 0) (bs := 0) (c_M_fareBy hst hi.1 hi.2.1 hok hi.2.2.1 (bkN s k) (by omega) 1 (by omega)) vv_X11_fareBy dX11_findBuy_118 wg_1555 hi.1.K0 rfl rfl rfl rfl (Nat.le_of_ble_eq_true rfl) (Nat.le_of_ble_eq_true rfl) (Nat.le_of_ble_eq_true rfl) (Nat.le_of_ble_eq_true rfl) (fun hq1 qq1 => ?_)
            have hi1 := hi.step qq1
            have hB1 := hB.mi hi1.2.2.2.1
            refine ww_sk (st2 := [.int (nI (frN f sz kf vf (bkN s k))), .int (nI (svB (frN f sz kf vf) s set k))]) (by rw [fareC_tn hg9 (by omega)]; rfl) ?_
            refine ww_aload_n dX11_findBuy_121 rfl rfl ?_
            refine ww_get 37 dX11_findBuy_122 hi1.1.K0 rfl (by decide) inX11 wg_1277 hi1.1.F18 ?_
            refine ww_iconst (v := nI 2) dX11_findBuy_125 (by decide) ?_
            refine ww_iload dX11_findBuy_126 rfl ?_
            refine ww_imulN dX11_findBuy_128 ?_
            refine ww_iconst (v := nI 1) dX11_findBuy_129 (by decide) ?_
            refine ww_iaddN dX11_findBuy_130 ?_
            refine ww_ialdF dX11_findBuy_131 hi1.1.K18 rfl (by omega) (by omega) ?_
            refine ww_sk (st2 := [.int (nI (bkM s k)), .int (nI (frN f sz kf vf (bkN s k))), .int (nI (svB (frN f sz kf vf) s set k))]) (by rw [(hB1.2.2 k (by omega)).2, hm9.1]) ?_
            refine ww_imulN dX11_findBuy_132 ?_
            refine ww_iaddN dX11_findBuy_133 ?_
            refine ww_sti (lv2 := [.ref m, .int (nI c), .int (nI set), .int (nI ((prB f s set k) + ((10 * (rtN f (bkN s k))) + 1))), .int (nI ((svB (frN f sz kf vf) s set k) + ((frN f sz kf vf (bkN s k)) * (bkM s k)))), .int (nI 1), .int (nI k), .int (nI (bkN s k))]) dX11_findBuy_134 rfl (by decide) rfl ?_
            refine ww_incN (c := 1) (lv2 := [.ref m, .int (nI c), .int (nI set), .int (nI ((prB f s set k) + ((10 * (rtN f (bkN s k))) + 1))), .int (nI ((svB (frN f sz kf vf) s set k) + ((frN f sz kf vf (bkN s k)) * (bkM s k)))), .int (nI 1), .int (nI (k + 1)), .int (nI (bkN s k))]) dX11_findBuy_136 rfl rfl rfl (by decide) rfl ?_
            refine ww_goto (tgt := 37) dX11_findBuy_139 (by decide) ?_
            refine ww_fg (lv2 := [.ref m, .int (nI c), .int (nI set), .int (nI ((prB f s set k) + ((10 * (rtN f (bkN s k))) + 1))), .int (nI ((svB (frN f sz kf vf) s set k) + ((frN f sz kf vf (bkN s k)) * (bkM s k)))), .int (nI 1), .int (nI (k + 1)), UU]) ⟨Or.inr rfl, Or.inr rfl, Or.inr rfl, Or.inr rfl, Or.inr rfl, Or.inr rfl, Or.inr rfl, Or.inl rfl, trivial⟩ ?_
            have hfr : frB f s set (k + 1) = true := by first | (rw [frB_s1 c84]; exact c71) | exact frB_f c71 _ (by omega) | exact frB_s2 (by omega) c84
            refine ww_lv (lv2 := [.ref m, .int (nI c), .int (nI set), .int (nI (prB f s set (k + 1))), .int (nI (svB (frN f sz kf vf) s set (k + 1))), .int (bI (frB f s set (k + 1))), .int (nI (k + 1)), UU]) (by rw [prB_s, svB_s, hfr, if_pos (by omega), if_pos (by omega), Nat.mul_comm (bkM s k)]; rfl) ?_
            exact ih (k + 1) hq1 (by omega) hi1 ((qq1.2.2.1 _ _ (fun e => e)).trans hvs) ((qq1.2.2.1 _ _ (fun e => e)).trans hvt) hex
      · refine ww_goto (tgt := 136) dX11_findBuy_55 (by decide) ?_
        refine ww_incN (c := 1) (lv2 := [.ref m, .int (nI c), .int (nI set), .int (nI (prB f s set k)), .int (nI (svB (frN f sz kf vf) s set k)), .int (bI (frB f s set k)), .int (nI (k + 1)), UU]) dX11_findBuy_136 rfl rfl rfl (by decide) rfl ?_
        refine ww_goto (tgt := 37) dX11_findBuy_139 (by decide) ?_
        refine ww_lv (lv2 := [.ref m, .int (nI c), .int (nI set), .int (nI (prB f s set (k + 1))), .int (nI (svB (frN f sz kf vf) s set (k + 1))), .int (bI (frB f s set (k + 1))), .int (nI (k + 1)), UU]) (by rw [prB_s, svB_s, frB_s0 (by omega), if_neg (by omega), if_neg (by omega)]; rfl) ?_
        exact ih (k + 1) hq (by omega) hi hvs hvt hex
set_option maxHeartbeats 4000000 in
set_option maxRecDepth 100000 in
theorem l_M_ball {l : Launch} {Z : EE} (hst : l.stackTraces = false) {h : PH} {m : Nat} {sz : Nat} {kf vf : Nat → Int32} (hok : LawOK kf vf sz) {f g9 : Nat → Int32} (hg9 : ∀ i, i < 190 → g9 i = f i) {np : Nat} (hu : RowOK f np) {s : BKt} (hB : BookM h m s) (hg : BkG s) (c : Nat) (hc : c ≤ 9999) : ∀ (j k : Nat) (hq : PH), k + j = 2 ^ s.1 → 1 ≤ k → MI m sz kf vf g9 h hq → hp_F hq m 42 = .int (nI (buS f (frN f sz kf vf) s c k).2) → hp_F hq m 43 = .int (nI (buS f (frN f sz kf vf) s c k).1) → WW l Z m_X11_findBuy 6 0 0 16 [.ref m, .int (nI c), .int (nI k), UU, UU, UU, UU, UU] [] hq (RQ none (fun h9 => MI m sz kf vf g9 h h9 ∧ hp_F h9 m 42 = .int (nI (buS f (frN f sz kf vf) s c (2 ^ s.1)).2) ∧ hp_F h9 m 43 = .int (nI (buS f (frN f sz kf vf) s c (2 ^ s.1)).1))) := by
  have hs8 := hg.1
  have hp2 := p2_le hs8
  intro j
  induction j with
  | zero =>
    intro k hq hk h1 hi hvs hvt
    have hb9 : k = 2 ^ s.1 := by omega
    subst hb9
    have hBq := hB.mi hi.2.2.2.1
    refine ww_iload_n dX11_findBuy_16 rfl rfl ?_
    refine ww_iconst (v := nI 1) dX11_findBuy_17 (by decide) ?_
    refine ww_aload_n dX11_findBuy_18 rfl rfl ?_
    refine ww_get 38 dX11_findBuy_19 hi.1.K0 rfl (by decide) inX11 wg_1278 hBq.1 ?_
    refine ww_ishl dX11_findBuy_22 ?_
    refine ww_sk (st2 := [.int (nI (2 ^ s.1)), .int (nI (2 ^ s.1))]) (by rw [sh_one (by omega)]) ?_
    refine ww_icmp_geN (tgt := 181) dX11_findBuy_23 (by decide) (by omega) (by omega) (fun c23 => ?_) (fun c23 => ?_)
    · exact ww_vret dX11_findBuy_181 rfl ⟨rfl, hi, hvs, hvt⟩
    · exfalso; omega
  | succ j ih =>
    intro k hq hk h1 hi hvs hvt
    have hBq := hB.mi hi.2.2.2.1
    have hl9 := buS_le (f := f) (frN_le f sz kf vf) hg c k
    refine ww_iload_n dX11_findBuy_16 rfl rfl ?_
    refine ww_iconst (v := nI 1) dX11_findBuy_17 (by decide) ?_
    refine ww_aload_n dX11_findBuy_18 rfl rfl ?_
    refine ww_get 38 dX11_findBuy_19 hi.1.K0 rfl (by decide) inX11 wg_1278 hBq.1 ?_
    refine ww_ishl dX11_findBuy_22 ?_
    refine ww_sk (st2 := [.int (nI (2 ^ s.1)), .int (nI k)]) (by rw [sh_one (by omega)]) ?_
    refine ww_icmp_geN (tgt := 181) dX11_findBuy_23 (by decide) (by omega) (by omega) (fun c23 => ?_) (fun c23 => ?_)
    · exfalso; omega
    · refine ww_iconst (v := nI 0) dX11_findBuy_26 (by decide) ?_
      refine ww_sti_n (lv2 := [.ref m, .int (nI c), .int (nI k), .int (nI 0), UU, UU, UU, UU]) dX11_findBuy_27 rfl rfl (by decide) rfl ?_
      refine ww_iconst (v := nI 0) dX11_findBuy_28 (by decide) ?_
      refine ww_sti (lv2 := [.ref m, .int (nI c), .int (nI k), .int (nI 0), .int (nI 0), UU, UU, UU]) dX11_findBuy_29 rfl (by decide) rfl ?_
      refine ww_iconst (v := nI 1) dX11_findBuy_31 (by decide) ?_
      refine ww_sti (lv2 := [.ref m, .int (nI c), .int (nI k), .int (nI 0), .int (nI 0), .int (nI 1), UU, UU]) dX11_findBuy_32 rfl (by decide) rfl ?_
      refine ww_iconst (v := nI 0) dX11_findBuy_34 (by decide) ?_
      refine ww_sti (lv2 := [.ref m, .int (nI c), .int (nI k), .int (nI 0), .int (nI 0), .int (nI 1), .int (nI 0), UU]) dX11_findBuy_35 rfl (by decide) rfl ?_
      refine ww_lv (lv2 := [.ref m, .int (nI c), .int (nI k), .int (nI (prB f s k 0)), .int (nI (svB (frN f sz kf vf) s k 0)), .int (bI (frB f s k 0)), .int (nI 0), UU]) rfl ?_
      refine l_M_bin hst hok hg9 hu hB hg c hc k (by omega) s.1 0 _ (by omega) hi hvs hvt (fun h8 i8 s8 t8 => ?_)
      have hB8 := hB.mi i8.2.2.2.1
      have hp8 := prB_le hu hg k (Nat.le_refl s.1)
      have hv8 := svB_le (frN_le f sz kf vf) hg k (Nat.le_refl s.1)
      refine ww_iload dX11_findBuy_142 rfl ?_
      refine ww_if_eqB (tgt := 175) dX11_findBuy_144 (by decide) (fun c144 => ?_) (fun c144 => ?_)
      · refine ww_incN (c := 1) (lv2 := [.ref m, .int (nI c), .int (nI (k + 1)), .int (nI (prB f s k s.1)), .int (nI (svB (frN f sz kf vf) s k s.1)), .int (bI (frB f s k s.1)), .int (nI s.1), UU]) dX11_findBuy_175 rfl rfl rfl (by decide) rfl ?_
        refine ww_goto (tgt := 16) dX11_findBuy_178 (by decide) ?_
        refine ww_fg (lv2 := [.ref m, .int (nI c), .int (nI (k + 1)), UU, UU, UU, UU, UU]) ⟨Or.inr rfl, Or.inr rfl, Or.inr rfl, Or.inl rfl, Or.inl rfl, Or.inl rfl, Or.inl rfl, Or.inl rfl, trivial⟩ ?_
        have e9 : (buS f (frN f sz kf vf) s c (k + 1)) = (buS f (frN f sz kf vf) s c k) := buS_f (by
          first | exact Or.inr (by omega) | exact Or.inl (by unfold buO; rw [c144]; rfl) | exact Or.inl (by unfold buO; rw [decide_eq_false (show ¬ prB f s k s.1 ≤ c by omega), Bool.and_false]))
        exact ih (k + 1) h8 (by omega) (by omega) i8 (by rw [e9]; exact s8) (by rw [e9]; exact t8)
      · refine ww_iload_n dX11_findBuy_147 rfl rfl ?_
        refine ww_iload_n dX11_findBuy_148 rfl rfl ?_
        refine ww_icmp_gtN (tgt := 175) dX11_findBuy_149 (by decide) (by omega) (by omega) (fun c149 => ?_) (fun c149 => ?_)
        · refine ww_incN (c := 1) (lv2 := [.ref m, .int (nI c), .int (nI (k + 1)), .int (nI (prB f s k s.1)), .int (nI (svB (frN f sz kf vf) s k s.1)), .int (bI (frB f s k s.1)), .int (nI s.1), UU]) dX11_findBuy_175 rfl rfl rfl (by decide) rfl ?_
          refine ww_goto (tgt := 16) dX11_findBuy_178 (by decide) ?_
          refine ww_fg (lv2 := [.ref m, .int (nI c), .int (nI (k + 1)), UU, UU, UU, UU, UU]) ⟨Or.inr rfl, Or.inr rfl, Or.inr rfl, Or.inl rfl, Or.inl rfl, Or.inl rfl, Or.inl rfl, Or.inl rfl, trivial⟩ ?_
          have e9 : (buS f (frN f sz kf vf) s c (k + 1)) = (buS f (frN f sz kf vf) s c k) := buS_f (by
            first | exact Or.inr (by omega) | exact Or.inl (by unfold buO; rw [c144]; rfl) | exact Or.inl (by unfold buO; rw [decide_eq_false (show ¬ prB f s k s.1 ≤ c by omega), Bool.and_false]))
          exact ih (k + 1) h8 (by omega) (by omega) i8 (by rw [e9]; exact s8) (by rw [e9]; exact t8)
        · refine ww_iload dX11_findBuy_152 rfl ?_
          refine ww_aload_n dX11_findBuy_154 rfl rfl ?_
          refine ww_get 42 dX11_findBuy_155 i8.1.K0 rfl (by decide) inX11 wg_1282 s8 ?_
          refine ww_icmp_gtN (tgt := 164) dX11_findBuy_158 (by decide) (by omega) (by omega) (fun c158 => ?_) (fun c158 => ?_)
          · refine ww_aload_n dX11_findBuy_164 rfl rfl ?_
            refine ww_iload dX11_findBuy_165 rfl ?_
            refine ww_pfI tyX11 42 dX11_findBuy_167 i8.1.K0 rfl (by decide) inX11 tyX11_ok nmX11 wg_1282 rfl rfl ?_
            refine ww_aload_n dX11_findBuy_170 rfl rfl ?_
            refine ww_iload_n dX11_findBuy_171 rfl rfl ?_
            refine ww_pfI tyX11 43 dX11_findBuy_172 i8.1.K0 rfl (by decide) inX11 tyX11_ok nmX11 wg_1283 rfl rfl ?_
            refine ww_incN (c := 1) (lv2 := [.ref m, .int (nI c), .int (nI (k + 1)), .int (nI (prB f s k s.1)), .int (nI (svB (frN f sz kf vf) s k s.1)), .int (bI (frB f s k s.1)), .int (nI s.1), UU]) dX11_findBuy_175 rfl rfl rfl (by decide) rfl ?_
            refine ww_goto (tgt := 16) dX11_findBuy_178 (by decide) ?_
            refine ww_fg (lv2 := [.ref m, .int (nI c), .int (nI (k + 1)), UU, UU, UU, UU, UU]) ⟨Or.inr rfl, Or.inr rfl, Or.inr rfl, Or.inl rfl, Or.inl rfl, Or.inl rfl, Or.inl rfl, Or.inl rfl, trivial⟩ ?_
            have hbo : buO f s c k = true := by unfold buO; rw [c144, decide_eq_true (show prB f s k s.1 ≤ c by omega)]; rfl
            have e9 := buS_t (f := f) (fr := (frN f sz kf vf)) (s := s) (c := c) hbo (by omega)
            refine ih (k + 1) _ (by omega) (by omega) i8.fs ?_ ?_
            · rw [e9]; exact hp_F_nj (by decide) (hp_F_eq _ _ _ _)
            · rw [e9]; exact hp_F_eq _ _ _ _
          · refine ww_goto (tgt := 175) dX11_findBuy_161 (by decide) ?_
            refine ww_incN (c := 1) (lv2 := [.ref m, .int (nI c), .int (nI (k + 1)), .int (nI (prB f s k s.1)), .int (nI (svB (frN f sz kf vf) s k s.1)), .int (bI (frB f s k s.1)), .int (nI s.1), UU]) dX11_findBuy_175 rfl rfl rfl (by decide) rfl ?_
            refine ww_goto (tgt := 16) dX11_findBuy_178 (by decide) ?_
            refine ww_fg (lv2 := [.ref m, .int (nI c), .int (nI (k + 1)), UU, UU, UU, UU, UU]) ⟨Or.inr rfl, Or.inr rfl, Or.inr rfl, Or.inl rfl, Or.inl rfl, Or.inl rfl, Or.inl rfl, Or.inl rfl, trivial⟩ ?_
            have e9 : (buS f (frN f sz kf vf) s c (k + 1)) = (buS f (frN f sz kf vf) s c k) := buS_f (by
              first | exact Or.inr (by omega) | exact Or.inl (by unfold buO; rw [c144]; rfl) | exact Or.inl (by unfold buO; rw [decide_eq_false (show ¬ prB f s k s.1 ≤ c by omega), Bool.and_false]))
            exact ih (k + 1) h8 (by omega) (by omega) i8 (by rw [e9]; exact s8) (by rw [e9]; exact t8)
set_option maxHeartbeats 4000000 in
set_option maxRecDepth 100000 in
theorem l_M_bfirst {l : Launch} {Z : EE} (hst : l.stackTraces = false) {h : PH} {m : Nat} {sz : Nat} {kf vf : Nat → Int32} (hok : LawOK kf vf sz) {f g9 : Nat → Int32} (hg9 : ∀ i, i < 190 → g9 i = f i) {np : Nat} (hu : RowOK f np) {s : BKt} (hB : BookM h m s) (hg : BkG s) (c : Nat) (hc : c ≤ 9999) {hq : PH} (hi : MI m sz kf vf g9 h hq) (hvs : hp_F hq m 42 = .int (-1)) (hvt : hp_F hq m 43 = .int (nI 0)) : WW l Z m_X11_findBuy 6 0 0 16 [.ref m, .int (nI c), .int (nI 0), UU, UU, UU, UU, UU] [] hq (RQ none (fun h9 => MI m sz kf vf g9 h h9 ∧ hp_F h9 m 42 = .int (nI (buS f (frN f sz kf vf) s c (2 ^ s.1)).2) ∧ hp_F h9 m 43 = .int (nI (buS f (frN f sz kf vf) s c (2 ^ s.1)).1))) := by
  have hs8 := hg.1
  have hp2 := p2_le hs8
  have hp1 := p2_pos s.1
  have hBq := hB.mi hi.2.2.2.1
  refine ww_iload_n dX11_findBuy_16 rfl rfl ?_
  refine ww_iconst (v := nI 1) dX11_findBuy_17 (by decide) ?_
  refine ww_aload_n dX11_findBuy_18 rfl rfl ?_
  refine ww_get 38 dX11_findBuy_19 hi.1.K0 rfl (by decide) inX11 wg_1278 hBq.1 ?_
  refine ww_ishl dX11_findBuy_22 ?_
  refine ww_sk (st2 := [.int (nI (2 ^ s.1)), .int (nI 0)]) (by rw [sh_one (by omega)]) ?_
  refine ww_icmp_geN (tgt := 181) dX11_findBuy_23 (by decide) (by omega) (by omega) (fun c23 => ?_) (fun c23 => ?_)
  · exfalso; omega
  · refine ww_iconst (v := nI 0) dX11_findBuy_26 (by decide) ?_
    refine ww_sti_n (lv2 := [.ref m, .int (nI c), .int (nI 0), .int (nI 0), UU, UU, UU, UU]) dX11_findBuy_27 rfl rfl (by decide) rfl ?_
    refine ww_iconst (v := nI 0) dX11_findBuy_28 (by decide) ?_
    refine ww_sti (lv2 := [.ref m, .int (nI c), .int (nI 0), .int (nI 0), .int (nI 0), UU, UU, UU]) dX11_findBuy_29 rfl (by decide) rfl ?_
    refine ww_iconst (v := nI 1) dX11_findBuy_31 (by decide) ?_
    refine ww_sti (lv2 := [.ref m, .int (nI c), .int (nI 0), .int (nI 0), .int (nI 0), .int (nI 1), UU, UU]) dX11_findBuy_32 rfl (by decide) rfl ?_
    refine ww_iconst (v := nI 0) dX11_findBuy_34 (by decide) ?_
    refine ww_sti (lv2 := [.ref m, .int (nI c), .int (nI 0), .int (nI 0), .int (nI 0), .int (nI 1), .int (nI 0), UU]) dX11_findBuy_35 rfl (by decide) rfl ?_
    refine ww_lv (lv2 := [.ref m, .int (nI c), .int (nI 0), .int (nI (prB f s 0 0)), .int (nI (svB (frN f sz kf vf) s 0 0)), .int (bI (frB f s 0 0)), .int (nI 0), UU]) rfl ?_
    refine l_M_bin hst hok hg9 hu hB hg c hc 0 (by omega) s.1 0 _ (by omega) hi hvs hvt (fun h8 i8 s8 t8 => ?_)
    have hB8 := hB.mi i8.2.2.2.1
    have hp8 := prB_le hu hg 0 (Nat.le_refl s.1)
    have hv8 := svB_le (frN_le f sz kf vf) hg 0 (Nat.le_refl s.1)
    refine ww_lv (lv2 := [.ref m, .int (nI c), .int (nI 0), .int (nI 0), .int (nI 0), .int (nI 1), .int (nI s.1), UU]) (by rw [pr_0, sv_0, fr_0]; rfl) ?_
    refine ww_iload dX11_findBuy_142 rfl ?_
    refine ww_if_eqN (tgt := 175) dX11_findBuy_144 (by decide) (by omega) (fun c144 => ?_) (fun c144 => ?_)
    · exact absurd c144 (by decide)
    · refine ww_iload_n dX11_findBuy_147 rfl rfl ?_
      refine ww_iload_n dX11_findBuy_148 rfl rfl ?_
      refine ww_icmp_gtN (tgt := 175) dX11_findBuy_149 (by decide) (by omega) (by omega) (fun c149 => ?_) (fun c149 => ?_)
      · exfalso; omega
      · refine ww_iload dX11_findBuy_152 rfl ?_
        refine ww_aload_n dX11_findBuy_154 rfl rfl ?_
        refine ww_get 42 dX11_findBuy_155 i8.1.K0 rfl (by decide) inX11 wg_1282 s8 ?_
        refine ww_icmp_gt (tgt := 164) dX11_findBuy_158 (by decide) (fun c158 => ?_) (fun c158 => ?_)
        · refine ww_aload_n dX11_findBuy_164 rfl rfl ?_
          refine ww_iload dX11_findBuy_165 rfl ?_
          refine ww_pfI tyX11 42 dX11_findBuy_167 i8.1.K0 rfl (by decide) inX11 tyX11_ok nmX11 wg_1282 rfl rfl ?_
          refine ww_aload_n dX11_findBuy_170 rfl rfl ?_
          refine ww_iload_n dX11_findBuy_171 rfl rfl ?_
          refine ww_pfI tyX11 43 dX11_findBuy_172 i8.1.K0 rfl (by decide) inX11 tyX11_ok nmX11 wg_1283 rfl rfl ?_
          refine ww_incN (c := 1) (lv2 := [.ref m, .int (nI c), .int (nI 1), .int (nI 0), .int (nI 0), .int (nI 1), .int (nI s.1), UU]) dX11_findBuy_175 rfl rfl rfl (by decide) rfl ?_
          refine ww_goto (tgt := 16) dX11_findBuy_178 (by decide) ?_
          refine ww_fg (lv2 := [.ref m, .int (nI c), .int (nI 1), UU, UU, UU, UU, UU]) ⟨Or.inr rfl, Or.inr rfl, Or.inr rfl, Or.inl rfl, Or.inl rfl, Or.inl rfl, Or.inl rfl, Or.inl rfl, trivial⟩ ?_
          exact l_M_ball hst hok hg9 hu hB hg c hc (2 ^ s.1 - 1) 1 _ (by omega) (Nat.le_refl _) i8.fs (by rw [buS_1]; exact hp_F_nj (by decide) (hp_F_eq _ _ _ _)) (by rw [buS_1]; exact hp_F_eq _ _ _ _)
        · exact absurd (show (-1 : Int32) < nI 0 by decide) c158
set_option maxHeartbeats 4000000 in
set_option maxRecDepth 100000 in
theorem c_M_findBuy {l : Launch} {Z : EE} (hst : l.stackTraces = false) {h : PH} {m : Nat} (hM : ModS h m) {f : Nat → Int32} (hf : hp_I h (m + 14) = f) {g : Nat → Int32} (hs : hp_I h (m + 15) = g) {sz : Nat} {kf vf : Nat → Int32} (hQ : LawM h m sz kf vf) (hok : LawOK kf vf sz) {np : Nat} (hu : RowOK f np) {s : BKt} (hB : BookM h m s) (hg : BkG s) (c : Nat) (hc : c ≤ 9999) (ht : hp_F h m 0 = .int (nI 0)) : CC l Z m_X11_findBuy 6 0 0 [.ref m, .int (nI c)] h (RQ none (fun h9 => MI m sz kf vf (cpF f g 190) h h9 ∧ hp_F h9 m 42 = .int (nI (buS f (frN f sz kf vf) s c (2 ^ s.1)).2) ∧ hp_F h9 m 43 = .int (nI (buS f (frN f sz kf vf) s c (2 ^ s.1)).1))) := by
  refine ee_entry hst (by decide +kernel) rfl rfl (by simp [Value.category]) (Nat.le_of_ble_eq_true rfl) ?_
  refine ww_lv (lv2 := [.ref m, .int (nI c), UU, UU, UU, UU, UU, UU]) rfl ?_
  refine ww_aload_n dX11_findBuy_0 rfl rfl ?_
  refine ww_cV0 (M := m_X11_findBuy) (pc := 1) (h1 := hp_sI (h) (m + 15) (cpF f g 190)) (st := []) (d := 6) (bc := 0) (bs := 0) (c_M_take hst (h := h) hM hf hs) vv_X11_take dX11_findBuy_1 wg_1539 hM.K0 rfl rfl rfl rfl (Nat.le_of_ble_eq_true rfl) (Nat.le_of_ble_eq_true rfl) (Nat.le_of_ble_eq_true rfl) (Nat.le_of_ble_eq_true rfl) ?_
  refine ww_aload_n dX11_findBuy_4 rfl rfl ?_
  refine ww_iconst (v := -1) dX11_findBuy_5 (by decide) ?_
  refine ww_pfI tyX11 42 dX11_findBuy_6 hM.K0 rfl (by decide) inX11 tyX11_ok nmX11 wg_1282 rfl rfl ?_
  refine ww_aload_n dX11_findBuy_9 rfl rfl ?_
  refine ww_iconst (v := nI 0) dX11_findBuy_10 (by decide) ?_
  refine ww_pfI tyX11 43 dX11_findBuy_11 hM.K0 rfl (by decide) inX11 tyX11_ok nmX11 wg_1283 rfl rfl ?_
  refine ww_iconst (v := nI 0) dX11_findBuy_14 (by decide) ?_
  refine ww_sti_n (lv2 := [.ref m, .int (nI c), .int (nI 0), UU, UU, UU, UU, UU]) dX11_findBuy_15 rfl rfl (by decide) rfl ?_
  have hi0 : MI m sz kf vf (cpF f g 190) h (hp_sF (hp_sF (hp_sI (h) (m + 15) (cpF f g 190)) m 42 (.int (-1))) m 43 (.int (nI 0))) := (MI.start2 hM hQ ht).fs
  have f1 : hp_F (hp_sF (hp_sF (hp_sI (h) (m + 15) (cpF f g 190)) m 42 (.int (-1))) m 43 (.int (nI 0))) m 42 = .int (-1) := hp_F_nj (by decide) (hp_F_eq _ _ _ _)
  have f2 : hp_F (hp_sF (hp_sF (hp_sI (h) (m + 15) (cpF f g 190)) m 42 (.int (-1))) m 43 (.int (nI 0))) m 43 = .int (nI 0) := hp_F_eq _ _ _ _
  exact l_M_bfirst hst hok (fun i hi => cpF_in hi) hu hB hg c hc hi0 f1 f2
set_option maxHeartbeats 4000000 in
set_option maxRecDepth 100000 in
theorem c_M_buy0 {l : Launch} {Z : EE} (hst : l.stackTraces = false) {h : PH} {m : Nat} (hM : ModS h m) {f : Nat → Int32} (hf : hp_I h (m + 14) = f) {g : Nat → Int32} (hs : hp_I h (m + 15) = g) {sz : Nat} {kf vf : Nat → Int32} (hQ : LawM h m sz kf vf) (hok : LawOK kf vf sz) {np : Nat} (hu : RowOK f np) {s : BKt} (hB : BookM h m s) (hg : BkG s) (c : Nat) (hc : c ≤ 9999) : CC l Z m_X11_buy 7 0 0 [.ref m, .int (nI c), .int (nI 0)] h (MOk (nI (buS f (frN f sz kf vf) s c (2 ^ s.1)).2) m h) := by
  refine ee_entry hst (by decide +kernel) rfl rfl (by simp [Value.category]) (Nat.le_of_ble_eq_true rfl) ?_
  refine ww_lv (lv2 := [.ref m, .int (nI c), .int (nI 0)]) rfl ?_
  refine ww_aload_n dX11_buy_0 rfl rfl ?_
  refine ww_iconst (v := nI 0) dX11_buy_1 (by decide) ?_
  refine ww_pfI tyX11 0 dX11_buy_2 hM.K0 rfl (by decide) inX11 tyX11_ok nmX11 wg_1240 rfl rfl ?_
  refine ww_aload_n dX11_buy_5 rfl rfl ?_
  refine ww_iload_n dX11_buy_6 rfl rfl ?_
  refine ww_iconst (v := nI 0) dX11_buy_7 (by decide) ?_
  refine ww_sipush (v := nI 9999) dX11_buy_8 (by decide) ?_
  refine ww_cSr (M := m_X11_buy) (pc := 11) (v := .int (nI 1)) (h1 := hp_sF h m 0 (.int (nI 0))) (st := [.ref m]) (d := 7) (bc := 0) (bs := 0) (c_M_within_t hst (nI c) (nI 0) (nI 9999) (nI_le (by omega) (by omega)) (nI_le (by omega) (by omega)) _) vv_X11_within dX11_buy_11 wg_1601 rfl rfl rfl (Nat.le_of_ble_eq_true rfl) (Nat.le_of_ble_eq_true rfl) (Nat.le_of_ble_eq_true rfl) (Nat.le_of_ble_eq_true rfl) ?_
  refine ww_if_eqN (tgt := 30) dX11_buy_14 (by decide) (by omega) (fun c14 => ?_) (fun c14 => ?_)
  · exact absurd c14 (by decide)
  · refine ww_iload_n dX11_buy_17 rfl rfl ?_
    refine ww_iconst (v := nI 0) dX11_buy_18 (by decide) ?_
    refine ww_iconst (v := nI 1) dX11_buy_19 (by decide) ?_
    refine ww_cSr (M := m_X11_buy) (pc := 20) (v := .int (nI 1)) (h1 := hp_sF h m 0 (.int (nI 0))) (st := [.ref m]) (d := 7) (bc := 0) (bs := 0) (c_M_within_t hst (nI 0) (nI 0) (nI 1) (by decide) (by decide) _) vv_X11_within dX11_buy_20 wg_1601 rfl rfl rfl (Nat.le_of_ble_eq_true rfl) (Nat.le_of_ble_eq_true rfl) (Nat.le_of_ble_eq_true rfl) (Nat.le_of_ble_eq_true rfl) ?_
    refine ww_if_eqN (tgt := 30) dX11_buy_23 (by decide) (by omega) (fun c23 => ?_) (fun c23 => ?_)
    · exact absurd c23 (by decide)
    · refine ww_iconst (v := nI 1) dX11_buy_26 (by decide) ?_
      refine ww_goto (tgt := 31) dX11_buy_27 (by decide) ?_
      refine ww_iconst (v := nI 1) dX11_buy_31 (by decide) ?_
      refine ww_iconst (v := nI 1) dX11_buy_32 (by decide) ?_
      refine ww_cVr (M := m_X11_buy) (pc := 33) (v := .int (nI 1)) (h1 := hp_sF h m 0 (.int (nI 0))) (st := []) (d := 7) (bc := 0) (bs := 0) (c_M_may_t hst (h := hp_sF h m 0 (.int (nI 0))) (ModS.sF hM (by decide)) (hp_F_eq _ _ _ _) (nI 1) (nI 1)) vv_X11_may dX11_buy_33 wg_1413 hM.K0 rfl rfl rfl rfl (Nat.le_of_ble_eq_true rfl) (Nat.le_of_ble_eq_true rfl) (Nat.le_of_ble_eq_true rfl) (Nat.le_of_ble_eq_true rfl) ?_
      refine ww_if_neN (tgt := 41) dX11_buy_36 (by decide) (by omega) (fun c36 => ?_) (fun c36 => ?_)
      · refine ww_aload_n dX11_buy_41 rfl rfl ?_
        refine ww_iload_n dX11_buy_42 rfl rfl ?_
        have hQ0 : LawM (hp_sF h m 0 (.int (nI 0))) m sz kf vf := hQ.same (Same.rf.sF (SY0 m)) (SX_no (by decide)) (SX_no (by decide)) (SY_no (by decide))
        refine ww_cVq0 (M := m_X11_buy) (pc := 43) (st := []) (d := 7) (bc := 0) (bs := 0) (c_M_findBuy hst (h := hp_sF h m 0 (.int (nI 0))) (ModS.sF hM (by decide)) hf hs hQ0 hok hu (hB.mi (Same.rf.sF (SY0 m))) hg c hc (hp_F_eq _ _ _ _)) vv_X11_findBuy dX11_buy_43 wg_1674 hM.K0 rfl rfl rfl rfl (Nat.le_of_ble_eq_true rfl) (Nat.le_of_ble_eq_true rfl) (Nat.le_of_ble_eq_true rfl) (Nat.le_of_ble_eq_true rfl) (fun hq0 qq0 => ?_)
        have hI0 : MI m sz kf vf (cpF f g 190) h hq0 := ⟨qq0.1.1, qq0.1.2.1, qq0.1.2.2.1, (Same.rf.sF (SY0 m)).tr qq0.1.2.2.2.1, qq0.1.2.2.2.2⟩
        refine ww_iload_n dX11_buy_46 rfl rfl ?_
        refine ww_if_neN (tgt := 57) dX11_buy_47 (by decide) (by omega) (fun c47 => ?_) (fun c47 => ?_)
        · exact absurd c47 (by decide)
        · refine ww_aload_n dX11_buy_50 rfl rfl ?_
          refine ww_get 42 dX11_buy_51 hI0.1.K0 rfl (by decide) inX11 wg_1282 qq0.2.1 ?_
          refine ww_goto (tgt := 61) dX11_buy_54 (by decide) ?_
          exact ww_iret dX11_buy_61 rfl ⟨rfl, hI0.2.2.2.1, hI0.2.2.2.2⟩
      · exact absurd c36 (by decide)
set_option maxHeartbeats 4000000 in
set_option maxRecDepth 100000 in
theorem c_M_buy1 {l : Launch} {Z : EE} (hst : l.stackTraces = false) {h : PH} {m : Nat} (hM : ModS h m) {f : Nat → Int32} (hf : hp_I h (m + 14) = f) {g : Nat → Int32} (hs : hp_I h (m + 15) = g) {sz : Nat} {kf vf : Nat → Int32} (hQ : LawM h m sz kf vf) (hok : LawOK kf vf sz) {np : Nat} (hu : RowOK f np) {s : BKt} (hB : BookM h m s) (hg : BkG s) (c : Nat) (hc : c ≤ 9999) : CC l Z m_X11_buy 7 0 0 [.ref m, .int (nI c), .int (nI 1)] h (MOk (nI (buS f (frN f sz kf vf) s c (2 ^ s.1)).1) m h) := by
  refine ee_entry hst (by decide +kernel) rfl rfl (by simp [Value.category]) (Nat.le_of_ble_eq_true rfl) ?_
  refine ww_lv (lv2 := [.ref m, .int (nI c), .int (nI 1)]) rfl ?_
  refine ww_aload_n dX11_buy_0 rfl rfl ?_
  refine ww_iconst (v := nI 0) dX11_buy_1 (by decide) ?_
  refine ww_pfI tyX11 0 dX11_buy_2 hM.K0 rfl (by decide) inX11 tyX11_ok nmX11 wg_1240 rfl rfl ?_
  refine ww_aload_n dX11_buy_5 rfl rfl ?_
  refine ww_iload_n dX11_buy_6 rfl rfl ?_
  refine ww_iconst (v := nI 0) dX11_buy_7 (by decide) ?_
  refine ww_sipush (v := nI 9999) dX11_buy_8 (by decide) ?_
  refine ww_cSr (M := m_X11_buy) (pc := 11) (v := .int (nI 1)) (h1 := hp_sF h m 0 (.int (nI 0))) (st := [.ref m]) (d := 7) (bc := 0) (bs := 0) (c_M_within_t hst (nI c) (nI 0) (nI 9999) (nI_le (by omega) (by omega)) (nI_le (by omega) (by omega)) _) vv_X11_within dX11_buy_11 wg_1601 rfl rfl rfl (Nat.le_of_ble_eq_true rfl) (Nat.le_of_ble_eq_true rfl) (Nat.le_of_ble_eq_true rfl) (Nat.le_of_ble_eq_true rfl) ?_
  refine ww_if_eqN (tgt := 30) dX11_buy_14 (by decide) (by omega) (fun c14 => ?_) (fun c14 => ?_)
  · exact absurd c14 (by decide)
  · refine ww_iload_n dX11_buy_17 rfl rfl ?_
    refine ww_iconst (v := nI 0) dX11_buy_18 (by decide) ?_
    refine ww_iconst (v := nI 1) dX11_buy_19 (by decide) ?_
    refine ww_cSr (M := m_X11_buy) (pc := 20) (v := .int (nI 1)) (h1 := hp_sF h m 0 (.int (nI 0))) (st := [.ref m]) (d := 7) (bc := 0) (bs := 0) (c_M_within_t hst (nI 1) (nI 0) (nI 1) (by decide) (by decide) _) vv_X11_within dX11_buy_20 wg_1601 rfl rfl rfl (Nat.le_of_ble_eq_true rfl) (Nat.le_of_ble_eq_true rfl) (Nat.le_of_ble_eq_true rfl) (Nat.le_of_ble_eq_true rfl) ?_
    refine ww_if_eqN (tgt := 30) dX11_buy_23 (by decide) (by omega) (fun c23 => ?_) (fun c23 => ?_)
    · exact absurd c23 (by decide)
    · refine ww_iconst (v := nI 1) dX11_buy_26 (by decide) ?_
      refine ww_goto (tgt := 31) dX11_buy_27 (by decide) ?_
      refine ww_iconst (v := nI 1) dX11_buy_31 (by decide) ?_
      refine ww_iconst (v := nI 1) dX11_buy_32 (by decide) ?_
      refine ww_cVr (M := m_X11_buy) (pc := 33) (v := .int (nI 1)) (h1 := hp_sF h m 0 (.int (nI 0))) (st := []) (d := 7) (bc := 0) (bs := 0) (c_M_may_t hst (h := hp_sF h m 0 (.int (nI 0))) (ModS.sF hM (by decide)) (hp_F_eq _ _ _ _) (nI 1) (nI 1)) vv_X11_may dX11_buy_33 wg_1413 hM.K0 rfl rfl rfl rfl (Nat.le_of_ble_eq_true rfl) (Nat.le_of_ble_eq_true rfl) (Nat.le_of_ble_eq_true rfl) (Nat.le_of_ble_eq_true rfl) ?_
      refine ww_if_neN (tgt := 41) dX11_buy_36 (by decide) (by omega) (fun c36 => ?_) (fun c36 => ?_)
      · refine ww_aload_n dX11_buy_41 rfl rfl ?_
        refine ww_iload_n dX11_buy_42 rfl rfl ?_
        have hQ0 : LawM (hp_sF h m 0 (.int (nI 0))) m sz kf vf := hQ.same (Same.rf.sF (SY0 m)) (SX_no (by decide)) (SX_no (by decide)) (SY_no (by decide))
        refine ww_cVq0 (M := m_X11_buy) (pc := 43) (st := []) (d := 7) (bc := 0) (bs := 0) (c_M_findBuy hst (h := hp_sF h m 0 (.int (nI 0))) (ModS.sF hM (by decide)) hf hs hQ0 hok hu (hB.mi (Same.rf.sF (SY0 m))) hg c hc (hp_F_eq _ _ _ _)) vv_X11_findBuy dX11_buy_43 wg_1674 hM.K0 rfl rfl rfl rfl (Nat.le_of_ble_eq_true rfl) (Nat.le_of_ble_eq_true rfl) (Nat.le_of_ble_eq_true rfl) (Nat.le_of_ble_eq_true rfl) (fun hq0 qq0 => ?_)
        have hI0 : MI m sz kf vf (cpF f g 190) h hq0 := ⟨qq0.1.1, qq0.1.2.1, qq0.1.2.2.1, (Same.rf.sF (SY0 m)).tr qq0.1.2.2.2.1, qq0.1.2.2.2.2⟩
        refine ww_iload_n dX11_buy_46 rfl rfl ?_
        refine ww_if_neN (tgt := 57) dX11_buy_47 (by decide) (by omega) (fun c47 => ?_) (fun c47 => ?_)
        · refine ww_aload_n dX11_buy_57 rfl rfl ?_
          refine ww_get 43 dX11_buy_58 hI0.1.K0 rfl (by decide) inX11 wg_1283 qq0.2.2 ?_
          exact ww_iret dX11_buy_61 rfl ⟨rfl, hI0.2.2.2.1, hI0.2.2.2.2⟩
        · exact absurd c47 (by decide)
      · exact absurd c36 (by decide)
set_option maxHeartbeats 4000000 in
set_option maxRecDepth 100000 in
theorem c_M_buy_no0 {l : Launch} {Z : EE} (hst : l.stackTraces = false) {h : PH} {m : Nat} (hM : ModS h m) (c w : Int32) (hout : outR 0 9999 c) : CC l Z m_X11_buy 6 0 0 [.ref m, .int c, .int w] h (MNo 1 1 m h) := by
  refine ee_entry hst (by decide +kernel) rfl rfl (by simp [Value.category]) (Nat.le_of_ble_eq_true rfl) ?_
  refine ww_lv (lv2 := [.ref m, .int c, .int w]) rfl ?_
  refine ww_aload_n dX11_buy_0 rfl rfl ?_
  refine ww_iconst (v := nI 0) dX11_buy_1 (by decide) ?_
  refine ww_pfI tyX11 0 dX11_buy_2 hM.K0 rfl (by decide) inX11 tyX11_ok nmX11 wg_1240 rfl rfl ?_
  refine ww_aload_n dX11_buy_5 rfl rfl ?_
  refine ww_iload_n dX11_buy_6 rfl rfl ?_
  refine ww_iconst (v := nI 0) dX11_buy_7 (by decide) ?_
  refine ww_sipush (v := nI 9999) dX11_buy_8 (by decide) ?_
  refine ww_cSr (M := m_X11_buy) (pc := 11) (v := .int (nI 0)) (h1 := hp_sF h m 0 (.int (nI 0))) (st := [.ref m]) (d := 6) (bc := 0) (bs := 0) (c_M_within_f hst c (nI 0) (nI 9999) hout _) vv_X11_within dX11_buy_11 wg_1601 rfl rfl rfl (Nat.le_of_ble_eq_true rfl) (Nat.le_of_ble_eq_true rfl) (Nat.le_of_ble_eq_true rfl) (Nat.le_of_ble_eq_true rfl) ?_
  refine ww_if_eqN (tgt := 30) dX11_buy_14 (by decide) (by omega) (fun c14 => ?_) (fun c14 => ?_)
  · refine ww_iconst (v := nI 0) dX11_buy_30 (by decide) ?_
    refine ww_iconst (v := nI 1) dX11_buy_31 (by decide) ?_
    refine ww_iconst (v := nI 1) dX11_buy_32 (by decide) ?_
    refine ww_cVr (M := m_X11_buy) (pc := 33) (v := .int (nI 0)) (h1 := hp_sI (hp_sF (hp_sF h m 0 (.int (nI 0))) m 0 (.int (nI 1))) (m + 1) (upd (hp_I (hp_sF h m 0 (.int (nI 0))) (m + 1)) 1 (hp_I (hp_sF h m 0 (.int (nI 0))) (m + 1) 1 + nI 1))) (st := []) (d := 6) (bc := 0) (bs := 0) (c_M_may_f hst (h := hp_sF h m 0 (.int (nI 0))) (ModS.sF hM (by decide)) (hp_F_eq _ _ _ _) 1 1 (by decide) (by decide) (by decide)) vv_X11_may dX11_buy_33 wg_1413 hM.K0 rfl rfl rfl rfl (Nat.le_of_ble_eq_true rfl) (Nat.le_of_ble_eq_true rfl) (Nat.le_of_ble_eq_true rfl) (Nat.le_of_ble_eq_true rfl) ?_
    refine ww_if_neN (tgt := 41) dX11_buy_36 (by decide) (by omega) (fun c36 => ?_) (fun c36 => ?_)
    · exact absurd c36 (by decide)
    · refine ww_iconst (v := nI 0) dX11_buy_39 (by decide) ?_
      exact ww_iret dX11_buy_40 rfl ⟨rfl, (((Same.rf.sF (SY0 m)).sF (SY0 m)).sI (Or.inr rfl)), (hp_F_sI (hp_F_eq _ _ _ _)), by rw [hp_I_eq]; rfl⟩
  · exact absurd c14 (by decide)
set_option maxHeartbeats 4000000 in
set_option maxRecDepth 100000 in
theorem c_M_buy_no1 {l : Launch} {Z : EE} (hst : l.stackTraces = false) {h : PH} {m : Nat} (hM : ModS h m) (c : Nat) (hc : c ≤ 9999) (w : Int32) (hout : outR 0 1 w) : CC l Z m_X11_buy 6 0 0 [.ref m, .int (nI c), .int w] h (MNo 1 1 m h) := by
  refine ee_entry hst (by decide +kernel) rfl rfl (by simp [Value.category]) (Nat.le_of_ble_eq_true rfl) ?_
  refine ww_lv (lv2 := [.ref m, .int (nI c), .int w]) rfl ?_
  refine ww_aload_n dX11_buy_0 rfl rfl ?_
  refine ww_iconst (v := nI 0) dX11_buy_1 (by decide) ?_
  refine ww_pfI tyX11 0 dX11_buy_2 hM.K0 rfl (by decide) inX11 tyX11_ok nmX11 wg_1240 rfl rfl ?_
  refine ww_aload_n dX11_buy_5 rfl rfl ?_
  refine ww_iload_n dX11_buy_6 rfl rfl ?_
  refine ww_iconst (v := nI 0) dX11_buy_7 (by decide) ?_
  refine ww_sipush (v := nI 9999) dX11_buy_8 (by decide) ?_
  refine ww_cSr (M := m_X11_buy) (pc := 11) (v := .int (nI 1)) (h1 := hp_sF h m 0 (.int (nI 0))) (st := [.ref m]) (d := 6) (bc := 0) (bs := 0) (c_M_within_t hst (nI c) (nI 0) (nI 9999) (nI_le (by omega) (by omega)) (nI_le (by omega) (by omega)) _) vv_X11_within dX11_buy_11 wg_1601 rfl rfl rfl (Nat.le_of_ble_eq_true rfl) (Nat.le_of_ble_eq_true rfl) (Nat.le_of_ble_eq_true rfl) (Nat.le_of_ble_eq_true rfl) ?_
  refine ww_if_eqN (tgt := 30) dX11_buy_14 (by decide) (by omega) (fun c14 => ?_) (fun c14 => ?_)
  · exact absurd c14 (by decide)
  · refine ww_iload_n dX11_buy_17 rfl rfl ?_
    refine ww_iconst (v := nI 0) dX11_buy_18 (by decide) ?_
    refine ww_iconst (v := nI 1) dX11_buy_19 (by decide) ?_
    refine ww_cSr (M := m_X11_buy) (pc := 20) (v := .int (nI 0)) (h1 := hp_sF h m 0 (.int (nI 0))) (st := [.ref m]) (d := 6) (bc := 0) (bs := 0) (c_M_within_f hst w (nI 0) (nI 1) hout _) vv_X11_within dX11_buy_20 wg_1601 rfl rfl rfl (Nat.le_of_ble_eq_true rfl) (Nat.le_of_ble_eq_true rfl) (Nat.le_of_ble_eq_true rfl) (Nat.le_of_ble_eq_true rfl) ?_
    refine ww_if_eqN (tgt := 30) dX11_buy_23 (by decide) (by omega) (fun c23 => ?_) (fun c23 => ?_)
    · refine ww_iconst (v := nI 0) dX11_buy_30 (by decide) ?_
      refine ww_iconst (v := nI 1) dX11_buy_31 (by decide) ?_
      refine ww_iconst (v := nI 1) dX11_buy_32 (by decide) ?_
      refine ww_cVr (M := m_X11_buy) (pc := 33) (v := .int (nI 0)) (h1 := hp_sI (hp_sF (hp_sF h m 0 (.int (nI 0))) m 0 (.int (nI 1))) (m + 1) (upd (hp_I (hp_sF h m 0 (.int (nI 0))) (m + 1)) 1 (hp_I (hp_sF h m 0 (.int (nI 0))) (m + 1) 1 + nI 1))) (st := []) (d := 6) (bc := 0) (bs := 0) (c_M_may_f hst (h := hp_sF h m 0 (.int (nI 0))) (ModS.sF hM (by decide)) (hp_F_eq _ _ _ _) 1 1 (by decide) (by decide) (by decide)) vv_X11_may dX11_buy_33 wg_1413 hM.K0 rfl rfl rfl rfl (Nat.le_of_ble_eq_true rfl) (Nat.le_of_ble_eq_true rfl) (Nat.le_of_ble_eq_true rfl) (Nat.le_of_ble_eq_true rfl) ?_
      refine ww_if_neN (tgt := 41) dX11_buy_36 (by decide) (by omega) (fun c36 => ?_) (fun c36 => ?_)
      · exact absurd c36 (by decide)
      · refine ww_iconst (v := nI 0) dX11_buy_39 (by decide) ?_
        exact ww_iret dX11_buy_40 rfl ⟨rfl, (((Same.rf.sF (SY0 m)).sF (SY0 m)).sI (Or.inr rfl)), (hp_F_sI (hp_F_eq _ _ _ _)), by rw [hp_I_eq]; rfl⟩
    · exact absurd c23 (by decide)
