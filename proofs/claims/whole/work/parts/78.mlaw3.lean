set_option maxHeartbeats 4000000 in
set_option maxRecDepth 100000 in
theorem c_Mw_unit0 {l : Launch} {Z : EE} (hst : l.stackTraces = false) {h : PH} {m : Nat} (hM : ModS h m) {tf : Nat → Int32} (htf : hp_I h (m + 2) = tf) {T : Nat → Nat} (hB : BT tf T) {n : Nat} (hn : n ≤ 600) (bk : Int32) (op : Nat) (hn5 : n ≤ 150) {d : Nat} (hd6 : 6 ≤ d) (ho : op = 6) (a : Nat) (L W : LWt) (ha : a ≤ n) (hL : L.1 ≤ a) (hw : MwR L W) : CC l Z m_X11_readUnit (d) 0 0 [.ref m] (mrS (mwS h m W) m n a (-1) bk op) (RQ none (MwO h m n bk op (unitF none T n a L))) := by
  refine ee_entry hst (by decide +kernel) rfl rfl (by simp [Value.category]) (Nat.le_of_ble_eq_true rfl) ?_
  refine ww_lv (lv2 := [.ref m, UU]) rfl ?_
  refine ww_aload_n dX11_readUnit_0 rfl rfl ?_
  refine ww_cVr (M := m_X11_readUnit) (pc := 1) (v := .int (nI 1)) (h1 := mrS (mwS h m W) m n a (-1) bk op) (st := []) (d := (d)) (bc := 0) (bs := 0) (c_MR_fine_t hst (mwS_M hM W) (mwS_t (W := W) htf) hB hn a bk op) vv_X11_fine dX11_readUnit_1 wg_1421 ((mwS_M hM W).K0) rfl rfl rfl rfl (by omega) (Nat.le_of_ble_eq_true rfl) (Nat.le_of_ble_eq_true rfl) (Nat.le_of_ble_eq_true rfl) ?_
  refine ww_if_neN (tgt := 8) dX11_readUnit_4 (by decide) (by omega) (fun c4 => ?_) (fun c4 => ?_)
  · refine ww_aload_n dX11_readUnit_8 rfl rfl ?_
    have hsl5001 := sk_le (T := T) (show a ≤ n by omega)
    have hsg5001 := sk_ge (T := T) (show a ≤ n by omega)
    have hsT5001 := (hB (sk T n a)).2
    by_cases hl5001 : sk T n a < n
    · refine ww_cVr (M := m_X11_readUnit) (pc := 9) (v := .int (nI (T (sk T n a)))) (h1 := mrS (mwS h m W) m n (sk T n a) (-1) bk op) (st := []) (d := (d)) (bc := 0) (bs := 0) (c_MR_here_t hst (mwS_M hM W) (mwS_t (W := W) htf) hB hn (-1) bk op a (by omega) hl5001) vv_X11_here dX11_readUnit_9 wg_1429 ((mwS_M hM W).K0) rfl rfl rfl rfl (by omega) (Nat.le_of_ble_eq_true rfl) (Nat.le_of_ble_eq_true rfl) (Nat.le_of_ble_eq_true rfl) ?_
      refine ww_bipush (v := nI 40) dX11_readUnit_12 (by decide) ?_
      refine ww_icmp_neN (tgt := 45) dX11_readUnit_14 (by decide) (by omega) (by omega) (fun c14 => ?_) (fun c14 => ?_)
      · refine ww_aload_n dX11_readUnit_45 rfl rfl ?_
        refine ww_cVr (M := m_X11_readUnit) (pc := 46) (v := .int (nI (T (sk T n a)))) (h1 := mrS (mwS h m W) m n (sk T n a) (-1) bk op) (st := []) (d := (d)) (bc := 0) (bs := 0) (c_MR_here_i hst (mwS_M hM W) (mwS_t (W := W) htf) hB hn (-1) bk op a (by omega) (by assumption)) vv_X11_here dX11_readUnit_46 wg_1429 ((mwS_M hM W).K0) rfl rfl rfl rfl (by omega) (Nat.le_of_ble_eq_true rfl) (Nat.le_of_ble_eq_true rfl) (Nat.le_of_ble_eq_true rfl) ?_
        refine ww_cSr (M := m_X11_readUnit) (pc := 49) (v := .int (bI (dgC (T (sk T n a))))) (h1 := mrS (mwS h m W) m n (sk T n a) (-1) bk op) (st := []) (d := (d)) (bc := 0) (bs := 0) (c_MR_dg hst (T (sk T n a)) (by omega) (mrS (mwS h m W) m n (sk T n a) (-1) bk op)) vv_X11_isDigit dX11_readUnit_49 wg_1464 rfl rfl rfl (by omega) (Nat.le_of_ble_eq_true rfl) (Nat.le_of_ble_eq_true rfl) (Nat.le_of_ble_eq_true rfl) ?_
        refine ww_if_eqB (tgt := 71) dX11_readUnit_52 (by decide) (fun c52 => ?_) (fun c52 => ?_)
        · refine ww_aload_n dX11_readUnit_71 rfl rfl ?_
          rcases hr5002 : wrdS wLaw T n (sk T n a) with ⟨k5002, q5002⟩ | ⟨a5002, v5002⟩
          · have hq5002 := wrdS_lq (by omega) hr5002
            have hno5002 := wM_l (by omega) wLaw_x (by decide) hr5002
            have hn5002_11 : ¬ wdA T n (sk T n a) = 492210354 := fun e => hno5002 11 (by decide) (e.trans (by decide +kernel))
            have hn5002_12 : ¬ wdA T n (sk T n a) = 595412 := fun e => hno5002 12 (by decide) (e.trans (by decide +kernel))
            have hn5002_13 : ¬ wdA T n (sk T n a) = 23609 := fun e => hno5002 13 (by decide) (e.trans (by decide +kernel))
            have hn5002_14 : ¬ wdA T n (sk T n a) = 16496818 := fun e => hno5002 14 (by decide) (e.trans (by decide +kernel))
            have hn5002_15 : ¬ wdA T n (sk T n a) = 16829075 := fun e => hno5002 15 (by decide) (e.trans (by decide +kernel))
            have hn5002_16 : ¬ wdA T n (sk T n a) = 707748 := fun e => hno5002 16 (by decide) (e.trans (by decide +kernel))
            have hn5002_17 : ¬ wdA T n (sk T n a) = 4153 := fun e => hno5002 17 (by decide) (e.trans (by decide +kernel))
            have hn5002_9 : ¬ wdA T n (sk T n a) = 12748404 := fun e => hno5002 9 (by decide) (e.trans (by decide +kernel))
            have hn5002_10 : ¬ wdA T n (sk T n a) = 441972 := fun e => hno5002 10 (by decide) (e.trans (by decide +kernel))
            have hwl5002 := wdA_lt (T := T) (show sk T n a ≤ n by omega)
            refine ww_cVr (M := m_X11_readUnit) (pc := 72) (v := .int (nI (wdA T n (sk T n a)))) (h1 := mrS (mwS h m W) m n (sk T n a) (-1) bk op) (st := []) (d := (d)) (bc := 0) (bs := 0) (c_MR_word_i hst (mwS_M hM W) (mwS_t (W := W) htf) hB hn (-1) bk op (sk T n a) (by omega) (sk_id (by omega)) rfl) vv_X11_word dX11_readUnit_72 wg_1433 ((mwS_M hM W).K0) rfl rfl rfl rfl (by omega) (Nat.le_of_ble_eq_true rfl) (Nat.le_of_ble_eq_true rfl) (Nat.le_of_ble_eq_true rfl) ?_
            refine ww_ldcS (i := 9) dX11_readUnit_75 rfl ?_
            refine ww_cSr (M := m_X11_readUnit) (pc := 77) (v := .int (nI 12748404)) (h1 := mrS (mwS h m W) m n (sk T n a) (-1) bk op) (st := [.int (nI (wdA T n (sk T n a)))]) (d := (d)) (bc := 0) (bs := 0) (c_of_9 hst (mrS (mwS h m W) m n (sk T n a) (-1) bk op)) vv_X11_of dX11_readUnit_77 wg_1441 rfl rfl rfl (by omega) (Nat.le_of_ble_eq_true rfl) (Nat.le_of_ble_eq_true rfl) (Nat.le_of_ble_eq_true rfl) ?_
            refine ww_icmp_neN (tgt := 93) dX11_readUnit_80 (by decide) (by omega) (by omega) (fun c80 => ?_) (fun c80 => ?_)
            · refine ww_aload_n dX11_readUnit_93 rfl rfl ?_
              refine ww_cVr (M := m_X11_readUnit) (pc := 94) (v := .int (nI (wdA T n (sk T n a)))) (h1 := mrS (mwS h m W) m n (sk T n a) (-1) bk op) (st := []) (d := (d)) (bc := 0) (bs := 0) (c_MR_word_i hst (mwS_M hM W) (mwS_t (W := W) htf) hB hn (-1) bk op (sk T n a) (by omega) (sk_id (by omega)) rfl) vv_X11_word dX11_readUnit_94 wg_1433 ((mwS_M hM W).K0) rfl rfl rfl rfl (by omega) (Nat.le_of_ble_eq_true rfl) (Nat.le_of_ble_eq_true rfl) (Nat.le_of_ble_eq_true rfl) ?_
              refine ww_ldcS (i := 10) dX11_readUnit_97 rfl ?_
              refine ww_cSr (M := m_X11_readUnit) (pc := 99) (v := .int (nI 441972)) (h1 := mrS (mwS h m W) m n (sk T n a) (-1) bk op) (st := [.int (nI (wdA T n (sk T n a)))]) (d := (d)) (bc := 0) (bs := 0) (c_of_10 hst (mrS (mwS h m W) m n (sk T n a) (-1) bk op)) vv_X11_of dX11_readUnit_99 wg_1441 rfl rfl rfl (by omega) (Nat.le_of_ble_eq_true rfl) (Nat.le_of_ble_eq_true rfl) (Nat.le_of_ble_eq_true rfl) ?_
              refine ww_icmp_neN (tgt := 115) dX11_readUnit_102 (by decide) (by omega) (by omega) (fun c102 => ?_) (fun c102 => ?_)
              · refine ww_aload_n dX11_readUnit_115 rfl rfl ?_
                refine ww_cVr (M := m_X11_readUnit) (pc := 116) (v := .int (-1)) (h1 := mrS (mwS h m W) m n (sk T n a) (-1) bk op) (st := []) (d := (d)) (bc := 0) (bs := 0) (c_Mw_factN hst hM htf hB hn W (sk T n a) (-1) bk op (by omega) (sk_id (by omega)) hn5002_11 hn5002_12 hn5002_13 hn5002_14 hn5002_15 hn5002_16 hn5002_17) vv_X11_factHere dX11_readUnit_116 wg_1505 ((mwS_M hM W).K0) rfl rfl rfl rfl (by omega) (Nat.le_of_ble_eq_true rfl) (Nat.le_of_ble_eq_true rfl) (Nat.le_of_ble_eq_true rfl) ?_
                refine ww_sti_n (lv2 := [.ref m, .int (-1)]) dX11_readUnit_119 rfl rfl (by decide) rfl ?_
                refine ww_iload_n dX11_readUnit_120 rfl rfl ?_
                refine ww_iconst (v := -1) dX11_readUnit_121 (by decide) ?_
                refine ww_icmp_ne (tgt := 134) dX11_readUnit_122 (by decide) (fun c122 => ?_) (fun c122 => ?_)
                · exact absurd c122 (by decide)
                · refine ww_aload_n dX11_readUnit_125 rfl rfl ?_
                  refine ww_iconst (v := nI 1) dX11_readUnit_126 (by decide) ?_
                  refine ww_aload_n dX11_readUnit_127 rfl rfl ?_
                  refine ww_get 4 dX11_readUnit_128 ((mwS_M hM W).K0) rfl (by decide) inX11 wg_1244 (mrS_4 _ _ _ _ _ _ _) ?_
                  refine ww_cV0 (M := m_X11_readUnit) (pc := 131) (h1 := mrS (mwS h m W) m n (sk T n a) (nI (sk T n a)) (nI 1) op) (st := []) (d := (d)) (bc := 0) (bs := 0) (c_MR_wrong_t hst (mwS_M hM W) (mwS_t (W := W) htf) hB hn (sk T n a) bk op (nI 1) (nI (sk T n a))) vv_X11_wrong dX11_readUnit_131 wg_1448 ((mwS_M hM W).K0) rfl rfl rfl rfl (by omega) (Nat.le_of_ble_eq_true rfl) (Nat.le_of_ble_eq_true rfl) (Nat.le_of_ble_eq_true rfl) ?_
                  refine ww_aload_n dX11_readUnit_134 rfl rfl ?_
                  refine ww_cVr (M := m_X11_readUnit) (pc := 135) (v := .int (nI 0)) (h1 := mrS (mwS h m W) m n (sk T n a) (nI (sk T n a)) (nI 1) op) (st := []) (d := (d)) (bc := 0) (bs := 0) (c_MR_fine_f hst (mwS_M hM W) (mwS_t (W := W) htf) hB hn (sk T n a) (nI 1) op (sk T n a) (by omega)) vv_X11_fine dX11_readUnit_135 wg_1421 ((mwS_M hM W).K0) rfl rfl rfl rfl (by omega) (Nat.le_of_ble_eq_true rfl) (Nat.le_of_ble_eq_true rfl) (Nat.le_of_ble_eq_true rfl) ?_
                  refine ww_if_neN (tgt := 142) dX11_readUnit_138 (by decide) (by omega) (fun c138 => ?_) (fun c138 => ?_)
                  · exact absurd c138 (by decide)
                  · exact ww_vret dX11_readUnit_141 rfl ⟨rfl, (by obtain ⟨hk9, hq9, -⟩ := wrdS_l hr5002; rw [sk_id (by omega)] at hq9; subst hk9 hq9; rw [unitF_w (fun _ => ⟨fun e => (by have e9 := dgC_t.mpr e; rw [c52] at e9; cases e9), c14⟩), hr5002, bS_l]; exact ⟨_, _, (by omega), rfl⟩)⟩
              · exfalso; omega
            · exfalso; omega
          · have hf5002 := wrdS_lt wLaw_ne (by omega) hr5002
            have hz5002 := (wrdS_r hr5002).1
            rcases (show v5002 = 0 ∨ v5002 = 1 ∨ v5002 = 2 ∨ v5002 = 3 ∨ v5002 = 4 ∨ v5002 = 5 ∨ v5002 = 6 ∨ v5002 = 7 ∨ v5002 = 8 by have h9 := hf5002.2.2; simp only [wLaw, List.length_cons, List.length_nil] at h9; omega) with rfl | rfl | rfl | rfl | rfl | rfl | rfl | rfl | rfl
            · have hw5002 : wdA T n (sk T n a) = 492210354 := by
                obtain ⟨i, hi, hw⟩ := wM_r (by omega) wLaw_x (by decide) hr5002
                have e := Option.some.inj (show some 11 = some i from hi)
                rw [← e] at hw
                exact hw.trans (by decide +kernel)
              refine ww_cVr (M := m_X11_readUnit) (pc := 72) (v := .int (nI 492210354)) (h1 := mrS (mwS h m W) m n (sk T n a) (-1) bk op) (st := []) (d := (d)) (bc := 0) (bs := 0) (c_MR_word_i hst (mwS_M hM W) (mwS_t (W := W) htf) hB hn (-1) bk op (sk T n a) (by omega) (sk_id (by omega)) hw5002) vv_X11_word dX11_readUnit_72 wg_1433 ((mwS_M hM W).K0) rfl rfl rfl rfl (by omega) (Nat.le_of_ble_eq_true rfl) (Nat.le_of_ble_eq_true rfl) (Nat.le_of_ble_eq_true rfl) ?_
              refine ww_ldcS (i := 9) dX11_readUnit_75 rfl ?_
              refine ww_cSr (M := m_X11_readUnit) (pc := 77) (v := .int (nI 12748404)) (h1 := mrS (mwS h m W) m n (sk T n a) (-1) bk op) (st := [.int (nI 492210354)]) (d := (d)) (bc := 0) (bs := 0) (c_of_9 hst (mrS (mwS h m W) m n (sk T n a) (-1) bk op)) vv_X11_of dX11_readUnit_77 wg_1441 rfl rfl rfl (by omega) (Nat.le_of_ble_eq_true rfl) (Nat.le_of_ble_eq_true rfl) (Nat.le_of_ble_eq_true rfl) ?_
              refine ww_icmp_neN (tgt := 93) dX11_readUnit_80 (by decide) (by omega) (by omega) (fun c80 => ?_) (fun c80 => ?_)
              · refine ww_aload_n dX11_readUnit_93 rfl rfl ?_
                refine ww_cVr (M := m_X11_readUnit) (pc := 94) (v := .int (nI 492210354)) (h1 := mrS (mwS h m W) m n (sk T n a) (-1) bk op) (st := []) (d := (d)) (bc := 0) (bs := 0) (c_MR_word_i hst (mwS_M hM W) (mwS_t (W := W) htf) hB hn (-1) bk op (sk T n a) (by omega) (sk_id (by omega)) hw5002) vv_X11_word dX11_readUnit_94 wg_1433 ((mwS_M hM W).K0) rfl rfl rfl rfl (by omega) (Nat.le_of_ble_eq_true rfl) (Nat.le_of_ble_eq_true rfl) (Nat.le_of_ble_eq_true rfl) ?_
                refine ww_ldcS (i := 10) dX11_readUnit_97 rfl ?_
                refine ww_cSr (M := m_X11_readUnit) (pc := 99) (v := .int (nI 441972)) (h1 := mrS (mwS h m W) m n (sk T n a) (-1) bk op) (st := [.int (nI 492210354)]) (d := (d)) (bc := 0) (bs := 0) (c_of_10 hst (mrS (mwS h m W) m n (sk T n a) (-1) bk op)) vv_X11_of dX11_readUnit_99 wg_1441 rfl rfl rfl (by omega) (Nat.le_of_ble_eq_true rfl) (Nat.le_of_ble_eq_true rfl) (Nat.le_of_ble_eq_true rfl) ?_
                refine ww_icmp_neN (tgt := 115) dX11_readUnit_102 (by decide) (by omega) (by omega) (fun c102 => ?_) (fun c102 => ?_)
                · refine ww_aload_n dX11_readUnit_115 rfl rfl ?_
                  refine ww_cVr (M := m_X11_readUnit) (pc := 116) (v := .int (nI 0)) (h1 := mrS (mwS h m W) m n (sk T n a) (-1) bk op) (st := []) (d := (d)) (bc := 0) (bs := 0) (c_Mw_fact0 hst hM htf hB hn W (sk T n a) (-1) bk op (by omega) (sk_id (by omega)) hw5002) vv_X11_factHere dX11_readUnit_116 wg_1505 ((mwS_M hM W).K0) rfl rfl rfl rfl (by omega) (Nat.le_of_ble_eq_true rfl) (Nat.le_of_ble_eq_true rfl) (Nat.le_of_ble_eq_true rfl) ?_
                  refine ww_sti_n (lv2 := [.ref m, .int (nI 0)]) dX11_readUnit_119 rfl rfl (by decide) rfl ?_
                  refine ww_iload_n dX11_readUnit_120 rfl rfl ?_
                  refine ww_iconst (v := -1) dX11_readUnit_121 (by decide) ?_
                  refine ww_icmp_ne (tgt := 134) dX11_readUnit_122 (by decide) (fun c122 => ?_) (fun c122 => ?_)
                  · refine ww_aload_n dX11_readUnit_134 rfl rfl ?_
                    refine ww_cVr (M := m_X11_readUnit) (pc := 135) (v := .int (nI 1)) (h1 := mrS (mwS h m W) m n (sk T n a) (-1) bk op) (st := []) (d := (d)) (bc := 0) (bs := 0) (c_MR_fine_t hst (mwS_M hM W) (mwS_t (W := W) htf) hB hn (sk T n a) bk op) vv_X11_fine dX11_readUnit_135 wg_1421 ((mwS_M hM W).K0) rfl rfl rfl rfl (by omega) (Nat.le_of_ble_eq_true rfl) (Nat.le_of_ble_eq_true rfl) (Nat.le_of_ble_eq_true rfl) ?_
                    refine ww_if_neN (tgt := 142) dX11_readUnit_138 (by decide) (by omega) (fun c138 => ?_) (fun c138 => ?_)
                    · refine ww_aload_n dX11_readUnit_142 rfl rfl ?_
                      refine ww_cV0 (M := m_X11_readUnit) (pc := 143) (h1 := mrS (mwS h m W) m n a5002 (-1) bk op) (st := []) (d := (d)) (bc := 0) (bs := 0) (c_MR_pass_e hst (mwS_M hM W) (mwS_t (W := W) htf) hB hn (-1) bk op (sk T n a) (by omega) (hz5002.trans (by rw [sk_id (by omega)]))) vv_X11_pass dX11_readUnit_143 wg_1452 ((mwS_M hM W).K0) rfl rfl rfl rfl (by omega) (Nat.le_of_ble_eq_true rfl) (Nat.le_of_ble_eq_true rfl) (Nat.le_of_ble_eq_true rfl) ?_
                      refine ww_aload_n dX11_readUnit_146 rfl rfl ?_
                      refine ww_iconst (v := nI 1) dX11_readUnit_147 (by decide) ?_
                      refine ww_iload_n dX11_readUnit_148 rfl rfl ?_
                      have hW5003 : W.1 = L.1 := hw.1
                      have he5003 : (eL 1 0 L).1 = L.1 + 1 := rfl
                      refine ww_cV0 (M := m_X11_readUnit) (pc := 149) (h1 := mrS (mwS h m (eL 1 0 W)) m n a5002 (-1) bk op) (st := []) (d := (d)) (bc := 0) (bs := 0) (c_Mw_emit_t hst hM htf hB hn W (by omega) a5002 bk op 1 0) vv_X11_emit dX11_readUnit_149 wg_1495 ((mwS_M hM W).K0) rfl rfl rfl rfl (by omega) (Nat.le_of_ble_eq_true rfl) (Nat.le_of_ble_eq_true rfl) (Nat.le_of_ble_eq_true rfl) ?_
                      exact ww_vret dX11_readUnit_152 rfl ⟨rfl, (by rw [unitF_w (fun _ => ⟨fun e => (by have e9 := dgC_t.mpr e; rw [c52] at e9; cases e9), c14⟩), hr5002, bS_r, if_neg (by decide)]; exact ⟨_, (MwR.e hw (k := 1) (by decide) 0), rfl⟩)⟩
                    · exact absurd c138 (by decide)
                  · exact absurd c122 (by decide)
                · exact absurd c102 (by decide)
              · exact absurd c80 (by decide)
            · have hw5002 : wdA T n (sk T n a) = 595412 := by
                obtain ⟨i, hi, hw⟩ := wM_r (by omega) wLaw_x (by decide) hr5002
                have e := Option.some.inj (show some 12 = some i from hi)
                rw [← e] at hw
                exact hw.trans (by decide +kernel)
              refine ww_cVr (M := m_X11_readUnit) (pc := 72) (v := .int (nI 595412)) (h1 := mrS (mwS h m W) m n (sk T n a) (-1) bk op) (st := []) (d := (d)) (bc := 0) (bs := 0) (c_MR_word_i hst (mwS_M hM W) (mwS_t (W := W) htf) hB hn (-1) bk op (sk T n a) (by omega) (sk_id (by omega)) hw5002) vv_X11_word dX11_readUnit_72 wg_1433 ((mwS_M hM W).K0) rfl rfl rfl rfl (by omega) (Nat.le_of_ble_eq_true rfl) (Nat.le_of_ble_eq_true rfl) (Nat.le_of_ble_eq_true rfl) ?_
              refine ww_ldcS (i := 9) dX11_readUnit_75 rfl ?_
              refine ww_cSr (M := m_X11_readUnit) (pc := 77) (v := .int (nI 12748404)) (h1 := mrS (mwS h m W) m n (sk T n a) (-1) bk op) (st := [.int (nI 595412)]) (d := (d)) (bc := 0) (bs := 0) (c_of_9 hst (mrS (mwS h m W) m n (sk T n a) (-1) bk op)) vv_X11_of dX11_readUnit_77 wg_1441 rfl rfl rfl (by omega) (Nat.le_of_ble_eq_true rfl) (Nat.le_of_ble_eq_true rfl) (Nat.le_of_ble_eq_true rfl) ?_
              refine ww_icmp_neN (tgt := 93) dX11_readUnit_80 (by decide) (by omega) (by omega) (fun c80 => ?_) (fun c80 => ?_)
              · refine ww_aload_n dX11_readUnit_93 rfl rfl ?_
                refine ww_cVr (M := m_X11_readUnit) (pc := 94) (v := .int (nI 595412)) (h1 := mrS (mwS h m W) m n (sk T n a) (-1) bk op) (st := []) (d := (d)) (bc := 0) (bs := 0) (c_MR_word_i hst (mwS_M hM W) (mwS_t (W := W) htf) hB hn (-1) bk op (sk T n a) (by omega) (sk_id (by omega)) hw5002) vv_X11_word dX11_readUnit_94 wg_1433 ((mwS_M hM W).K0) rfl rfl rfl rfl (by omega) (Nat.le_of_ble_eq_true rfl) (Nat.le_of_ble_eq_true rfl) (Nat.le_of_ble_eq_true rfl) ?_
                refine ww_ldcS (i := 10) dX11_readUnit_97 rfl ?_
                refine ww_cSr (M := m_X11_readUnit) (pc := 99) (v := .int (nI 441972)) (h1 := mrS (mwS h m W) m n (sk T n a) (-1) bk op) (st := [.int (nI 595412)]) (d := (d)) (bc := 0) (bs := 0) (c_of_10 hst (mrS (mwS h m W) m n (sk T n a) (-1) bk op)) vv_X11_of dX11_readUnit_99 wg_1441 rfl rfl rfl (by omega) (Nat.le_of_ble_eq_true rfl) (Nat.le_of_ble_eq_true rfl) (Nat.le_of_ble_eq_true rfl) ?_
                refine ww_icmp_neN (tgt := 115) dX11_readUnit_102 (by decide) (by omega) (by omega) (fun c102 => ?_) (fun c102 => ?_)
                · refine ww_aload_n dX11_readUnit_115 rfl rfl ?_
                  refine ww_cVr (M := m_X11_readUnit) (pc := 116) (v := .int (nI 1)) (h1 := mrS (mwS h m W) m n (sk T n a) (-1) bk op) (st := []) (d := (d)) (bc := 0) (bs := 0) (c_Mw_fact1 hst hM htf hB hn W (sk T n a) (-1) bk op (by omega) (sk_id (by omega)) hw5002) vv_X11_factHere dX11_readUnit_116 wg_1505 ((mwS_M hM W).K0) rfl rfl rfl rfl (by omega) (Nat.le_of_ble_eq_true rfl) (Nat.le_of_ble_eq_true rfl) (Nat.le_of_ble_eq_true rfl) ?_
                  refine ww_sti_n (lv2 := [.ref m, .int (nI 1)]) dX11_readUnit_119 rfl rfl (by decide) rfl ?_
                  refine ww_iload_n dX11_readUnit_120 rfl rfl ?_
                  refine ww_iconst (v := -1) dX11_readUnit_121 (by decide) ?_
                  refine ww_icmp_ne (tgt := 134) dX11_readUnit_122 (by decide) (fun c122 => ?_) (fun c122 => ?_)
                  · refine ww_aload_n dX11_readUnit_134 rfl rfl ?_
                    refine ww_cVr (M := m_X11_readUnit) (pc := 135) (v := .int (nI 1)) (h1 := mrS (mwS h m W) m n (sk T n a) (-1) bk op) (st := []) (d := (d)) (bc := 0) (bs := 0) (c_MR_fine_t hst (mwS_M hM W) (mwS_t (W := W) htf) hB hn (sk T n a) bk op) vv_X11_fine dX11_readUnit_135 wg_1421 ((mwS_M hM W).K0) rfl rfl rfl rfl (by omega) (Nat.le_of_ble_eq_true rfl) (Nat.le_of_ble_eq_true rfl) (Nat.le_of_ble_eq_true rfl) ?_
                    refine ww_if_neN (tgt := 142) dX11_readUnit_138 (by decide) (by omega) (fun c138 => ?_) (fun c138 => ?_)
                    · refine ww_aload_n dX11_readUnit_142 rfl rfl ?_
                      refine ww_cV0 (M := m_X11_readUnit) (pc := 143) (h1 := mrS (mwS h m W) m n a5002 (-1) bk op) (st := []) (d := (d)) (bc := 0) (bs := 0) (c_MR_pass_e hst (mwS_M hM W) (mwS_t (W := W) htf) hB hn (-1) bk op (sk T n a) (by omega) (hz5002.trans (by rw [sk_id (by omega)]))) vv_X11_pass dX11_readUnit_143 wg_1452 ((mwS_M hM W).K0) rfl rfl rfl rfl (by omega) (Nat.le_of_ble_eq_true rfl) (Nat.le_of_ble_eq_true rfl) (Nat.le_of_ble_eq_true rfl) ?_
                      refine ww_aload_n dX11_readUnit_146 rfl rfl ?_
                      refine ww_iconst (v := nI 1) dX11_readUnit_147 (by decide) ?_
                      refine ww_iload_n dX11_readUnit_148 rfl rfl ?_
                      have hW5004 : W.1 = L.1 := hw.1
                      have he5004 : (eL 1 1 L).1 = L.1 + 1 := rfl
                      refine ww_cV0 (M := m_X11_readUnit) (pc := 149) (h1 := mrS (mwS h m (eL 1 1 W)) m n a5002 (-1) bk op) (st := []) (d := (d)) (bc := 0) (bs := 0) (c_Mw_emit_t hst hM htf hB hn W (by omega) a5002 bk op 1 1) vv_X11_emit dX11_readUnit_149 wg_1495 ((mwS_M hM W).K0) rfl rfl rfl rfl (by omega) (Nat.le_of_ble_eq_true rfl) (Nat.le_of_ble_eq_true rfl) (Nat.le_of_ble_eq_true rfl) ?_
                      exact ww_vret dX11_readUnit_152 rfl ⟨rfl, (by rw [unitF_w (fun _ => ⟨fun e => (by have e9 := dgC_t.mpr e; rw [c52] at e9; cases e9), c14⟩), hr5002, bS_r, if_neg (by decide)]; exact ⟨_, (MwR.e hw (k := 1) (by decide) 1), rfl⟩)⟩
                    · exact absurd c138 (by decide)
                  · exact absurd c122 (by decide)
                · exact absurd c102 (by decide)
              · exact absurd c80 (by decide)
            · have hw5002 : wdA T n (sk T n a) = 23609 := by
                obtain ⟨i, hi, hw⟩ := wM_r (by omega) wLaw_x (by decide) hr5002
                have e := Option.some.inj (show some 13 = some i from hi)
                rw [← e] at hw
                exact hw.trans (by decide +kernel)
              refine ww_cVr (M := m_X11_readUnit) (pc := 72) (v := .int (nI 23609)) (h1 := mrS (mwS h m W) m n (sk T n a) (-1) bk op) (st := []) (d := (d)) (bc := 0) (bs := 0) (c_MR_word_i hst (mwS_M hM W) (mwS_t (W := W) htf) hB hn (-1) bk op (sk T n a) (by omega) (sk_id (by omega)) hw5002) vv_X11_word dX11_readUnit_72 wg_1433 ((mwS_M hM W).K0) rfl rfl rfl rfl (by omega) (Nat.le_of_ble_eq_true rfl) (Nat.le_of_ble_eq_true rfl) (Nat.le_of_ble_eq_true rfl) ?_
              refine ww_ldcS (i := 9) dX11_readUnit_75 rfl ?_
              refine ww_cSr (M := m_X11_readUnit) (pc := 77) (v := .int (nI 12748404)) (h1 := mrS (mwS h m W) m n (sk T n a) (-1) bk op) (st := [.int (nI 23609)]) (d := (d)) (bc := 0) (bs := 0) (c_of_9 hst (mrS (mwS h m W) m n (sk T n a) (-1) bk op)) vv_X11_of dX11_readUnit_77 wg_1441 rfl rfl rfl (by omega) (Nat.le_of_ble_eq_true rfl) (Nat.le_of_ble_eq_true rfl) (Nat.le_of_ble_eq_true rfl) ?_
              refine ww_icmp_neN (tgt := 93) dX11_readUnit_80 (by decide) (by omega) (by omega) (fun c80 => ?_) (fun c80 => ?_)
              · refine ww_aload_n dX11_readUnit_93 rfl rfl ?_
                refine ww_cVr (M := m_X11_readUnit) (pc := 94) (v := .int (nI 23609)) (h1 := mrS (mwS h m W) m n (sk T n a) (-1) bk op) (st := []) (d := (d)) (bc := 0) (bs := 0) (c_MR_word_i hst (mwS_M hM W) (mwS_t (W := W) htf) hB hn (-1) bk op (sk T n a) (by omega) (sk_id (by omega)) hw5002) vv_X11_word dX11_readUnit_94 wg_1433 ((mwS_M hM W).K0) rfl rfl rfl rfl (by omega) (Nat.le_of_ble_eq_true rfl) (Nat.le_of_ble_eq_true rfl) (Nat.le_of_ble_eq_true rfl) ?_
                refine ww_ldcS (i := 10) dX11_readUnit_97 rfl ?_
                refine ww_cSr (M := m_X11_readUnit) (pc := 99) (v := .int (nI 441972)) (h1 := mrS (mwS h m W) m n (sk T n a) (-1) bk op) (st := [.int (nI 23609)]) (d := (d)) (bc := 0) (bs := 0) (c_of_10 hst (mrS (mwS h m W) m n (sk T n a) (-1) bk op)) vv_X11_of dX11_readUnit_99 wg_1441 rfl rfl rfl (by omega) (Nat.le_of_ble_eq_true rfl) (Nat.le_of_ble_eq_true rfl) (Nat.le_of_ble_eq_true rfl) ?_
                refine ww_icmp_neN (tgt := 115) dX11_readUnit_102 (by decide) (by omega) (by omega) (fun c102 => ?_) (fun c102 => ?_)
                · refine ww_aload_n dX11_readUnit_115 rfl rfl ?_
                  refine ww_cVr (M := m_X11_readUnit) (pc := 116) (v := .int (nI 2)) (h1 := mrS (mwS h m W) m n (sk T n a) (-1) bk op) (st := []) (d := (d)) (bc := 0) (bs := 0) (c_Mw_fact2 hst hM htf hB hn W (sk T n a) (-1) bk op (by omega) (sk_id (by omega)) hw5002) vv_X11_factHere dX11_readUnit_116 wg_1505 ((mwS_M hM W).K0) rfl rfl rfl rfl (by omega) (Nat.le_of_ble_eq_true rfl) (Nat.le_of_ble_eq_true rfl) (Nat.le_of_ble_eq_true rfl) ?_
                  refine ww_sti_n (lv2 := [.ref m, .int (nI 2)]) dX11_readUnit_119 rfl rfl (by decide) rfl ?_
                  refine ww_iload_n dX11_readUnit_120 rfl rfl ?_
                  refine ww_iconst (v := -1) dX11_readUnit_121 (by decide) ?_
                  refine ww_icmp_ne (tgt := 134) dX11_readUnit_122 (by decide) (fun c122 => ?_) (fun c122 => ?_)
                  · refine ww_aload_n dX11_readUnit_134 rfl rfl ?_
                    refine ww_cVr (M := m_X11_readUnit) (pc := 135) (v := .int (nI 1)) (h1 := mrS (mwS h m W) m n (sk T n a) (-1) bk op) (st := []) (d := (d)) (bc := 0) (bs := 0) (c_MR_fine_t hst (mwS_M hM W) (mwS_t (W := W) htf) hB hn (sk T n a) bk op) vv_X11_fine dX11_readUnit_135 wg_1421 ((mwS_M hM W).K0) rfl rfl rfl rfl (by omega) (Nat.le_of_ble_eq_true rfl) (Nat.le_of_ble_eq_true rfl) (Nat.le_of_ble_eq_true rfl) ?_
                    refine ww_if_neN (tgt := 142) dX11_readUnit_138 (by decide) (by omega) (fun c138 => ?_) (fun c138 => ?_)
                    · refine ww_aload_n dX11_readUnit_142 rfl rfl ?_
                      refine ww_cV0 (M := m_X11_readUnit) (pc := 143) (h1 := mrS (mwS h m W) m n a5002 (-1) bk op) (st := []) (d := (d)) (bc := 0) (bs := 0) (c_MR_pass_e hst (mwS_M hM W) (mwS_t (W := W) htf) hB hn (-1) bk op (sk T n a) (by omega) (hz5002.trans (by rw [sk_id (by omega)]))) vv_X11_pass dX11_readUnit_143 wg_1452 ((mwS_M hM W).K0) rfl rfl rfl rfl (by omega) (Nat.le_of_ble_eq_true rfl) (Nat.le_of_ble_eq_true rfl) (Nat.le_of_ble_eq_true rfl) ?_
                      refine ww_aload_n dX11_readUnit_146 rfl rfl ?_
                      refine ww_iconst (v := nI 1) dX11_readUnit_147 (by decide) ?_
                      refine ww_iload_n dX11_readUnit_148 rfl rfl ?_
                      have hW5005 : W.1 = L.1 := hw.1
                      have he5005 : (eL 1 2 L).1 = L.1 + 1 := rfl
                      refine ww_cV0 (M := m_X11_readUnit) (pc := 149) (h1 := mrS (mwS h m (eL 1 2 W)) m n a5002 (-1) bk op) (st := []) (d := (d)) (bc := 0) (bs := 0) (c_Mw_emit_t hst hM htf hB hn W (by omega) a5002 bk op 1 2) vv_X11_emit dX11_readUnit_149 wg_1495 ((mwS_M hM W).K0) rfl rfl rfl rfl (by omega) (Nat.le_of_ble_eq_true rfl) (Nat.le_of_ble_eq_true rfl) (Nat.le_of_ble_eq_true rfl) ?_
                      exact ww_vret dX11_readUnit_152 rfl ⟨rfl, (by rw [unitF_w (fun _ => ⟨fun e => (by have e9 := dgC_t.mpr e; rw [c52] at e9; cases e9), c14⟩), hr5002, bS_r, if_neg (by decide)]; exact ⟨_, (MwR.e hw (k := 1) (by decide) 2), rfl⟩)⟩
                    · exact absurd c138 (by decide)
                  · exact absurd c122 (by decide)
                · exact absurd c102 (by decide)
              · exact absurd c80 (by decide)
            · have hw5002 : wdA T n (sk T n a) = 16496818 := by
                obtain ⟨i, hi, hw⟩ := wM_r (by omega) wLaw_x (by decide) hr5002
                have e := Option.some.inj (show some 14 = some i from hi)
                rw [← e] at hw
                exact hw.trans (by decide +kernel)
              refine ww_cVr (M := m_X11_readUnit) (pc := 72) (v := .int (nI 16496818)) (h1 := mrS (mwS h m W) m n (sk T n a) (-1) bk op) (st := []) (d := (d)) (bc := 0) (bs := 0) (c_MR_word_i hst (mwS_M hM W) (mwS_t (W := W) htf) hB hn (-1) bk op (sk T n a) (by omega) (sk_id (by omega)) hw5002) vv_X11_word dX11_readUnit_72 wg_1433 ((mwS_M hM W).K0) rfl rfl rfl rfl (by omega) (Nat.le_of_ble_eq_true rfl) (Nat.le_of_ble_eq_true rfl) (Nat.le_of_ble_eq_true rfl) ?_
              refine ww_ldcS (i := 9) dX11_readUnit_75 rfl ?_
              refine ww_cSr (M := m_X11_readUnit) (pc := 77) (v := .int (nI 12748404)) (h1 := mrS (mwS h m W) m n (sk T n a) (-1) bk op) (st := [.int (nI 16496818)]) (d := (d)) (bc := 0) (bs := 0) (c_of_9 hst (mrS (mwS h m W) m n (sk T n a) (-1) bk op)) vv_X11_of dX11_readUnit_77 wg_1441 rfl rfl rfl (by omega) (Nat.le_of_ble_eq_true rfl) (Nat.le_of_ble_eq_true rfl) (Nat.le_of_ble_eq_true rfl) ?_
              refine ww_icmp_neN (tgt := 93) dX11_readUnit_80 (by decide) (by omega) (by omega) (fun c80 => ?_) (fun c80 => ?_)
              · refine ww_aload_n dX11_readUnit_93 rfl rfl ?_
                refine ww_cVr (M := m_X11_readUnit) (pc := 94) (v := .int (nI 16496818)) (h1 := mrS (mwS h m W) m n (sk T n a) (-1) bk op) (st := []) (d := (d)) (bc := 0) (bs := 0) (c_MR_word_i hst (mwS_M hM W) (mwS_t (W := W) htf) hB hn (-1) bk op (sk T n a) (by omega) (sk_id (by omega)) hw5002) vv_X11_word dX11_readUnit_94 wg_1433 ((mwS_M hM W).K0) rfl rfl rfl rfl (by omega) (Nat.le_of_ble_eq_true rfl) (Nat.le_of_ble_eq_true rfl) (Nat.le_of_ble_eq_true rfl) ?_
                refine ww_ldcS (i := 10) dX11_readUnit_97 rfl ?_
                refine ww_cSr (M := m_X11_readUnit) (pc := 99) (v := .int (nI 441972)) (h1 := mrS (mwS h m W) m n (sk T n a) (-1) bk op) (st := [.int (nI 16496818)]) (d := (d)) (bc := 0) (bs := 0) (c_of_10 hst (mrS (mwS h m W) m n (sk T n a) (-1) bk op)) vv_X11_of dX11_readUnit_99 wg_1441 rfl rfl rfl (by omega) (Nat.le_of_ble_eq_true rfl) (Nat.le_of_ble_eq_true rfl) (Nat.le_of_ble_eq_true rfl) ?_
                refine ww_icmp_neN (tgt := 115) dX11_readUnit_102 (by decide) (by omega) (by omega) (fun c102 => ?_) (fun c102 => ?_)
                · refine ww_aload_n dX11_readUnit_115 rfl rfl ?_
                  refine ww_cVr (M := m_X11_readUnit) (pc := 116) (v := .int (nI 3)) (h1 := mrS (mwS h m W) m n (sk T n a) (-1) bk op) (st := []) (d := (d)) (bc := 0) (bs := 0) (c_Mw_fact3 hst hM htf hB hn W (sk T n a) (-1) bk op (by omega) (sk_id (by omega)) hw5002) vv_X11_factHere dX11_readUnit_116 wg_1505 ((mwS_M hM W).K0) rfl rfl rfl rfl (by omega) (Nat.le_of_ble_eq_true rfl) (Nat.le_of_ble_eq_true rfl) (Nat.le_of_ble_eq_true rfl) ?_
                  refine ww_sti_n (lv2 := [.ref m, .int (nI 3)]) dX11_readUnit_119 rfl rfl (by decide) rfl ?_
                  refine ww_iload_n dX11_readUnit_120 rfl rfl ?_
                  refine ww_iconst (v := -1) dX11_readUnit_121 (by decide) ?_
                  refine ww_icmp_ne (tgt := 134) dX11_readUnit_122 (by decide) (fun c122 => ?_) (fun c122 => ?_)
                  · refine ww_aload_n dX11_readUnit_134 rfl rfl ?_
                    refine ww_cVr (M := m_X11_readUnit) (pc := 135) (v := .int (nI 1)) (h1 := mrS (mwS h m W) m n (sk T n a) (-1) bk op) (st := []) (d := (d)) (bc := 0) (bs := 0) (c_MR_fine_t hst (mwS_M hM W) (mwS_t (W := W) htf) hB hn (sk T n a) bk op) vv_X11_fine dX11_readUnit_135 wg_1421 ((mwS_M hM W).K0) rfl rfl rfl rfl (by omega) (Nat.le_of_ble_eq_true rfl) (Nat.le_of_ble_eq_true rfl) (Nat.le_of_ble_eq_true rfl) ?_
                    refine ww_if_neN (tgt := 142) dX11_readUnit_138 (by decide) (by omega) (fun c138 => ?_) (fun c138 => ?_)
                    · refine ww_aload_n dX11_readUnit_142 rfl rfl ?_
                      refine ww_cV0 (M := m_X11_readUnit) (pc := 143) (h1 := mrS (mwS h m W) m n a5002 (-1) bk op) (st := []) (d := (d)) (bc := 0) (bs := 0) (c_MR_pass_e hst (mwS_M hM W) (mwS_t (W := W) htf) hB hn (-1) bk op (sk T n a) (by omega) (hz5002.trans (by rw [sk_id (by omega)]))) vv_X11_pass dX11_readUnit_143 wg_1452 ((mwS_M hM W).K0) rfl rfl rfl rfl (by omega) (Nat.le_of_ble_eq_true rfl) (Nat.le_of_ble_eq_true rfl) (Nat.le_of_ble_eq_true rfl) ?_
                      refine ww_aload_n dX11_readUnit_146 rfl rfl ?_
                      refine ww_iconst (v := nI 1) dX11_readUnit_147 (by decide) ?_
                      refine ww_iload_n dX11_readUnit_148 rfl rfl ?_
                      have hW5006 : W.1 = L.1 := hw.1
                      have he5006 : (eL 1 3 L).1 = L.1 + 1 := rfl
                      refine ww_cV0 (M := m_X11_readUnit) (pc := 149) (h1 := mrS (mwS h m (eL 1 3 W)) m n a5002 (-1) bk op) (st := []) (d := (d)) (bc := 0) (bs := 0) (c_Mw_emit_t hst hM htf hB hn W (by omega) a5002 bk op 1 3) vv_X11_emit dX11_readUnit_149 wg_1495 ((mwS_M hM W).K0) rfl rfl rfl rfl (by omega) (Nat.le_of_ble_eq_true rfl) (Nat.le_of_ble_eq_true rfl) (Nat.le_of_ble_eq_true rfl) ?_
                      exact ww_vret dX11_readUnit_152 rfl ⟨rfl, (by rw [unitF_w (fun _ => ⟨fun e => (by have e9 := dgC_t.mpr e; rw [c52] at e9; cases e9), c14⟩), hr5002, bS_r, if_neg (by decide)]; exact ⟨_, (MwR.e hw (k := 1) (by decide) 3), rfl⟩)⟩
                    · exact absurd c138 (by decide)
                  · exact absurd c122 (by decide)
                · exact absurd c102 (by decide)
              · exact absurd c80 (by decide)
            · have hw5002 : wdA T n (sk T n a) = 16829075 := by
                obtain ⟨i, hi, hw⟩ := wM_r (by omega) wLaw_x (by decide) hr5002
                have e := Option.some.inj (show some 15 = some i from hi)
                rw [← e] at hw
                exact hw.trans (by decide +kernel)
              refine ww_cVr (M := m_X11_readUnit) (pc := 72) (v := .int (nI 16829075)) (h1 := mrS (mwS h m W) m n (sk T n a) (-1) bk op) (st := []) (d := (d)) (bc := 0) (bs := 0) (c_MR_word_i hst (mwS_M hM W) (mwS_t (W := W) htf) hB hn (-1) bk op (sk T n a) (by omega) (sk_id (by omega)) hw5002) vv_X11_word dX11_readUnit_72 wg_1433 ((mwS_M hM W).K0) rfl rfl rfl rfl (by omega) (Nat.le_of_ble_eq_true rfl) (Nat.le_of_ble_eq_true rfl) (Nat.le_of_ble_eq_true rfl) ?_
              refine ww_ldcS (i := 9) dX11_readUnit_75 rfl ?_
              refine ww_cSr (M := m_X11_readUnit) (pc := 77) (v := .int (nI 12748404)) (h1 := mrS (mwS h m W) m n (sk T n a) (-1) bk op) (st := [.int (nI 16829075)]) (d := (d)) (bc := 0) (bs := 0) (c_of_9 hst (mrS (mwS h m W) m n (sk T n a) (-1) bk op)) vv_X11_of dX11_readUnit_77 wg_1441 rfl rfl rfl (by omega) (Nat.le_of_ble_eq_true rfl) (Nat.le_of_ble_eq_true rfl) (Nat.le_of_ble_eq_true rfl) ?_
              refine ww_icmp_neN (tgt := 93) dX11_readUnit_80 (by decide) (by omega) (by omega) (fun c80 => ?_) (fun c80 => ?_)
              · refine ww_aload_n dX11_readUnit_93 rfl rfl ?_
                refine ww_cVr (M := m_X11_readUnit) (pc := 94) (v := .int (nI 16829075)) (h1 := mrS (mwS h m W) m n (sk T n a) (-1) bk op) (st := []) (d := (d)) (bc := 0) (bs := 0) (c_MR_word_i hst (mwS_M hM W) (mwS_t (W := W) htf) hB hn (-1) bk op (sk T n a) (by omega) (sk_id (by omega)) hw5002) vv_X11_word dX11_readUnit_94 wg_1433 ((mwS_M hM W).K0) rfl rfl rfl rfl (by omega) (Nat.le_of_ble_eq_true rfl) (Nat.le_of_ble_eq_true rfl) (Nat.le_of_ble_eq_true rfl) ?_
                refine ww_ldcS (i := 10) dX11_readUnit_97 rfl ?_
                refine ww_cSr (M := m_X11_readUnit) (pc := 99) (v := .int (nI 441972)) (h1 := mrS (mwS h m W) m n (sk T n a) (-1) bk op) (st := [.int (nI 16829075)]) (d := (d)) (bc := 0) (bs := 0) (c_of_10 hst (mrS (mwS h m W) m n (sk T n a) (-1) bk op)) vv_X11_of dX11_readUnit_99 wg_1441 rfl rfl rfl (by omega) (Nat.le_of_ble_eq_true rfl) (Nat.le_of_ble_eq_true rfl) (Nat.le_of_ble_eq_true rfl) ?_
                refine ww_icmp_neN (tgt := 115) dX11_readUnit_102 (by decide) (by omega) (by omega) (fun c102 => ?_) (fun c102 => ?_)
                · refine ww_aload_n dX11_readUnit_115 rfl rfl ?_
                  refine ww_cVr (M := m_X11_readUnit) (pc := 116) (v := .int (nI 4)) (h1 := mrS (mwS h m W) m n (sk T n a) (-1) bk op) (st := []) (d := (d)) (bc := 0) (bs := 0) (c_Mw_fact4 hst hM htf hB hn W (sk T n a) (-1) bk op (by omega) (sk_id (by omega)) hw5002) vv_X11_factHere dX11_readUnit_116 wg_1505 ((mwS_M hM W).K0) rfl rfl rfl rfl (by omega) (Nat.le_of_ble_eq_true rfl) (Nat.le_of_ble_eq_true rfl) (Nat.le_of_ble_eq_true rfl) ?_
                  refine ww_sti_n (lv2 := [.ref m, .int (nI 4)]) dX11_readUnit_119 rfl rfl (by decide) rfl ?_
                  refine ww_iload_n dX11_readUnit_120 rfl rfl ?_
                  refine ww_iconst (v := -1) dX11_readUnit_121 (by decide) ?_
                  refine ww_icmp_ne (tgt := 134) dX11_readUnit_122 (by decide) (fun c122 => ?_) (fun c122 => ?_)
                  · refine ww_aload_n dX11_readUnit_134 rfl rfl ?_
                    refine ww_cVr (M := m_X11_readUnit) (pc := 135) (v := .int (nI 1)) (h1 := mrS (mwS h m W) m n (sk T n a) (-1) bk op) (st := []) (d := (d)) (bc := 0) (bs := 0) (c_MR_fine_t hst (mwS_M hM W) (mwS_t (W := W) htf) hB hn (sk T n a) bk op) vv_X11_fine dX11_readUnit_135 wg_1421 ((mwS_M hM W).K0) rfl rfl rfl rfl (by omega) (Nat.le_of_ble_eq_true rfl) (Nat.le_of_ble_eq_true rfl) (Nat.le_of_ble_eq_true rfl) ?_
                    refine ww_if_neN (tgt := 142) dX11_readUnit_138 (by decide) (by omega) (fun c138 => ?_) (fun c138 => ?_)
                    · refine ww_aload_n dX11_readUnit_142 rfl rfl ?_
                      refine ww_cV0 (M := m_X11_readUnit) (pc := 143) (h1 := mrS (mwS h m W) m n a5002 (-1) bk op) (st := []) (d := (d)) (bc := 0) (bs := 0) (c_MR_pass_e hst (mwS_M hM W) (mwS_t (W := W) htf) hB hn (-1) bk op (sk T n a) (by omega) (hz5002.trans (by rw [sk_id (by omega)]))) vv_X11_pass dX11_readUnit_143 wg_1452 ((mwS_M hM W).K0) rfl rfl rfl rfl (by omega) (Nat.le_of_ble_eq_true rfl) (Nat.le_of_ble_eq_true rfl) (Nat.le_of_ble_eq_true rfl) ?_
                      refine ww_aload_n dX11_readUnit_146 rfl rfl ?_
                      refine ww_iconst (v := nI 1) dX11_readUnit_147 (by decide) ?_
                      refine ww_iload_n dX11_readUnit_148 rfl rfl ?_
                      have hW5007 : W.1 = L.1 := hw.1
                      have he5007 : (eL 1 4 L).1 = L.1 + 1 := rfl
                      refine ww_cV0 (M := m_X11_readUnit) (pc := 149) (h1 := mrS (mwS h m (eL 1 4 W)) m n a5002 (-1) bk op) (st := []) (d := (d)) (bc := 0) (bs := 0) (c_Mw_emit_t hst hM htf hB hn W (by omega) a5002 bk op 1 4) vv_X11_emit dX11_readUnit_149 wg_1495 ((mwS_M hM W).K0) rfl rfl rfl rfl (by omega) (Nat.le_of_ble_eq_true rfl) (Nat.le_of_ble_eq_true rfl) (Nat.le_of_ble_eq_true rfl) ?_
                      exact ww_vret dX11_readUnit_152 rfl ⟨rfl, (by rw [unitF_w (fun _ => ⟨fun e => (by have e9 := dgC_t.mpr e; rw [c52] at e9; cases e9), c14⟩), hr5002, bS_r, if_neg (by decide)]; exact ⟨_, (MwR.e hw (k := 1) (by decide) 4), rfl⟩)⟩
                    · exact absurd c138 (by decide)
                  · exact absurd c122 (by decide)
                · exact absurd c102 (by decide)
              · exact absurd c80 (by decide)
            · have hw5002 : wdA T n (sk T n a) = 707748 := by
                obtain ⟨i, hi, hw⟩ := wM_r (by omega) wLaw_x (by decide) hr5002
                have e := Option.some.inj (show some 16 = some i from hi)
                rw [← e] at hw
                exact hw.trans (by decide +kernel)
              refine ww_cVr (M := m_X11_readUnit) (pc := 72) (v := .int (nI 707748)) (h1 := mrS (mwS h m W) m n (sk T n a) (-1) bk op) (st := []) (d := (d)) (bc := 0) (bs := 0) (c_MR_word_i hst (mwS_M hM W) (mwS_t (W := W) htf) hB hn (-1) bk op (sk T n a) (by omega) (sk_id (by omega)) hw5002) vv_X11_word dX11_readUnit_72 wg_1433 ((mwS_M hM W).K0) rfl rfl rfl rfl (by omega) (Nat.le_of_ble_eq_true rfl) (Nat.le_of_ble_eq_true rfl) (Nat.le_of_ble_eq_true rfl) ?_
              refine ww_ldcS (i := 9) dX11_readUnit_75 rfl ?_
              refine ww_cSr (M := m_X11_readUnit) (pc := 77) (v := .int (nI 12748404)) (h1 := mrS (mwS h m W) m n (sk T n a) (-1) bk op) (st := [.int (nI 707748)]) (d := (d)) (bc := 0) (bs := 0) (c_of_9 hst (mrS (mwS h m W) m n (sk T n a) (-1) bk op)) vv_X11_of dX11_readUnit_77 wg_1441 rfl rfl rfl (by omega) (Nat.le_of_ble_eq_true rfl) (Nat.le_of_ble_eq_true rfl) (Nat.le_of_ble_eq_true rfl) ?_
              refine ww_icmp_neN (tgt := 93) dX11_readUnit_80 (by decide) (by omega) (by omega) (fun c80 => ?_) (fun c80 => ?_)
              · refine ww_aload_n dX11_readUnit_93 rfl rfl ?_
                refine ww_cVr (M := m_X11_readUnit) (pc := 94) (v := .int (nI 707748)) (h1 := mrS (mwS h m W) m n (sk T n a) (-1) bk op) (st := []) (d := (d)) (bc := 0) (bs := 0) (c_MR_word_i hst (mwS_M hM W) (mwS_t (W := W) htf) hB hn (-1) bk op (sk T n a) (by omega) (sk_id (by omega)) hw5002) vv_X11_word dX11_readUnit_94 wg_1433 ((mwS_M hM W).K0) rfl rfl rfl rfl (by omega) (Nat.le_of_ble_eq_true rfl) (Nat.le_of_ble_eq_true rfl) (Nat.le_of_ble_eq_true rfl) ?_
                refine ww_ldcS (i := 10) dX11_readUnit_97 rfl ?_
                refine ww_cSr (M := m_X11_readUnit) (pc := 99) (v := .int (nI 441972)) (h1 := mrS (mwS h m W) m n (sk T n a) (-1) bk op) (st := [.int (nI 707748)]) (d := (d)) (bc := 0) (bs := 0) (c_of_10 hst (mrS (mwS h m W) m n (sk T n a) (-1) bk op)) vv_X11_of dX11_readUnit_99 wg_1441 rfl rfl rfl (by omega) (Nat.le_of_ble_eq_true rfl) (Nat.le_of_ble_eq_true rfl) (Nat.le_of_ble_eq_true rfl) ?_
                refine ww_icmp_neN (tgt := 115) dX11_readUnit_102 (by decide) (by omega) (by omega) (fun c102 => ?_) (fun c102 => ?_)
                · refine ww_aload_n dX11_readUnit_115 rfl rfl ?_
                  refine ww_cVr (M := m_X11_readUnit) (pc := 116) (v := .int (nI 5)) (h1 := mrS (mwS h m W) m n (sk T n a) (-1) bk op) (st := []) (d := (d)) (bc := 0) (bs := 0) (c_Mw_fact5 hst hM htf hB hn W (sk T n a) (-1) bk op (by omega) (sk_id (by omega)) hw5002) vv_X11_factHere dX11_readUnit_116 wg_1505 ((mwS_M hM W).K0) rfl rfl rfl rfl (by omega) (Nat.le_of_ble_eq_true rfl) (Nat.le_of_ble_eq_true rfl) (Nat.le_of_ble_eq_true rfl) ?_
                  refine ww_sti_n (lv2 := [.ref m, .int (nI 5)]) dX11_readUnit_119 rfl rfl (by decide) rfl ?_
                  refine ww_iload_n dX11_readUnit_120 rfl rfl ?_
                  refine ww_iconst (v := -1) dX11_readUnit_121 (by decide) ?_
                  refine ww_icmp_ne (tgt := 134) dX11_readUnit_122 (by decide) (fun c122 => ?_) (fun c122 => ?_)
                  · refine ww_aload_n dX11_readUnit_134 rfl rfl ?_
                    refine ww_cVr (M := m_X11_readUnit) (pc := 135) (v := .int (nI 1)) (h1 := mrS (mwS h m W) m n (sk T n a) (-1) bk op) (st := []) (d := (d)) (bc := 0) (bs := 0) (c_MR_fine_t hst (mwS_M hM W) (mwS_t (W := W) htf) hB hn (sk T n a) bk op) vv_X11_fine dX11_readUnit_135 wg_1421 ((mwS_M hM W).K0) rfl rfl rfl rfl (by omega) (Nat.le_of_ble_eq_true rfl) (Nat.le_of_ble_eq_true rfl) (Nat.le_of_ble_eq_true rfl) ?_
                    refine ww_if_neN (tgt := 142) dX11_readUnit_138 (by decide) (by omega) (fun c138 => ?_) (fun c138 => ?_)
                    · refine ww_aload_n dX11_readUnit_142 rfl rfl ?_
                      refine ww_cV0 (M := m_X11_readUnit) (pc := 143) (h1 := mrS (mwS h m W) m n a5002 (-1) bk op) (st := []) (d := (d)) (bc := 0) (bs := 0) (c_MR_pass_e hst (mwS_M hM W) (mwS_t (W := W) htf) hB hn (-1) bk op (sk T n a) (by omega) (hz5002.trans (by rw [sk_id (by omega)]))) vv_X11_pass dX11_readUnit_143 wg_1452 ((mwS_M hM W).K0) rfl rfl rfl rfl (by omega) (Nat.le_of_ble_eq_true rfl) (Nat.le_of_ble_eq_true rfl) (Nat.le_of_ble_eq_true rfl) ?_
                      refine ww_aload_n dX11_readUnit_146 rfl rfl ?_
                      refine ww_iconst (v := nI 1) dX11_readUnit_147 (by decide) ?_
                      refine ww_iload_n dX11_readUnit_148 rfl rfl ?_
                      have hW5008 : W.1 = L.1 := hw.1
                      have he5008 : (eL 1 5 L).1 = L.1 + 1 := rfl
                      refine ww_cV0 (M := m_X11_readUnit) (pc := 149) (h1 := mrS (mwS h m (eL 1 5 W)) m n a5002 (-1) bk op) (st := []) (d := (d)) (bc := 0) (bs := 0) (c_Mw_emit_t hst hM htf hB hn W (by omega) a5002 bk op 1 5) vv_X11_emit dX11_readUnit_149 wg_1495 ((mwS_M hM W).K0) rfl rfl rfl rfl (by omega) (Nat.le_of_ble_eq_true rfl) (Nat.le_of_ble_eq_true rfl) (Nat.le_of_ble_eq_true rfl) ?_
                      exact ww_vret dX11_readUnit_152 rfl ⟨rfl, (by rw [unitF_w (fun _ => ⟨fun e => (by have e9 := dgC_t.mpr e; rw [c52] at e9; cases e9), c14⟩), hr5002, bS_r, if_neg (by decide)]; exact ⟨_, (MwR.e hw (k := 1) (by decide) 5), rfl⟩)⟩
                    · exact absurd c138 (by decide)
                  · exact absurd c122 (by decide)
                · exact absurd c102 (by decide)
              · exact absurd c80 (by decide)
            · have hw5002 : wdA T n (sk T n a) = 4153 := by
                obtain ⟨i, hi, hw⟩ := wM_r (by omega) wLaw_x (by decide) hr5002
                have e := Option.some.inj (show some 17 = some i from hi)
                rw [← e] at hw
                exact hw.trans (by decide +kernel)
              refine ww_cVr (M := m_X11_readUnit) (pc := 72) (v := .int (nI 4153)) (h1 := mrS (mwS h m W) m n (sk T n a) (-1) bk op) (st := []) (d := (d)) (bc := 0) (bs := 0) (c_MR_word_i hst (mwS_M hM W) (mwS_t (W := W) htf) hB hn (-1) bk op (sk T n a) (by omega) (sk_id (by omega)) hw5002) vv_X11_word dX11_readUnit_72 wg_1433 ((mwS_M hM W).K0) rfl rfl rfl rfl (by omega) (Nat.le_of_ble_eq_true rfl) (Nat.le_of_ble_eq_true rfl) (Nat.le_of_ble_eq_true rfl) ?_
              refine ww_ldcS (i := 9) dX11_readUnit_75 rfl ?_
              refine ww_cSr (M := m_X11_readUnit) (pc := 77) (v := .int (nI 12748404)) (h1 := mrS (mwS h m W) m n (sk T n a) (-1) bk op) (st := [.int (nI 4153)]) (d := (d)) (bc := 0) (bs := 0) (c_of_9 hst (mrS (mwS h m W) m n (sk T n a) (-1) bk op)) vv_X11_of dX11_readUnit_77 wg_1441 rfl rfl rfl (by omega) (Nat.le_of_ble_eq_true rfl) (Nat.le_of_ble_eq_true rfl) (Nat.le_of_ble_eq_true rfl) ?_
              refine ww_icmp_neN (tgt := 93) dX11_readUnit_80 (by decide) (by omega) (by omega) (fun c80 => ?_) (fun c80 => ?_)
              · refine ww_aload_n dX11_readUnit_93 rfl rfl ?_
                refine ww_cVr (M := m_X11_readUnit) (pc := 94) (v := .int (nI 4153)) (h1 := mrS (mwS h m W) m n (sk T n a) (-1) bk op) (st := []) (d := (d)) (bc := 0) (bs := 0) (c_MR_word_i hst (mwS_M hM W) (mwS_t (W := W) htf) hB hn (-1) bk op (sk T n a) (by omega) (sk_id (by omega)) hw5002) vv_X11_word dX11_readUnit_94 wg_1433 ((mwS_M hM W).K0) rfl rfl rfl rfl (by omega) (Nat.le_of_ble_eq_true rfl) (Nat.le_of_ble_eq_true rfl) (Nat.le_of_ble_eq_true rfl) ?_
                refine ww_ldcS (i := 10) dX11_readUnit_97 rfl ?_
                refine ww_cSr (M := m_X11_readUnit) (pc := 99) (v := .int (nI 441972)) (h1 := mrS (mwS h m W) m n (sk T n a) (-1) bk op) (st := [.int (nI 4153)]) (d := (d)) (bc := 0) (bs := 0) (c_of_10 hst (mrS (mwS h m W) m n (sk T n a) (-1) bk op)) vv_X11_of dX11_readUnit_99 wg_1441 rfl rfl rfl (by omega) (Nat.le_of_ble_eq_true rfl) (Nat.le_of_ble_eq_true rfl) (Nat.le_of_ble_eq_true rfl) ?_
                refine ww_icmp_neN (tgt := 115) dX11_readUnit_102 (by decide) (by omega) (by omega) (fun c102 => ?_) (fun c102 => ?_)
                · refine ww_aload_n dX11_readUnit_115 rfl rfl ?_
                  refine ww_cVr (M := m_X11_readUnit) (pc := 116) (v := .int (nI 6)) (h1 := mrS (mwS h m W) m n (sk T n a) (-1) bk op) (st := []) (d := (d)) (bc := 0) (bs := 0) (c_Mw_fact6 hst hM htf hB hn W (sk T n a) (-1) bk op (by omega) (sk_id (by omega)) hw5002) vv_X11_factHere dX11_readUnit_116 wg_1505 ((mwS_M hM W).K0) rfl rfl rfl rfl (by omega) (Nat.le_of_ble_eq_true rfl) (Nat.le_of_ble_eq_true rfl) (Nat.le_of_ble_eq_true rfl) ?_
                  refine ww_sti_n (lv2 := [.ref m, .int (nI 6)]) dX11_readUnit_119 rfl rfl (by decide) rfl ?_
                  refine ww_iload_n dX11_readUnit_120 rfl rfl ?_
                  refine ww_iconst (v := -1) dX11_readUnit_121 (by decide) ?_
                  refine ww_icmp_ne (tgt := 134) dX11_readUnit_122 (by decide) (fun c122 => ?_) (fun c122 => ?_)
                  · refine ww_aload_n dX11_readUnit_134 rfl rfl ?_
                    refine ww_cVr (M := m_X11_readUnit) (pc := 135) (v := .int (nI 1)) (h1 := mrS (mwS h m W) m n (sk T n a) (-1) bk op) (st := []) (d := (d)) (bc := 0) (bs := 0) (c_MR_fine_t hst (mwS_M hM W) (mwS_t (W := W) htf) hB hn (sk T n a) bk op) vv_X11_fine dX11_readUnit_135 wg_1421 ((mwS_M hM W).K0) rfl rfl rfl rfl (by omega) (Nat.le_of_ble_eq_true rfl) (Nat.le_of_ble_eq_true rfl) (Nat.le_of_ble_eq_true rfl) ?_
                    refine ww_if_neN (tgt := 142) dX11_readUnit_138 (by decide) (by omega) (fun c138 => ?_) (fun c138 => ?_)
                    · refine ww_aload_n dX11_readUnit_142 rfl rfl ?_
                      refine ww_cV0 (M := m_X11_readUnit) (pc := 143) (h1 := mrS (mwS h m W) m n a5002 (-1) bk op) (st := []) (d := (d)) (bc := 0) (bs := 0) (c_MR_pass_e hst (mwS_M hM W) (mwS_t (W := W) htf) hB hn (-1) bk op (sk T n a) (by omega) (hz5002.trans (by rw [sk_id (by omega)]))) vv_X11_pass dX11_readUnit_143 wg_1452 ((mwS_M hM W).K0) rfl rfl rfl rfl (by omega) (Nat.le_of_ble_eq_true rfl) (Nat.le_of_ble_eq_true rfl) (Nat.le_of_ble_eq_true rfl) ?_
                      refine ww_aload_n dX11_readUnit_146 rfl rfl ?_
                      refine ww_iconst (v := nI 1) dX11_readUnit_147 (by decide) ?_
                      refine ww_iload_n dX11_readUnit_148 rfl rfl ?_
                      have hW5009 : W.1 = L.1 := hw.1
                      have he5009 : (eL 1 6 L).1 = L.1 + 1 := rfl
                      refine ww_cV0 (M := m_X11_readUnit) (pc := 149) (h1 := mrS (mwS h m (eL 1 6 W)) m n a5002 (-1) bk op) (st := []) (d := (d)) (bc := 0) (bs := 0) (c_Mw_emit_t hst hM htf hB hn W (by omega) a5002 bk op 1 6) vv_X11_emit dX11_readUnit_149 wg_1495 ((mwS_M hM W).K0) rfl rfl rfl rfl (by omega) (Nat.le_of_ble_eq_true rfl) (Nat.le_of_ble_eq_true rfl) (Nat.le_of_ble_eq_true rfl) ?_
                      exact ww_vret dX11_readUnit_152 rfl ⟨rfl, (by rw [unitF_w (fun _ => ⟨fun e => (by have e9 := dgC_t.mpr e; rw [c52] at e9; cases e9), c14⟩), hr5002, bS_r, if_neg (by decide)]; exact ⟨_, (MwR.e hw (k := 1) (by decide) 6), rfl⟩)⟩
                    · exact absurd c138 (by decide)
                  · exact absurd c122 (by decide)
                · exact absurd c102 (by decide)
              · exact absurd c80 (by decide)
            · have hw5002 : wdA T n (sk T n a) = 12748404 := by
                obtain ⟨i, hi, hw⟩ := wM_r (by omega) wLaw_x (by decide) hr5002
                have e := Option.some.inj (show some 9 = some i from hi)
                rw [← e] at hw
                exact hw.trans (by decide +kernel)
              refine ww_cVr (M := m_X11_readUnit) (pc := 72) (v := .int (nI 12748404)) (h1 := mrS (mwS h m W) m n (sk T n a) (-1) bk op) (st := []) (d := (d)) (bc := 0) (bs := 0) (c_MR_word_i hst (mwS_M hM W) (mwS_t (W := W) htf) hB hn (-1) bk op (sk T n a) (by omega) (sk_id (by omega)) hw5002) vv_X11_word dX11_readUnit_72 wg_1433 ((mwS_M hM W).K0) rfl rfl rfl rfl (by omega) (Nat.le_of_ble_eq_true rfl) (Nat.le_of_ble_eq_true rfl) (Nat.le_of_ble_eq_true rfl) ?_
              refine ww_ldcS (i := 9) dX11_readUnit_75 rfl ?_
              refine ww_cSr (M := m_X11_readUnit) (pc := 77) (v := .int (nI 12748404)) (h1 := mrS (mwS h m W) m n (sk T n a) (-1) bk op) (st := [.int (nI 12748404)]) (d := (d)) (bc := 0) (bs := 0) (c_of_9 hst (mrS (mwS h m W) m n (sk T n a) (-1) bk op)) vv_X11_of dX11_readUnit_77 wg_1441 rfl rfl rfl (by omega) (Nat.le_of_ble_eq_true rfl) (Nat.le_of_ble_eq_true rfl) (Nat.le_of_ble_eq_true rfl) ?_
              refine ww_icmp_neN (tgt := 93) dX11_readUnit_80 (by decide) (by omega) (by omega) (fun c80 => ?_) (fun c80 => ?_)
              · exact absurd c80 (by decide)
              · refine ww_aload_n dX11_readUnit_83 rfl rfl ?_
                refine ww_iconst (v := nI 5) dX11_readUnit_84 (by decide) ?_
                refine ww_bipush (v := nI 6) dX11_readUnit_85 (by decide) ?_
                refine ww_cVq0 (M := m_X11_readUnit) (pc := 87) (st := []) (d := (d)) (bc := 0) (bs := 0) (c_Mw_two0_6 hst hM htf hB hn bk op (by omega) (sk T n a) L W (by omega) (by omega) hw) vv_X11_readTwo dX11_readUnit_87 wg_1500 ((mwS_M hM W).K0) rfl rfl rfl rfl (by omega) (Nat.le_of_ble_eq_true rfl) (Nat.le_of_ble_eq_true rfl) (Nat.le_of_ble_eq_true rfl) (fun ht qt => ?_)
                refine ww_goto (tgt := 152) dX11_readUnit_90 (by decide) ?_
                exact ww_vret dX11_readUnit_152 rfl ⟨rfl, (by rw [unitF_w (fun _ => ⟨fun e => (by have e9 := dgC_t.mpr e; rw [c52] at e9; cases e9), c14⟩), hr5002, bS_r, if_pos (by decide)]; exact qt)⟩
            · have hw5002 : wdA T n (sk T n a) = 441972 := by
                obtain ⟨i, hi, hw⟩ := wM_r (by omega) wLaw_x (by decide) hr5002
                have e := Option.some.inj (show some 10 = some i from hi)
                rw [← e] at hw
                exact hw.trans (by decide +kernel)
              refine ww_cVr (M := m_X11_readUnit) (pc := 72) (v := .int (nI 441972)) (h1 := mrS (mwS h m W) m n (sk T n a) (-1) bk op) (st := []) (d := (d)) (bc := 0) (bs := 0) (c_MR_word_i hst (mwS_M hM W) (mwS_t (W := W) htf) hB hn (-1) bk op (sk T n a) (by omega) (sk_id (by omega)) hw5002) vv_X11_word dX11_readUnit_72 wg_1433 ((mwS_M hM W).K0) rfl rfl rfl rfl (by omega) (Nat.le_of_ble_eq_true rfl) (Nat.le_of_ble_eq_true rfl) (Nat.le_of_ble_eq_true rfl) ?_
              refine ww_ldcS (i := 9) dX11_readUnit_75 rfl ?_
              refine ww_cSr (M := m_X11_readUnit) (pc := 77) (v := .int (nI 12748404)) (h1 := mrS (mwS h m W) m n (sk T n a) (-1) bk op) (st := [.int (nI 441972)]) (d := (d)) (bc := 0) (bs := 0) (c_of_9 hst (mrS (mwS h m W) m n (sk T n a) (-1) bk op)) vv_X11_of dX11_readUnit_77 wg_1441 rfl rfl rfl (by omega) (Nat.le_of_ble_eq_true rfl) (Nat.le_of_ble_eq_true rfl) (Nat.le_of_ble_eq_true rfl) ?_
              refine ww_icmp_neN (tgt := 93) dX11_readUnit_80 (by decide) (by omega) (by omega) (fun c80 => ?_) (fun c80 => ?_)
              · refine ww_aload_n dX11_readUnit_93 rfl rfl ?_
                refine ww_cVr (M := m_X11_readUnit) (pc := 94) (v := .int (nI 441972)) (h1 := mrS (mwS h m W) m n (sk T n a) (-1) bk op) (st := []) (d := (d)) (bc := 0) (bs := 0) (c_MR_word_i hst (mwS_M hM W) (mwS_t (W := W) htf) hB hn (-1) bk op (sk T n a) (by omega) (sk_id (by omega)) hw5002) vv_X11_word dX11_readUnit_94 wg_1433 ((mwS_M hM W).K0) rfl rfl rfl rfl (by omega) (Nat.le_of_ble_eq_true rfl) (Nat.le_of_ble_eq_true rfl) (Nat.le_of_ble_eq_true rfl) ?_
                refine ww_ldcS (i := 10) dX11_readUnit_97 rfl ?_
                refine ww_cSr (M := m_X11_readUnit) (pc := 99) (v := .int (nI 441972)) (h1 := mrS (mwS h m W) m n (sk T n a) (-1) bk op) (st := [.int (nI 441972)]) (d := (d)) (bc := 0) (bs := 0) (c_of_10 hst (mrS (mwS h m W) m n (sk T n a) (-1) bk op)) vv_X11_of dX11_readUnit_99 wg_1441 rfl rfl rfl (by omega) (Nat.le_of_ble_eq_true rfl) (Nat.le_of_ble_eq_true rfl) (Nat.le_of_ble_eq_true rfl) ?_
                refine ww_icmp_neN (tgt := 115) dX11_readUnit_102 (by decide) (by omega) (by omega) (fun c102 => ?_) (fun c102 => ?_)
                · exact absurd c102 (by decide)
                · refine ww_aload_n dX11_readUnit_105 rfl rfl ?_
                  refine ww_iconst (v := nI 4) dX11_readUnit_106 (by decide) ?_
                  refine ww_bipush (v := nI 7) dX11_readUnit_107 (by decide) ?_
                  refine ww_cVq0 (M := m_X11_readUnit) (pc := 109) (st := []) (d := (d)) (bc := 0) (bs := 0) (c_Mw_two0_7 hst hM htf hB hn bk op (by omega) (sk T n a) L W (by omega) (by omega) hw) vv_X11_readTwo dX11_readUnit_109 wg_1500 ((mwS_M hM W).K0) rfl rfl rfl rfl (by omega) (Nat.le_of_ble_eq_true rfl) (Nat.le_of_ble_eq_true rfl) (Nat.le_of_ble_eq_true rfl) (fun ht qt => ?_)
                  refine ww_goto (tgt := 152) dX11_readUnit_112 (by decide) ?_
                  exact ww_vret dX11_readUnit_152 rfl ⟨rfl, (by rw [unitF_w (fun _ => ⟨fun e => (by have e9 := dgC_t.mpr e; rw [c52] at e9; cases e9), c14⟩), hr5002, bS_r, if_pos (by decide)]; exact qt)⟩
              · exact absurd c80 (by decide)
        · refine ww_aload_n dX11_readUnit_55 rfl rfl ?_
          refine ww_iconst (v := nI 0) dX11_readUnit_56 (by decide) ?_
          refine ww_aload_n dX11_readUnit_57 rfl rfl ?_
          refine ww_iconst (v := nI 0) dX11_readUnit_58 (by decide) ?_
          refine ww_sipush (v := nI 999) dX11_readUnit_59 (by decide) ?_
          rcases hr5010 : figS T n 0 1000 (sk T n a) with ⟨k5010, q5010⟩ | ⟨a5010, v5010⟩
          · have hf5010 := (figS_l hr5010).1
            have hq5010 := figS_lq (by omega) hr5010
            refine ww_cVq (M := m_X11_readUnit) (pc := 62) (v := .int (nI 0)) (st := [.int (nI 0), .ref m]) (d := (d)) (bc := 0) (bs := 0) (c_MR_num_l hst (mwS_M hM W) (mwS_t (W := W) htf) hB hn (sk T n a) bk op (by omega) 0 1000 (nI 999) (by omega) (by omega) (hi_c 999 (by decide)) hr5010) vv_X11_readNumber dX11_readUnit_62 wg_1460 ((mwS_M hM W).K0) rfl rfl rfl rfl (by omega) (Nat.le_of_ble_eq_true rfl) (Nat.le_of_ble_eq_true rfl) (Nat.le_of_ble_eq_true rfl) (fun hx5010h qx5010 => ?_)
            obtain ⟨x5010, hx5010, rfl⟩ := qx5010
            refine ww_cV0 (M := m_X11_readUnit) (pc := 65) (h1 := mrS (mwS h m W) m n x5010 (nI q5010) (nI k5010) op) (st := []) (d := (d)) (bc := 0) (bs := 0) (c_Mw_emit_f hst hM htf hB hn W x5010 (nI k5010) op q5010 (by omega) (nI 0) (nI 0)) vv_X11_emit dX11_readUnit_65 wg_1495 ((mwS_M hM W).K0) rfl rfl rfl rfl (by omega) (Nat.le_of_ble_eq_true rfl) (Nat.le_of_ble_eq_true rfl) (Nat.le_of_ble_eq_true rfl) ?_
            refine ww_goto (tgt := 152) dX11_readUnit_68 (by decide) ?_
            exact ww_vret dX11_readUnit_152 rfl ⟨rfl, (by rw [unitF_d (by assumption) (dgC_t.mp c52).1 (dgC_t.mp c52).2, hr5010, bS_l]; exact ⟨_, _, (by omega), rfl⟩)⟩
          · have hf5010 := figS_r (by omega) hr5010
            have hg5010 := sk_ge (T := T) (show sk T n a ≤ n by omega)
            refine ww_cVr (M := m_X11_readUnit) (pc := 62) (v := .int (nI v5010)) (h1 := mrS (mwS h m W) m n a5010 (-1) bk op) (st := [.int (nI 0), .ref m]) (d := (d)) (bc := 0) (bs := 0) (c_MR_num_r hst (mwS_M hM W) (mwS_t (W := W) htf) hB hn (sk T n a) bk op (by omega) 0 1000 (nI 999) (by omega) (by omega) (hi_c 999 (by decide)) hr5010) vv_X11_readNumber dX11_readUnit_62 wg_1460 ((mwS_M hM W).K0) rfl rfl rfl rfl (by omega) (Nat.le_of_ble_eq_true rfl) (Nat.le_of_ble_eq_true rfl) (Nat.le_of_ble_eq_true rfl) ?_
            have hW5011 : W.1 = L.1 := hw.1
            have he5011 : (eL 0 v5010 L).1 = L.1 + 1 := rfl
            refine ww_cV0 (M := m_X11_readUnit) (pc := 65) (h1 := mrS (mwS h m (eL 0 v5010 W)) m n a5010 (-1) bk op) (st := []) (d := (d)) (bc := 0) (bs := 0) (c_Mw_emit_t hst hM htf hB hn W (by omega) a5010 bk op 0 v5010) vv_X11_emit dX11_readUnit_65 wg_1495 ((mwS_M hM W).K0) rfl rfl rfl rfl (by omega) (Nat.le_of_ble_eq_true rfl) (Nat.le_of_ble_eq_true rfl) (Nat.le_of_ble_eq_true rfl) ?_
            refine ww_goto (tgt := 152) dX11_readUnit_68 (by decide) ?_
            exact ww_vret dX11_readUnit_152 rfl ⟨rfl, (by rw [unitF_d (by assumption) (dgC_t.mp c52).1 (dgC_t.mp c52).2, hr5010, bS_r]; exact ⟨_, (MwR.e hw (k := 0) (by decide) v5010), rfl⟩)⟩
      · refine ww_aload_n dX11_readUnit_17 rfl rfl ?_
        refine ww_iconst (v := nI 1) dX11_readUnit_18 (by decide) ?_
        refine ww_cV0 (M := m_X11_readUnit) (pc := 19) (h1 := mrS (mwS h m W) m n (sk T n a) (nI (sk T n a)) (nI 3) (op + 1)) (st := []) (d := (d)) (bc := 0) (bs := 0) (c_MR_opens_x hst (mwS_M hM W) (mwS_t (W := W) htf) hB hn (sk T n a) bk op (by omega) (by omega) 1) vv_X11_opensOne dX11_readUnit_19 wg_1491 ((mwS_M hM W).K0) rfl rfl rfl rfl (by omega) (Nat.le_of_ble_eq_true rfl) (Nat.le_of_ble_eq_true rfl) (Nat.le_of_ble_eq_true rfl) ?_
        refine ww_aload_n dX11_readUnit_22 rfl rfl ?_
        refine ww_cV0 (M := m_X11_readUnit) (pc := 23) (h1 := mrS (mwS h m W) m n (sk T n a) (nI (sk T n a)) (nI 3) (op + 1)) (st := []) (d := (d)) (bc := 0) (bs := 0) (c_Mw_sum_f hst hM htf hB hn W (sk T n a) (nI 3) (op + 1) (sk T n a) (by omega)) vv_X11_readSum dX11_readUnit_23 wg_1479 ((mwS_M hM W).K0) rfl rfl rfl rfl (by omega) (Nat.le_of_ble_eq_true rfl) (Nat.le_of_ble_eq_true rfl) (Nat.le_of_ble_eq_true rfl) ?_
        refine ww_aload_n dX11_readUnit_26 rfl rfl ?_
        refine ww_bipush (v := nI 41) dX11_readUnit_27 (by decide) ?_
        refine ww_cV0 (M := m_X11_readUnit) (pc := 29) (h1 := mrS (mwS h m W) m n (sk T n a) (nI (sk T n a)) (nI 3) (op + 1)) (st := []) (d := (d)) (bc := 0) (bs := 0) (c_MR_sign_f hst (mwS_M hM W) (mwS_t (W := W) htf) hB hn (sk T n a) (nI 3) (op + 1) (sk T n a) (by omega) 41) vv_X11_sign dX11_readUnit_29 wg_1467 ((mwS_M hM W).K0) rfl rfl rfl rfl (by omega) (Nat.le_of_ble_eq_true rfl) (Nat.le_of_ble_eq_true rfl) (Nat.le_of_ble_eq_true rfl) ?_
        refine ww_aload_n dX11_readUnit_32 rfl rfl ?_
        refine ww_dup dX11_readUnit_33 rfl ?_
        refine ww_get 7 dX11_readUnit_34 ((mwS_M hM W).K0) rfl (by decide) inX11 wg_1247 (mrS_7 _ _ _ _ _ _ _) ?_
        refine ww_iconst (v := nI 1) dX11_readUnit_37 (by decide) ?_
        refine ww_isubN dX11_readUnit_38 (by omega) ?_
        refine ww_pfI tyX11 7 dX11_readUnit_39 ((mwS_M hM W).K0) rfl (by decide) inX11 tyX11_ok nmX11 wg_1247 rfl rfl ?_
        refine ww_hp (h2 := mrS (mwS h m W) m n (sk T n a) (nI (sk T n a)) (nI 3) op) (mrS_s7 _ _ _ _ _ _ _ _) ?_
        refine ww_goto (tgt := 152) dX11_readUnit_42 (by decide) ?_
        exact ww_vret dX11_readUnit_152 rfl ⟨rfl, (by rw [unitF_p (by assumption) c14]; exact ⟨_, _, (by omega), rfl⟩)⟩
    · refine ww_cVr (M := m_X11_readUnit) (pc := 9) (v := .int (nI 0)) (h1 := mrS (mwS h m W) m n n (-1) bk op) (st := []) (d := (d)) (bc := 0) (bs := 0) (c_MR_here_f hst (mwS_M hM W) (mwS_t (W := W) htf) hB hn (-1) bk op a (by omega) hl5001) vv_X11_here dX11_readUnit_9 wg_1429 ((mwS_M hM W).K0) rfl rfl rfl rfl (by omega) (Nat.le_of_ble_eq_true rfl) (Nat.le_of_ble_eq_true rfl) (Nat.le_of_ble_eq_true rfl) ?_
      refine ww_bipush (v := nI 40) dX11_readUnit_12 (by decide) ?_
      refine ww_icmp_neN (tgt := 45) dX11_readUnit_14 (by decide) (by omega) (by omega) (fun c14 => ?_) (fun c14 => ?_)
      · refine ww_aload_n dX11_readUnit_45 rfl rfl ?_
        refine ww_cVr (M := m_X11_readUnit) (pc := 46) (v := .int (nI 0)) (h1 := mrS (mwS h m W) m n n (-1) bk op) (st := []) (d := (d)) (bc := 0) (bs := 0) (c_MR_here_n hst (mwS_M hM W) (mwS_t (W := W) htf) hB hn (-1) bk op) vv_X11_here dX11_readUnit_46 wg_1429 ((mwS_M hM W).K0) rfl rfl rfl rfl (by omega) (Nat.le_of_ble_eq_true rfl) (Nat.le_of_ble_eq_true rfl) (Nat.le_of_ble_eq_true rfl) ?_
        refine ww_cSr (M := m_X11_readUnit) (pc := 49) (v := .int (nI 0)) (h1 := mrS (mwS h m W) m n n (-1) bk op) (st := []) (d := (d)) (bc := 0) (bs := 0) (c_MR_dg0 hst (mrS (mwS h m W) m n n (-1) bk op)) vv_X11_isDigit dX11_readUnit_49 wg_1464 rfl rfl rfl (by omega) (Nat.le_of_ble_eq_true rfl) (Nat.le_of_ble_eq_true rfl) (Nat.le_of_ble_eq_true rfl) ?_
        refine ww_if_eqN (tgt := 71) dX11_readUnit_52 (by decide) (by omega) (fun c52 => ?_) (fun c52 => ?_)
        · refine ww_aload_n dX11_readUnit_71 rfl rfl ?_
          have hno5012 := wM_l (by omega) wLaw_x (by decide) (wrd_end wLaw_ne T n)
          have hn5012_11 : ¬ wdA T n n = 492210354 := fun e => hno5012 11 (by decide) (e.trans (by decide +kernel))
          have hn5012_12 : ¬ wdA T n n = 595412 := fun e => hno5012 12 (by decide) (e.trans (by decide +kernel))
          have hn5012_13 : ¬ wdA T n n = 23609 := fun e => hno5012 13 (by decide) (e.trans (by decide +kernel))
          have hn5012_14 : ¬ wdA T n n = 16496818 := fun e => hno5012 14 (by decide) (e.trans (by decide +kernel))
          have hn5012_15 : ¬ wdA T n n = 16829075 := fun e => hno5012 15 (by decide) (e.trans (by decide +kernel))
          have hn5012_16 : ¬ wdA T n n = 707748 := fun e => hno5012 16 (by decide) (e.trans (by decide +kernel))
          have hn5012_17 : ¬ wdA T n n = 4153 := fun e => hno5012 17 (by decide) (e.trans (by decide +kernel))
          have hn5012_9 : ¬ wdA T n n = 12748404 := fun e => hno5012 9 (by decide) (e.trans (by decide +kernel))
          have hn5012_10 : ¬ wdA T n n = 441972 := fun e => hno5012 10 (by decide) (e.trans (by decide +kernel))
          have hwl5012 := wdA_lt (T := T) (show n ≤ n by omega)
          refine ww_cVr (M := m_X11_readUnit) (pc := 72) (v := .int (nI (wdA T n n))) (h1 := mrS (mwS h m W) m n n (-1) bk op) (st := []) (d := (d)) (bc := 0) (bs := 0) (c_MR_word_i hst (mwS_M hM W) (mwS_t (W := W) htf) hB hn (-1) bk op n (by omega) (sk_n T n) rfl) vv_X11_word dX11_readUnit_72 wg_1433 ((mwS_M hM W).K0) rfl rfl rfl rfl (by omega) (Nat.le_of_ble_eq_true rfl) (Nat.le_of_ble_eq_true rfl) (Nat.le_of_ble_eq_true rfl) ?_
          refine ww_ldcS (i := 9) dX11_readUnit_75 rfl ?_
          refine ww_cSr (M := m_X11_readUnit) (pc := 77) (v := .int (nI 12748404)) (h1 := mrS (mwS h m W) m n n (-1) bk op) (st := [.int (nI (wdA T n n))]) (d := (d)) (bc := 0) (bs := 0) (c_of_9 hst (mrS (mwS h m W) m n n (-1) bk op)) vv_X11_of dX11_readUnit_77 wg_1441 rfl rfl rfl (by omega) (Nat.le_of_ble_eq_true rfl) (Nat.le_of_ble_eq_true rfl) (Nat.le_of_ble_eq_true rfl) ?_
          refine ww_icmp_neN (tgt := 93) dX11_readUnit_80 (by decide) (by omega) (by omega) (fun c80 => ?_) (fun c80 => ?_)
          · refine ww_aload_n dX11_readUnit_93 rfl rfl ?_
            refine ww_cVr (M := m_X11_readUnit) (pc := 94) (v := .int (nI (wdA T n n))) (h1 := mrS (mwS h m W) m n n (-1) bk op) (st := []) (d := (d)) (bc := 0) (bs := 0) (c_MR_word_i hst (mwS_M hM W) (mwS_t (W := W) htf) hB hn (-1) bk op n (by omega) (sk_n T n) rfl) vv_X11_word dX11_readUnit_94 wg_1433 ((mwS_M hM W).K0) rfl rfl rfl rfl (by omega) (Nat.le_of_ble_eq_true rfl) (Nat.le_of_ble_eq_true rfl) (Nat.le_of_ble_eq_true rfl) ?_
            refine ww_ldcS (i := 10) dX11_readUnit_97 rfl ?_
            refine ww_cSr (M := m_X11_readUnit) (pc := 99) (v := .int (nI 441972)) (h1 := mrS (mwS h m W) m n n (-1) bk op) (st := [.int (nI (wdA T n n))]) (d := (d)) (bc := 0) (bs := 0) (c_of_10 hst (mrS (mwS h m W) m n n (-1) bk op)) vv_X11_of dX11_readUnit_99 wg_1441 rfl rfl rfl (by omega) (Nat.le_of_ble_eq_true rfl) (Nat.le_of_ble_eq_true rfl) (Nat.le_of_ble_eq_true rfl) ?_
            refine ww_icmp_neN (tgt := 115) dX11_readUnit_102 (by decide) (by omega) (by omega) (fun c102 => ?_) (fun c102 => ?_)
            · refine ww_aload_n dX11_readUnit_115 rfl rfl ?_
              refine ww_cVr (M := m_X11_readUnit) (pc := 116) (v := .int (-1)) (h1 := mrS (mwS h m W) m n n (-1) bk op) (st := []) (d := (d)) (bc := 0) (bs := 0) (c_Mw_factN hst hM htf hB hn W n (-1) bk op (by omega) (sk_n T n) hn5012_11 hn5012_12 hn5012_13 hn5012_14 hn5012_15 hn5012_16 hn5012_17) vv_X11_factHere dX11_readUnit_116 wg_1505 ((mwS_M hM W).K0) rfl rfl rfl rfl (by omega) (Nat.le_of_ble_eq_true rfl) (Nat.le_of_ble_eq_true rfl) (Nat.le_of_ble_eq_true rfl) ?_
              refine ww_sti_n (lv2 := [.ref m, .int (-1)]) dX11_readUnit_119 rfl rfl (by decide) rfl ?_
              refine ww_iload_n dX11_readUnit_120 rfl rfl ?_
              refine ww_iconst (v := -1) dX11_readUnit_121 (by decide) ?_
              refine ww_icmp_ne (tgt := 134) dX11_readUnit_122 (by decide) (fun c122 => ?_) (fun c122 => ?_)
              · exact absurd c122 (by decide)
              · refine ww_aload_n dX11_readUnit_125 rfl rfl ?_
                refine ww_iconst (v := nI 1) dX11_readUnit_126 (by decide) ?_
                refine ww_aload_n dX11_readUnit_127 rfl rfl ?_
                refine ww_get 4 dX11_readUnit_128 ((mwS_M hM W).K0) rfl (by decide) inX11 wg_1244 (mrS_4 _ _ _ _ _ _ _) ?_
                refine ww_cV0 (M := m_X11_readUnit) (pc := 131) (h1 := mrS (mwS h m W) m n n (nI n) (nI 1) op) (st := []) (d := (d)) (bc := 0) (bs := 0) (c_MR_wrong_t hst (mwS_M hM W) (mwS_t (W := W) htf) hB hn n bk op (nI 1) (nI n)) vv_X11_wrong dX11_readUnit_131 wg_1448 ((mwS_M hM W).K0) rfl rfl rfl rfl (by omega) (Nat.le_of_ble_eq_true rfl) (Nat.le_of_ble_eq_true rfl) (Nat.le_of_ble_eq_true rfl) ?_
                refine ww_aload_n dX11_readUnit_134 rfl rfl ?_
                refine ww_cVr (M := m_X11_readUnit) (pc := 135) (v := .int (nI 0)) (h1 := mrS (mwS h m W) m n n (nI n) (nI 1) op) (st := []) (d := (d)) (bc := 0) (bs := 0) (c_MR_fine_f hst (mwS_M hM W) (mwS_t (W := W) htf) hB hn n (nI 1) op n (by omega)) vv_X11_fine dX11_readUnit_135 wg_1421 ((mwS_M hM W).K0) rfl rfl rfl rfl (by omega) (Nat.le_of_ble_eq_true rfl) (Nat.le_of_ble_eq_true rfl) (Nat.le_of_ble_eq_true rfl) ?_
                refine ww_if_neN (tgt := 142) dX11_readUnit_138 (by decide) (by omega) (fun c138 => ?_) (fun c138 => ?_)
                · exact absurd c138 (by decide)
                · exact ww_vret dX11_readUnit_141 rfl ⟨rfl, (by rw [unitF_w (fun e => by omega), show sk T n a = n by omega, wrd_end wLaw_ne, bS_l]; exact ⟨_, _, (by omega), rfl⟩)⟩
            · exfalso; omega
          · exfalso; omega
        · exact absurd c52 (by decide)
      · exact absurd c14 (by decide)
  · exact absurd c4 (by decide)
set_option maxHeartbeats 4000000 in
set_option maxRecDepth 100000 in
theorem c_Mw_unit1 {l : Launch} {Z : EE} (hst : l.stackTraces = false) {h : PH} {m : Nat} (hM : ModS h m) {tf : Nat → Int32} (htf : hp_I h (m + 2) = tf) {T : Nat → Nat} (hB : BT tf T) {n : Nat} (hn : n ≤ 600) (bk : Int32) (op : Nat) (hn5 : n ≤ 150) {d : Nat} (hd6 : 6 ≤ d) (ho : op < 6) {U : Nat} {S : Nat → LWt → PR LWt} (hG : GoodU n U S) (hS : ∀ (a : Nat) (L W : LWt), a ≤ n → L.1 ≤ a → MwR L W → CC l Z m_X11_readSum (d + 2) 0 0 [.ref m] (mrS (mwS h m W) m n a (-1) bk (op + 1)) (RQ none (MwO h m n bk (op + 1) (S a L)))) (a : Nat) (L W : LWt) (ha : a ≤ n) (hL : L.1 ≤ a) (hw : MwR L W) : CC l Z m_X11_readUnit (d + 4) 0 0 [.ref m] (mrS (mwS h m W) m n a (-1) bk op) (RQ none (MwO h m n bk op (unitF (some S) T n a L))) := by
  refine ee_entry hst (by decide +kernel) rfl rfl (by simp [Value.category]) (Nat.le_of_ble_eq_true rfl) ?_
  refine ww_lv (lv2 := [.ref m, UU]) rfl ?_
  refine ww_aload_n dX11_readUnit_0 rfl rfl ?_
  refine ww_cVr (M := m_X11_readUnit) (pc := 1) (v := .int (nI 1)) (h1 := mrS (mwS h m W) m n a (-1) bk op) (st := []) (d := (d + 4)) (bc := 0) (bs := 0) (c_MR_fine_t hst (mwS_M hM W) (mwS_t (W := W) htf) hB hn a bk op) vv_X11_fine dX11_readUnit_1 wg_1421 ((mwS_M hM W).K0) rfl rfl rfl rfl (by omega) (Nat.le_of_ble_eq_true rfl) (Nat.le_of_ble_eq_true rfl) (Nat.le_of_ble_eq_true rfl) ?_
  refine ww_if_neN (tgt := 8) dX11_readUnit_4 (by decide) (by omega) (fun c4 => ?_) (fun c4 => ?_)
  · refine ww_aload_n dX11_readUnit_8 rfl rfl ?_
    have hsl5013 := sk_le (T := T) (show a ≤ n by omega)
    have hsg5013 := sk_ge (T := T) (show a ≤ n by omega)
    have hsT5013 := (hB (sk T n a)).2
    by_cases hl5013 : sk T n a < n
    · refine ww_cVr (M := m_X11_readUnit) (pc := 9) (v := .int (nI (T (sk T n a)))) (h1 := mrS (mwS h m W) m n (sk T n a) (-1) bk op) (st := []) (d := (d + 4)) (bc := 0) (bs := 0) (c_MR_here_t hst (mwS_M hM W) (mwS_t (W := W) htf) hB hn (-1) bk op a (by omega) hl5013) vv_X11_here dX11_readUnit_9 wg_1429 ((mwS_M hM W).K0) rfl rfl rfl rfl (by omega) (Nat.le_of_ble_eq_true rfl) (Nat.le_of_ble_eq_true rfl) (Nat.le_of_ble_eq_true rfl) ?_
      refine ww_bipush (v := nI 40) dX11_readUnit_12 (by decide) ?_
      refine ww_icmp_neN (tgt := 45) dX11_readUnit_14 (by decide) (by omega) (by omega) (fun c14 => ?_) (fun c14 => ?_)
      · refine ww_aload_n dX11_readUnit_45 rfl rfl ?_
        refine ww_cVr (M := m_X11_readUnit) (pc := 46) (v := .int (nI (T (sk T n a)))) (h1 := mrS (mwS h m W) m n (sk T n a) (-1) bk op) (st := []) (d := (d + 4)) (bc := 0) (bs := 0) (c_MR_here_i hst (mwS_M hM W) (mwS_t (W := W) htf) hB hn (-1) bk op a (by omega) (by assumption)) vv_X11_here dX11_readUnit_46 wg_1429 ((mwS_M hM W).K0) rfl rfl rfl rfl (by omega) (Nat.le_of_ble_eq_true rfl) (Nat.le_of_ble_eq_true rfl) (Nat.le_of_ble_eq_true rfl) ?_
        refine ww_cSr (M := m_X11_readUnit) (pc := 49) (v := .int (bI (dgC (T (sk T n a))))) (h1 := mrS (mwS h m W) m n (sk T n a) (-1) bk op) (st := []) (d := (d + 4)) (bc := 0) (bs := 0) (c_MR_dg hst (T (sk T n a)) (by omega) (mrS (mwS h m W) m n (sk T n a) (-1) bk op)) vv_X11_isDigit dX11_readUnit_49 wg_1464 rfl rfl rfl (by omega) (Nat.le_of_ble_eq_true rfl) (Nat.le_of_ble_eq_true rfl) (Nat.le_of_ble_eq_true rfl) ?_
        refine ww_if_eqB (tgt := 71) dX11_readUnit_52 (by decide) (fun c52 => ?_) (fun c52 => ?_)
        · refine ww_aload_n dX11_readUnit_71 rfl rfl ?_
          rcases hr5014 : wrdS wLaw T n (sk T n a) with ⟨k5014, q5014⟩ | ⟨a5014, v5014⟩
          · have hq5014 := wrdS_lq (by omega) hr5014
            have hno5014 := wM_l (by omega) wLaw_x (by decide) hr5014
            have hn5014_11 : ¬ wdA T n (sk T n a) = 492210354 := fun e => hno5014 11 (by decide) (e.trans (by decide +kernel))
            have hn5014_12 : ¬ wdA T n (sk T n a) = 595412 := fun e => hno5014 12 (by decide) (e.trans (by decide +kernel))
            have hn5014_13 : ¬ wdA T n (sk T n a) = 23609 := fun e => hno5014 13 (by decide) (e.trans (by decide +kernel))
            have hn5014_14 : ¬ wdA T n (sk T n a) = 16496818 := fun e => hno5014 14 (by decide) (e.trans (by decide +kernel))
            have hn5014_15 : ¬ wdA T n (sk T n a) = 16829075 := fun e => hno5014 15 (by decide) (e.trans (by decide +kernel))
            have hn5014_16 : ¬ wdA T n (sk T n a) = 707748 := fun e => hno5014 16 (by decide) (e.trans (by decide +kernel))
            have hn5014_17 : ¬ wdA T n (sk T n a) = 4153 := fun e => hno5014 17 (by decide) (e.trans (by decide +kernel))
            have hn5014_9 : ¬ wdA T n (sk T n a) = 12748404 := fun e => hno5014 9 (by decide) (e.trans (by decide +kernel))
            have hn5014_10 : ¬ wdA T n (sk T n a) = 441972 := fun e => hno5014 10 (by decide) (e.trans (by decide +kernel))
            have hwl5014 := wdA_lt (T := T) (show sk T n a ≤ n by omega)
            refine ww_cVr (M := m_X11_readUnit) (pc := 72) (v := .int (nI (wdA T n (sk T n a)))) (h1 := mrS (mwS h m W) m n (sk T n a) (-1) bk op) (st := []) (d := (d + 4)) (bc := 0) (bs := 0) (c_MR_word_i hst (mwS_M hM W) (mwS_t (W := W) htf) hB hn (-1) bk op (sk T n a) (by omega) (sk_id (by omega)) rfl) vv_X11_word dX11_readUnit_72 wg_1433 ((mwS_M hM W).K0) rfl rfl rfl rfl (by omega) (Nat.le_of_ble_eq_true rfl) (Nat.le_of_ble_eq_true rfl) (Nat.le_of_ble_eq_true rfl) ?_
            refine ww_ldcS (i := 9) dX11_readUnit_75 rfl ?_
            refine ww_cSr (M := m_X11_readUnit) (pc := 77) (v := .int (nI 12748404)) (h1 := mrS (mwS h m W) m n (sk T n a) (-1) bk op) (st := [.int (nI (wdA T n (sk T n a)))]) (d := (d + 4)) (bc := 0) (bs := 0) (c_of_9 hst (mrS (mwS h m W) m n (sk T n a) (-1) bk op)) vv_X11_of dX11_readUnit_77 wg_1441 rfl rfl rfl (by omega) (Nat.le_of_ble_eq_true rfl) (Nat.le_of_ble_eq_true rfl) (Nat.le_of_ble_eq_true rfl) ?_
            refine ww_icmp_neN (tgt := 93) dX11_readUnit_80 (by decide) (by omega) (by omega) (fun c80 => ?_) (fun c80 => ?_)
            · refine ww_aload_n dX11_readUnit_93 rfl rfl ?_
              refine ww_cVr (M := m_X11_readUnit) (pc := 94) (v := .int (nI (wdA T n (sk T n a)))) (h1 := mrS (mwS h m W) m n (sk T n a) (-1) bk op) (st := []) (d := (d + 4)) (bc := 0) (bs := 0) (c_MR_word_i hst (mwS_M hM W) (mwS_t (W := W) htf) hB hn (-1) bk op (sk T n a) (by omega) (sk_id (by omega)) rfl) vv_X11_word dX11_readUnit_94 wg_1433 ((mwS_M hM W).K0) rfl rfl rfl rfl (by omega) (Nat.le_of_ble_eq_true rfl) (Nat.le_of_ble_eq_true rfl) (Nat.le_of_ble_eq_true rfl) ?_
              refine ww_ldcS (i := 10) dX11_readUnit_97 rfl ?_
              refine ww_cSr (M := m_X11_readUnit) (pc := 99) (v := .int (nI 441972)) (h1 := mrS (mwS h m W) m n (sk T n a) (-1) bk op) (st := [.int (nI (wdA T n (sk T n a)))]) (d := (d + 4)) (bc := 0) (bs := 0) (c_of_10 hst (mrS (mwS h m W) m n (sk T n a) (-1) bk op)) vv_X11_of dX11_readUnit_99 wg_1441 rfl rfl rfl (by omega) (Nat.le_of_ble_eq_true rfl) (Nat.le_of_ble_eq_true rfl) (Nat.le_of_ble_eq_true rfl) ?_
              refine ww_icmp_neN (tgt := 115) dX11_readUnit_102 (by decide) (by omega) (by omega) (fun c102 => ?_) (fun c102 => ?_)
              · refine ww_aload_n dX11_readUnit_115 rfl rfl ?_
                refine ww_cVr (M := m_X11_readUnit) (pc := 116) (v := .int (-1)) (h1 := mrS (mwS h m W) m n (sk T n a) (-1) bk op) (st := []) (d := (d + 4)) (bc := 0) (bs := 0) (c_Mw_factN hst hM htf hB hn W (sk T n a) (-1) bk op (by omega) (sk_id (by omega)) hn5014_11 hn5014_12 hn5014_13 hn5014_14 hn5014_15 hn5014_16 hn5014_17) vv_X11_factHere dX11_readUnit_116 wg_1505 ((mwS_M hM W).K0) rfl rfl rfl rfl (by omega) (Nat.le_of_ble_eq_true rfl) (Nat.le_of_ble_eq_true rfl) (Nat.le_of_ble_eq_true rfl) ?_
                refine ww_sti_n (lv2 := [.ref m, .int (-1)]) dX11_readUnit_119 rfl rfl (by decide) rfl ?_
                refine ww_iload_n dX11_readUnit_120 rfl rfl ?_
                refine ww_iconst (v := -1) dX11_readUnit_121 (by decide) ?_
                refine ww_icmp_ne (tgt := 134) dX11_readUnit_122 (by decide) (fun c122 => ?_) (fun c122 => ?_)
                · exact absurd c122 (by decide)
                · refine ww_aload_n dX11_readUnit_125 rfl rfl ?_
                  refine ww_iconst (v := nI 1) dX11_readUnit_126 (by decide) ?_
                  refine ww_aload_n dX11_readUnit_127 rfl rfl ?_
                  refine ww_get 4 dX11_readUnit_128 ((mwS_M hM W).K0) rfl (by decide) inX11 wg_1244 (mrS_4 _ _ _ _ _ _ _) ?_
                  refine ww_cV0 (M := m_X11_readUnit) (pc := 131) (h1 := mrS (mwS h m W) m n (sk T n a) (nI (sk T n a)) (nI 1) op) (st := []) (d := (d + 4)) (bc := 0) (bs := 0) (c_MR_wrong_t hst (mwS_M hM W) (mwS_t (W := W) htf) hB hn (sk T n a) bk op (nI 1) (nI (sk T n a))) vv_X11_wrong dX11_readUnit_131 wg_1448 ((mwS_M hM W).K0) rfl rfl rfl rfl (by omega) (Nat.le_of_ble_eq_true rfl) (Nat.le_of_ble_eq_true rfl) (Nat.le_of_ble_eq_true rfl) ?_
                  refine ww_aload_n dX11_readUnit_134 rfl rfl ?_
                  refine ww_cVr (M := m_X11_readUnit) (pc := 135) (v := .int (nI 0)) (h1 := mrS (mwS h m W) m n (sk T n a) (nI (sk T n a)) (nI 1) op) (st := []) (d := (d + 4)) (bc := 0) (bs := 0) (c_MR_fine_f hst (mwS_M hM W) (mwS_t (W := W) htf) hB hn (sk T n a) (nI 1) op (sk T n a) (by omega)) vv_X11_fine dX11_readUnit_135 wg_1421 ((mwS_M hM W).K0) rfl rfl rfl rfl (by omega) (Nat.le_of_ble_eq_true rfl) (Nat.le_of_ble_eq_true rfl) (Nat.le_of_ble_eq_true rfl) ?_
                  refine ww_if_neN (tgt := 142) dX11_readUnit_138 (by decide) (by omega) (fun c138 => ?_) (fun c138 => ?_)
                  · exact absurd c138 (by decide)
                  · exact ww_vret dX11_readUnit_141 rfl ⟨rfl, (by obtain ⟨hk9, hq9, -⟩ := wrdS_l hr5014; rw [sk_id (by omega)] at hq9; subst hk9 hq9; rw [unitF_w (fun _ => ⟨fun e => (by have e9 := dgC_t.mpr e; rw [c52] at e9; cases e9), c14⟩), hr5014, bS_l]; exact ⟨_, _, (by omega), rfl⟩)⟩
              · exfalso; omega
            · exfalso; omega
          · have hf5014 := wrdS_lt wLaw_ne (by omega) hr5014
            have hz5014 := (wrdS_r hr5014).1
            rcases (show v5014 = 0 ∨ v5014 = 1 ∨ v5014 = 2 ∨ v5014 = 3 ∨ v5014 = 4 ∨ v5014 = 5 ∨ v5014 = 6 ∨ v5014 = 7 ∨ v5014 = 8 by have h9 := hf5014.2.2; simp only [wLaw, List.length_cons, List.length_nil] at h9; omega) with rfl | rfl | rfl | rfl | rfl | rfl | rfl | rfl | rfl
            · have hw5014 : wdA T n (sk T n a) = 492210354 := by
                obtain ⟨i, hi, hw⟩ := wM_r (by omega) wLaw_x (by decide) hr5014
                have e := Option.some.inj (show some 11 = some i from hi)
                rw [← e] at hw
                exact hw.trans (by decide +kernel)
              refine ww_cVr (M := m_X11_readUnit) (pc := 72) (v := .int (nI 492210354)) (h1 := mrS (mwS h m W) m n (sk T n a) (-1) bk op) (st := []) (d := (d + 4)) (bc := 0) (bs := 0) (c_MR_word_i hst (mwS_M hM W) (mwS_t (W := W) htf) hB hn (-1) bk op (sk T n a) (by omega) (sk_id (by omega)) hw5014) vv_X11_word dX11_readUnit_72 wg_1433 ((mwS_M hM W).K0) rfl rfl rfl rfl (by omega) (Nat.le_of_ble_eq_true rfl) (Nat.le_of_ble_eq_true rfl) (Nat.le_of_ble_eq_true rfl) ?_
              refine ww_ldcS (i := 9) dX11_readUnit_75 rfl ?_
              refine ww_cSr (M := m_X11_readUnit) (pc := 77) (v := .int (nI 12748404)) (h1 := mrS (mwS h m W) m n (sk T n a) (-1) bk op) (st := [.int (nI 492210354)]) (d := (d + 4)) (bc := 0) (bs := 0) (c_of_9 hst (mrS (mwS h m W) m n (sk T n a) (-1) bk op)) vv_X11_of dX11_readUnit_77 wg_1441 rfl rfl rfl (by omega) (Nat.le_of_ble_eq_true rfl) (Nat.le_of_ble_eq_true rfl) (Nat.le_of_ble_eq_true rfl) ?_
              refine ww_icmp_neN (tgt := 93) dX11_readUnit_80 (by decide) (by omega) (by omega) (fun c80 => ?_) (fun c80 => ?_)
              · refine ww_aload_n dX11_readUnit_93 rfl rfl ?_
                refine ww_cVr (M := m_X11_readUnit) (pc := 94) (v := .int (nI 492210354)) (h1 := mrS (mwS h m W) m n (sk T n a) (-1) bk op) (st := []) (d := (d + 4)) (bc := 0) (bs := 0) (c_MR_word_i hst (mwS_M hM W) (mwS_t (W := W) htf) hB hn (-1) bk op (sk T n a) (by omega) (sk_id (by omega)) hw5014) vv_X11_word dX11_readUnit_94 wg_1433 ((mwS_M hM W).K0) rfl rfl rfl rfl (by omega) (Nat.le_of_ble_eq_true rfl) (Nat.le_of_ble_eq_true rfl) (Nat.le_of_ble_eq_true rfl) ?_
                refine ww_ldcS (i := 10) dX11_readUnit_97 rfl ?_
                refine ww_cSr (M := m_X11_readUnit) (pc := 99) (v := .int (nI 441972)) (h1 := mrS (mwS h m W) m n (sk T n a) (-1) bk op) (st := [.int (nI 492210354)]) (d := (d + 4)) (bc := 0) (bs := 0) (c_of_10 hst (mrS (mwS h m W) m n (sk T n a) (-1) bk op)) vv_X11_of dX11_readUnit_99 wg_1441 rfl rfl rfl (by omega) (Nat.le_of_ble_eq_true rfl) (Nat.le_of_ble_eq_true rfl) (Nat.le_of_ble_eq_true rfl) ?_
                refine ww_icmp_neN (tgt := 115) dX11_readUnit_102 (by decide) (by omega) (by omega) (fun c102 => ?_) (fun c102 => ?_)
                · refine ww_aload_n dX11_readUnit_115 rfl rfl ?_
                  refine ww_cVr (M := m_X11_readUnit) (pc := 116) (v := .int (nI 0)) (h1 := mrS (mwS h m W) m n (sk T n a) (-1) bk op) (st := []) (d := (d + 4)) (bc := 0) (bs := 0) (c_Mw_fact0 hst hM htf hB hn W (sk T n a) (-1) bk op (by omega) (sk_id (by omega)) hw5014) vv_X11_factHere dX11_readUnit_116 wg_1505 ((mwS_M hM W).K0) rfl rfl rfl rfl (by omega) (Nat.le_of_ble_eq_true rfl) (Nat.le_of_ble_eq_true rfl) (Nat.le_of_ble_eq_true rfl) ?_
                  refine ww_sti_n (lv2 := [.ref m, .int (nI 0)]) dX11_readUnit_119 rfl rfl (by decide) rfl ?_
                  refine ww_iload_n dX11_readUnit_120 rfl rfl ?_
                  refine ww_iconst (v := -1) dX11_readUnit_121 (by decide) ?_
                  refine ww_icmp_ne (tgt := 134) dX11_readUnit_122 (by decide) (fun c122 => ?_) (fun c122 => ?_)
                  · refine ww_aload_n dX11_readUnit_134 rfl rfl ?_
                    refine ww_cVr (M := m_X11_readUnit) (pc := 135) (v := .int (nI 1)) (h1 := mrS (mwS h m W) m n (sk T n a) (-1) bk op) (st := []) (d := (d + 4)) (bc := 0) (bs := 0) (c_MR_fine_t hst (mwS_M hM W) (mwS_t (W := W) htf) hB hn (sk T n a) bk op) vv_X11_fine dX11_readUnit_135 wg_1421 ((mwS_M hM W).K0) rfl rfl rfl rfl (by omega) (Nat.le_of_ble_eq_true rfl) (Nat.le_of_ble_eq_true rfl) (Nat.le_of_ble_eq_true rfl) ?_
                    refine ww_if_neN (tgt := 142) dX11_readUnit_138 (by decide) (by omega) (fun c138 => ?_) (fun c138 => ?_)
                    · refine ww_aload_n dX11_readUnit_142 rfl rfl ?_
                      refine ww_cV0 (M := m_X11_readUnit) (pc := 143) (h1 := mrS (mwS h m W) m n a5014 (-1) bk op) (st := []) (d := (d + 4)) (bc := 0) (bs := 0) (c_MR_pass_e hst (mwS_M hM W) (mwS_t (W := W) htf) hB hn (-1) bk op (sk T n a) (by omega) (hz5014.trans (by rw [sk_id (by omega)]))) vv_X11_pass dX11_readUnit_143 wg_1452 ((mwS_M hM W).K0) rfl rfl rfl rfl (by omega) (Nat.le_of_ble_eq_true rfl) (Nat.le_of_ble_eq_true rfl) (Nat.le_of_ble_eq_true rfl) ?_
                      refine ww_aload_n dX11_readUnit_146 rfl rfl ?_
                      refine ww_iconst (v := nI 1) dX11_readUnit_147 (by decide) ?_
                      refine ww_iload_n dX11_readUnit_148 rfl rfl ?_
                      have hW5015 : W.1 = L.1 := hw.1
                      have he5015 : (eL 1 0 L).1 = L.1 + 1 := rfl
                      refine ww_cV0 (M := m_X11_readUnit) (pc := 149) (h1 := mrS (mwS h m (eL 1 0 W)) m n a5014 (-1) bk op) (st := []) (d := (d + 4)) (bc := 0) (bs := 0) (c_Mw_emit_t hst hM htf hB hn W (by omega) a5014 bk op 1 0) vv_X11_emit dX11_readUnit_149 wg_1495 ((mwS_M hM W).K0) rfl rfl rfl rfl (by omega) (Nat.le_of_ble_eq_true rfl) (Nat.le_of_ble_eq_true rfl) (Nat.le_of_ble_eq_true rfl) ?_
                      exact ww_vret dX11_readUnit_152 rfl ⟨rfl, (by rw [unitF_w (fun _ => ⟨fun e => (by have e9 := dgC_t.mpr e; rw [c52] at e9; cases e9), c14⟩), hr5014, bS_r, if_neg (by decide)]; exact ⟨_, (MwR.e hw (k := 1) (by decide) 0), rfl⟩)⟩
                    · exact absurd c138 (by decide)
                  · exact absurd c122 (by decide)
                · exact absurd c102 (by decide)
              · exact absurd c80 (by decide)
            · have hw5014 : wdA T n (sk T n a) = 595412 := by
                obtain ⟨i, hi, hw⟩ := wM_r (by omega) wLaw_x (by decide) hr5014
                have e := Option.some.inj (show some 12 = some i from hi)
                rw [← e] at hw
                exact hw.trans (by decide +kernel)
              refine ww_cVr (M := m_X11_readUnit) (pc := 72) (v := .int (nI 595412)) (h1 := mrS (mwS h m W) m n (sk T n a) (-1) bk op) (st := []) (d := (d + 4)) (bc := 0) (bs := 0) (c_MR_word_i hst (mwS_M hM W) (mwS_t (W := W) htf) hB hn (-1) bk op (sk T n a) (by omega) (sk_id (by omega)) hw5014) vv_X11_word dX11_readUnit_72 wg_1433 ((mwS_M hM W).K0) rfl rfl rfl rfl (by omega) (Nat.le_of_ble_eq_true rfl) (Nat.le_of_ble_eq_true rfl) (Nat.le_of_ble_eq_true rfl) ?_
              refine ww_ldcS (i := 9) dX11_readUnit_75 rfl ?_
              refine ww_cSr (M := m_X11_readUnit) (pc := 77) (v := .int (nI 12748404)) (h1 := mrS (mwS h m W) m n (sk T n a) (-1) bk op) (st := [.int (nI 595412)]) (d := (d + 4)) (bc := 0) (bs := 0) (c_of_9 hst (mrS (mwS h m W) m n (sk T n a) (-1) bk op)) vv_X11_of dX11_readUnit_77 wg_1441 rfl rfl rfl (by omega) (Nat.le_of_ble_eq_true rfl) (Nat.le_of_ble_eq_true rfl) (Nat.le_of_ble_eq_true rfl) ?_
              refine ww_icmp_neN (tgt := 93) dX11_readUnit_80 (by decide) (by omega) (by omega) (fun c80 => ?_) (fun c80 => ?_)
              · refine ww_aload_n dX11_readUnit_93 rfl rfl ?_
                refine ww_cVr (M := m_X11_readUnit) (pc := 94) (v := .int (nI 595412)) (h1 := mrS (mwS h m W) m n (sk T n a) (-1) bk op) (st := []) (d := (d + 4)) (bc := 0) (bs := 0) (c_MR_word_i hst (mwS_M hM W) (mwS_t (W := W) htf) hB hn (-1) bk op (sk T n a) (by omega) (sk_id (by omega)) hw5014) vv_X11_word dX11_readUnit_94 wg_1433 ((mwS_M hM W).K0) rfl rfl rfl rfl (by omega) (Nat.le_of_ble_eq_true rfl) (Nat.le_of_ble_eq_true rfl) (Nat.le_of_ble_eq_true rfl) ?_
                refine ww_ldcS (i := 10) dX11_readUnit_97 rfl ?_
                refine ww_cSr (M := m_X11_readUnit) (pc := 99) (v := .int (nI 441972)) (h1 := mrS (mwS h m W) m n (sk T n a) (-1) bk op) (st := [.int (nI 595412)]) (d := (d + 4)) (bc := 0) (bs := 0) (c_of_10 hst (mrS (mwS h m W) m n (sk T n a) (-1) bk op)) vv_X11_of dX11_readUnit_99 wg_1441 rfl rfl rfl (by omega) (Nat.le_of_ble_eq_true rfl) (Nat.le_of_ble_eq_true rfl) (Nat.le_of_ble_eq_true rfl) ?_
                refine ww_icmp_neN (tgt := 115) dX11_readUnit_102 (by decide) (by omega) (by omega) (fun c102 => ?_) (fun c102 => ?_)
                · refine ww_aload_n dX11_readUnit_115 rfl rfl ?_
                  refine ww_cVr (M := m_X11_readUnit) (pc := 116) (v := .int (nI 1)) (h1 := mrS (mwS h m W) m n (sk T n a) (-1) bk op) (st := []) (d := (d + 4)) (bc := 0) (bs := 0) (c_Mw_fact1 hst hM htf hB hn W (sk T n a) (-1) bk op (by omega) (sk_id (by omega)) hw5014) vv_X11_factHere dX11_readUnit_116 wg_1505 ((mwS_M hM W).K0) rfl rfl rfl rfl (by omega) (Nat.le_of_ble_eq_true rfl) (Nat.le_of_ble_eq_true rfl) (Nat.le_of_ble_eq_true rfl) ?_
                  refine ww_sti_n (lv2 := [.ref m, .int (nI 1)]) dX11_readUnit_119 rfl rfl (by decide) rfl ?_
                  refine ww_iload_n dX11_readUnit_120 rfl rfl ?_
                  refine ww_iconst (v := -1) dX11_readUnit_121 (by decide) ?_
                  refine ww_icmp_ne (tgt := 134) dX11_readUnit_122 (by decide) (fun c122 => ?_) (fun c122 => ?_)
                  · refine ww_aload_n dX11_readUnit_134 rfl rfl ?_
                    refine ww_cVr (M := m_X11_readUnit) (pc := 135) (v := .int (nI 1)) (h1 := mrS (mwS h m W) m n (sk T n a) (-1) bk op) (st := []) (d := (d + 4)) (bc := 0) (bs := 0) (c_MR_fine_t hst (mwS_M hM W) (mwS_t (W := W) htf) hB hn (sk T n a) bk op) vv_X11_fine dX11_readUnit_135 wg_1421 ((mwS_M hM W).K0) rfl rfl rfl rfl (by omega) (Nat.le_of_ble_eq_true rfl) (Nat.le_of_ble_eq_true rfl) (Nat.le_of_ble_eq_true rfl) ?_
                    refine ww_if_neN (tgt := 142) dX11_readUnit_138 (by decide) (by omega) (fun c138 => ?_) (fun c138 => ?_)
                    · refine ww_aload_n dX11_readUnit_142 rfl rfl ?_
                      refine ww_cV0 (M := m_X11_readUnit) (pc := 143) (h1 := mrS (mwS h m W) m n a5014 (-1) bk op) (st := []) (d := (d + 4)) (bc := 0) (bs := 0) (c_MR_pass_e hst (mwS_M hM W) (mwS_t (W := W) htf) hB hn (-1) bk op (sk T n a) (by omega) (hz5014.trans (by rw [sk_id (by omega)]))) vv_X11_pass dX11_readUnit_143 wg_1452 ((mwS_M hM W).K0) rfl rfl rfl rfl (by omega) (Nat.le_of_ble_eq_true rfl) (Nat.le_of_ble_eq_true rfl) (Nat.le_of_ble_eq_true rfl) ?_
                      refine ww_aload_n dX11_readUnit_146 rfl rfl ?_
                      refine ww_iconst (v := nI 1) dX11_readUnit_147 (by decide) ?_
                      refine ww_iload_n dX11_readUnit_148 rfl rfl ?_
                      have hW5016 : W.1 = L.1 := hw.1
                      have he5016 : (eL 1 1 L).1 = L.1 + 1 := rfl
                      refine ww_cV0 (M := m_X11_readUnit) (pc := 149) (h1 := mrS (mwS h m (eL 1 1 W)) m n a5014 (-1) bk op) (st := []) (d := (d + 4)) (bc := 0) (bs := 0) (c_Mw_emit_t hst hM htf hB hn W (by omega) a5014 bk op 1 1) vv_X11_emit dX11_readUnit_149 wg_1495 ((mwS_M hM W).K0) rfl rfl rfl rfl (by omega) (Nat.le_of_ble_eq_true rfl) (Nat.le_of_ble_eq_true rfl) (Nat.le_of_ble_eq_true rfl) ?_
                      exact ww_vret dX11_readUnit_152 rfl ⟨rfl, (by rw [unitF_w (fun _ => ⟨fun e => (by have e9 := dgC_t.mpr e; rw [c52] at e9; cases e9), c14⟩), hr5014, bS_r, if_neg (by decide)]; exact ⟨_, (MwR.e hw (k := 1) (by decide) 1), rfl⟩)⟩
                    · exact absurd c138 (by decide)
                  · exact absurd c122 (by decide)
                · exact absurd c102 (by decide)
              · exact absurd c80 (by decide)
            · have hw5014 : wdA T n (sk T n a) = 23609 := by
                obtain ⟨i, hi, hw⟩ := wM_r (by omega) wLaw_x (by decide) hr5014
                have e := Option.some.inj (show some 13 = some i from hi)
                rw [← e] at hw
                exact hw.trans (by decide +kernel)
              refine ww_cVr (M := m_X11_readUnit) (pc := 72) (v := .int (nI 23609)) (h1 := mrS (mwS h m W) m n (sk T n a) (-1) bk op) (st := []) (d := (d + 4)) (bc := 0) (bs := 0) (c_MR_word_i hst (mwS_M hM W) (mwS_t (W := W) htf) hB hn (-1) bk op (sk T n a) (by omega) (sk_id (by omega)) hw5014) vv_X11_word dX11_readUnit_72 wg_1433 ((mwS_M hM W).K0) rfl rfl rfl rfl (by omega) (Nat.le_of_ble_eq_true rfl) (Nat.le_of_ble_eq_true rfl) (Nat.le_of_ble_eq_true rfl) ?_
              refine ww_ldcS (i := 9) dX11_readUnit_75 rfl ?_
              refine ww_cSr (M := m_X11_readUnit) (pc := 77) (v := .int (nI 12748404)) (h1 := mrS (mwS h m W) m n (sk T n a) (-1) bk op) (st := [.int (nI 23609)]) (d := (d + 4)) (bc := 0) (bs := 0) (c_of_9 hst (mrS (mwS h m W) m n (sk T n a) (-1) bk op)) vv_X11_of dX11_readUnit_77 wg_1441 rfl rfl rfl (by omega) (Nat.le_of_ble_eq_true rfl) (Nat.le_of_ble_eq_true rfl) (Nat.le_of_ble_eq_true rfl) ?_
              refine ww_icmp_neN (tgt := 93) dX11_readUnit_80 (by decide) (by omega) (by omega) (fun c80 => ?_) (fun c80 => ?_)
              · refine ww_aload_n dX11_readUnit_93 rfl rfl ?_
                refine ww_cVr (M := m_X11_readUnit) (pc := 94) (v := .int (nI 23609)) (h1 := mrS (mwS h m W) m n (sk T n a) (-1) bk op) (st := []) (d := (d + 4)) (bc := 0) (bs := 0) (c_MR_word_i hst (mwS_M hM W) (mwS_t (W := W) htf) hB hn (-1) bk op (sk T n a) (by omega) (sk_id (by omega)) hw5014) vv_X11_word dX11_readUnit_94 wg_1433 ((mwS_M hM W).K0) rfl rfl rfl rfl (by omega) (Nat.le_of_ble_eq_true rfl) (Nat.le_of_ble_eq_true rfl) (Nat.le_of_ble_eq_true rfl) ?_
                refine ww_ldcS (i := 10) dX11_readUnit_97 rfl ?_
                refine ww_cSr (M := m_X11_readUnit) (pc := 99) (v := .int (nI 441972)) (h1 := mrS (mwS h m W) m n (sk T n a) (-1) bk op) (st := [.int (nI 23609)]) (d := (d + 4)) (bc := 0) (bs := 0) (c_of_10 hst (mrS (mwS h m W) m n (sk T n a) (-1) bk op)) vv_X11_of dX11_readUnit_99 wg_1441 rfl rfl rfl (by omega) (Nat.le_of_ble_eq_true rfl) (Nat.le_of_ble_eq_true rfl) (Nat.le_of_ble_eq_true rfl) ?_
                refine ww_icmp_neN (tgt := 115) dX11_readUnit_102 (by decide) (by omega) (by omega) (fun c102 => ?_) (fun c102 => ?_)
                · refine ww_aload_n dX11_readUnit_115 rfl rfl ?_
                  refine ww_cVr (M := m_X11_readUnit) (pc := 116) (v := .int (nI 2)) (h1 := mrS (mwS h m W) m n (sk T n a) (-1) bk op) (st := []) (d := (d + 4)) (bc := 0) (bs := 0) (c_Mw_fact2 hst hM htf hB hn W (sk T n a) (-1) bk op (by omega) (sk_id (by omega)) hw5014) vv_X11_factHere dX11_readUnit_116 wg_1505 ((mwS_M hM W).K0) rfl rfl rfl rfl (by omega) (Nat.le_of_ble_eq_true rfl) (Nat.le_of_ble_eq_true rfl) (Nat.le_of_ble_eq_true rfl) ?_
                  refine ww_sti_n (lv2 := [.ref m, .int (nI 2)]) dX11_readUnit_119 rfl rfl (by decide) rfl ?_
                  refine ww_iload_n dX11_readUnit_120 rfl rfl ?_
                  refine ww_iconst (v := -1) dX11_readUnit_121 (by decide) ?_
                  refine ww_icmp_ne (tgt := 134) dX11_readUnit_122 (by decide) (fun c122 => ?_) (fun c122 => ?_)
                  · refine ww_aload_n dX11_readUnit_134 rfl rfl ?_
                    refine ww_cVr (M := m_X11_readUnit) (pc := 135) (v := .int (nI 1)) (h1 := mrS (mwS h m W) m n (sk T n a) (-1) bk op) (st := []) (d := (d + 4)) (bc := 0) (bs := 0) (c_MR_fine_t hst (mwS_M hM W) (mwS_t (W := W) htf) hB hn (sk T n a) bk op) vv_X11_fine dX11_readUnit_135 wg_1421 ((mwS_M hM W).K0) rfl rfl rfl rfl (by omega) (Nat.le_of_ble_eq_true rfl) (Nat.le_of_ble_eq_true rfl) (Nat.le_of_ble_eq_true rfl) ?_
                    refine ww_if_neN (tgt := 142) dX11_readUnit_138 (by decide) (by omega) (fun c138 => ?_) (fun c138 => ?_)
                    · refine ww_aload_n dX11_readUnit_142 rfl rfl ?_
                      refine ww_cV0 (M := m_X11_readUnit) (pc := 143) (h1 := mrS (mwS h m W) m n a5014 (-1) bk op) (st := []) (d := (d + 4)) (bc := 0) (bs := 0) (c_MR_pass_e hst (mwS_M hM W) (mwS_t (W := W) htf) hB hn (-1) bk op (sk T n a) (by omega) (hz5014.trans (by rw [sk_id (by omega)]))) vv_X11_pass dX11_readUnit_143 wg_1452 ((mwS_M hM W).K0) rfl rfl rfl rfl (by omega) (Nat.le_of_ble_eq_true rfl) (Nat.le_of_ble_eq_true rfl) (Nat.le_of_ble_eq_true rfl) ?_
                      refine ww_aload_n dX11_readUnit_146 rfl rfl ?_
                      refine ww_iconst (v := nI 1) dX11_readUnit_147 (by decide) ?_
                      refine ww_iload_n dX11_readUnit_148 rfl rfl ?_
                      have hW5017 : W.1 = L.1 := hw.1
                      have he5017 : (eL 1 2 L).1 = L.1 + 1 := rfl
                      refine ww_cV0 (M := m_X11_readUnit) (pc := 149) (h1 := mrS (mwS h m (eL 1 2 W)) m n a5014 (-1) bk op) (st := []) (d := (d + 4)) (bc := 0) (bs := 0) (c_Mw_emit_t hst hM htf hB hn W (by omega) a5014 bk op 1 2) vv_X11_emit dX11_readUnit_149 wg_1495 ((mwS_M hM W).K0) rfl rfl rfl rfl (by omega) (Nat.le_of_ble_eq_true rfl) (Nat.le_of_ble_eq_true rfl) (Nat.le_of_ble_eq_true rfl) ?_
                      exact ww_vret dX11_readUnit_152 rfl ⟨rfl, (by rw [unitF_w (fun _ => ⟨fun e => (by have e9 := dgC_t.mpr e; rw [c52] at e9; cases e9), c14⟩), hr5014, bS_r, if_neg (by decide)]; exact ⟨_, (MwR.e hw (k := 1) (by decide) 2), rfl⟩)⟩
                    · exact absurd c138 (by decide)
                  · exact absurd c122 (by decide)
                · exact absurd c102 (by decide)
              · exact absurd c80 (by decide)
            · have hw5014 : wdA T n (sk T n a) = 16496818 := by
                obtain ⟨i, hi, hw⟩ := wM_r (by omega) wLaw_x (by decide) hr5014
                have e := Option.some.inj (show some 14 = some i from hi)
                rw [← e] at hw
                exact hw.trans (by decide +kernel)
              refine ww_cVr (M := m_X11_readUnit) (pc := 72) (v := .int (nI 16496818)) (h1 := mrS (mwS h m W) m n (sk T n a) (-1) bk op) (st := []) (d := (d + 4)) (bc := 0) (bs := 0) (c_MR_word_i hst (mwS_M hM W) (mwS_t (W := W) htf) hB hn (-1) bk op (sk T n a) (by omega) (sk_id (by omega)) hw5014) vv_X11_word dX11_readUnit_72 wg_1433 ((mwS_M hM W).K0) rfl rfl rfl rfl (by omega) (Nat.le_of_ble_eq_true rfl) (Nat.le_of_ble_eq_true rfl) (Nat.le_of_ble_eq_true rfl) ?_
              refine ww_ldcS (i := 9) dX11_readUnit_75 rfl ?_
              refine ww_cSr (M := m_X11_readUnit) (pc := 77) (v := .int (nI 12748404)) (h1 := mrS (mwS h m W) m n (sk T n a) (-1) bk op) (st := [.int (nI 16496818)]) (d := (d + 4)) (bc := 0) (bs := 0) (c_of_9 hst (mrS (mwS h m W) m n (sk T n a) (-1) bk op)) vv_X11_of dX11_readUnit_77 wg_1441 rfl rfl rfl (by omega) (Nat.le_of_ble_eq_true rfl) (Nat.le_of_ble_eq_true rfl) (Nat.le_of_ble_eq_true rfl) ?_
              refine ww_icmp_neN (tgt := 93) dX11_readUnit_80 (by decide) (by omega) (by omega) (fun c80 => ?_) (fun c80 => ?_)
              · refine ww_aload_n dX11_readUnit_93 rfl rfl ?_
                refine ww_cVr (M := m_X11_readUnit) (pc := 94) (v := .int (nI 16496818)) (h1 := mrS (mwS h m W) m n (sk T n a) (-1) bk op) (st := []) (d := (d + 4)) (bc := 0) (bs := 0) (c_MR_word_i hst (mwS_M hM W) (mwS_t (W := W) htf) hB hn (-1) bk op (sk T n a) (by omega) (sk_id (by omega)) hw5014) vv_X11_word dX11_readUnit_94 wg_1433 ((mwS_M hM W).K0) rfl rfl rfl rfl (by omega) (Nat.le_of_ble_eq_true rfl) (Nat.le_of_ble_eq_true rfl) (Nat.le_of_ble_eq_true rfl) ?_
                refine ww_ldcS (i := 10) dX11_readUnit_97 rfl ?_
                refine ww_cSr (M := m_X11_readUnit) (pc := 99) (v := .int (nI 441972)) (h1 := mrS (mwS h m W) m n (sk T n a) (-1) bk op) (st := [.int (nI 16496818)]) (d := (d + 4)) (bc := 0) (bs := 0) (c_of_10 hst (mrS (mwS h m W) m n (sk T n a) (-1) bk op)) vv_X11_of dX11_readUnit_99 wg_1441 rfl rfl rfl (by omega) (Nat.le_of_ble_eq_true rfl) (Nat.le_of_ble_eq_true rfl) (Nat.le_of_ble_eq_true rfl) ?_
                refine ww_icmp_neN (tgt := 115) dX11_readUnit_102 (by decide) (by omega) (by omega) (fun c102 => ?_) (fun c102 => ?_)
                · refine ww_aload_n dX11_readUnit_115 rfl rfl ?_
                  refine ww_cVr (M := m_X11_readUnit) (pc := 116) (v := .int (nI 3)) (h1 := mrS (mwS h m W) m n (sk T n a) (-1) bk op) (st := []) (d := (d + 4)) (bc := 0) (bs := 0) (c_Mw_fact3 hst hM htf hB hn W (sk T n a) (-1) bk op (by omega) (sk_id (by omega)) hw5014) vv_X11_factHere dX11_readUnit_116 wg_1505 ((mwS_M hM W).K0) rfl rfl rfl rfl (by omega) (Nat.le_of_ble_eq_true rfl) (Nat.le_of_ble_eq_true rfl) (Nat.le_of_ble_eq_true rfl) ?_
                  refine ww_sti_n (lv2 := [.ref m, .int (nI 3)]) dX11_readUnit_119 rfl rfl (by decide) rfl ?_
                  refine ww_iload_n dX11_readUnit_120 rfl rfl ?_
                  refine ww_iconst (v := -1) dX11_readUnit_121 (by decide) ?_
                  refine ww_icmp_ne (tgt := 134) dX11_readUnit_122 (by decide) (fun c122 => ?_) (fun c122 => ?_)
                  · refine ww_aload_n dX11_readUnit_134 rfl rfl ?_
                    refine ww_cVr (M := m_X11_readUnit) (pc := 135) (v := .int (nI 1)) (h1 := mrS (mwS h m W) m n (sk T n a) (-1) bk op) (st := []) (d := (d + 4)) (bc := 0) (bs := 0) (c_MR_fine_t hst (mwS_M hM W) (mwS_t (W := W) htf) hB hn (sk T n a) bk op) vv_X11_fine dX11_readUnit_135 wg_1421 ((mwS_M hM W).K0) rfl rfl rfl rfl (by omega) (Nat.le_of_ble_eq_true rfl) (Nat.le_of_ble_eq_true rfl) (Nat.le_of_ble_eq_true rfl) ?_
                    refine ww_if_neN (tgt := 142) dX11_readUnit_138 (by decide) (by omega) (fun c138 => ?_) (fun c138 => ?_)
                    · refine ww_aload_n dX11_readUnit_142 rfl rfl ?_
                      refine ww_cV0 (M := m_X11_readUnit) (pc := 143) (h1 := mrS (mwS h m W) m n a5014 (-1) bk op) (st := []) (d := (d + 4)) (bc := 0) (bs := 0) (c_MR_pass_e hst (mwS_M hM W) (mwS_t (W := W) htf) hB hn (-1) bk op (sk T n a) (by omega) (hz5014.trans (by rw [sk_id (by omega)]))) vv_X11_pass dX11_readUnit_143 wg_1452 ((mwS_M hM W).K0) rfl rfl rfl rfl (by omega) (Nat.le_of_ble_eq_true rfl) (Nat.le_of_ble_eq_true rfl) (Nat.le_of_ble_eq_true rfl) ?_
                      refine ww_aload_n dX11_readUnit_146 rfl rfl ?_
                      refine ww_iconst (v := nI 1) dX11_readUnit_147 (by decide) ?_
                      refine ww_iload_n dX11_readUnit_148 rfl rfl ?_
                      have hW5018 : W.1 = L.1 := hw.1
                      have he5018 : (eL 1 3 L).1 = L.1 + 1 := rfl
                      refine ww_cV0 (M := m_X11_readUnit) (pc := 149) (h1 := mrS (mwS h m (eL 1 3 W)) m n a5014 (-1) bk op) (st := []) (d := (d + 4)) (bc := 0) (bs := 0) (c_Mw_emit_t hst hM htf hB hn W (by omega) a5014 bk op 1 3) vv_X11_emit dX11_readUnit_149 wg_1495 ((mwS_M hM W).K0) rfl rfl rfl rfl (by omega) (Nat.le_of_ble_eq_true rfl) (Nat.le_of_ble_eq_true rfl) (Nat.le_of_ble_eq_true rfl) ?_
                      exact ww_vret dX11_readUnit_152 rfl ⟨rfl, (by rw [unitF_w (fun _ => ⟨fun e => (by have e9 := dgC_t.mpr e; rw [c52] at e9; cases e9), c14⟩), hr5014, bS_r, if_neg (by decide)]; exact ⟨_, (MwR.e hw (k := 1) (by decide) 3), rfl⟩)⟩
                    · exact absurd c138 (by decide)
                  · exact absurd c122 (by decide)
                · exact absurd c102 (by decide)
              · exact absurd c80 (by decide)
            · have hw5014 : wdA T n (sk T n a) = 16829075 := by
                obtain ⟨i, hi, hw⟩ := wM_r (by omega) wLaw_x (by decide) hr5014
                have e := Option.some.inj (show some 15 = some i from hi)
                rw [← e] at hw
                exact hw.trans (by decide +kernel)
              refine ww_cVr (M := m_X11_readUnit) (pc := 72) (v := .int (nI 16829075)) (h1 := mrS (mwS h m W) m n (sk T n a) (-1) bk op) (st := []) (d := (d + 4)) (bc := 0) (bs := 0) (c_MR_word_i hst (mwS_M hM W) (mwS_t (W := W) htf) hB hn (-1) bk op (sk T n a) (by omega) (sk_id (by omega)) hw5014) vv_X11_word dX11_readUnit_72 wg_1433 ((mwS_M hM W).K0) rfl rfl rfl rfl (by omega) (Nat.le_of_ble_eq_true rfl) (Nat.le_of_ble_eq_true rfl) (Nat.le_of_ble_eq_true rfl) ?_
              refine ww_ldcS (i := 9) dX11_readUnit_75 rfl ?_
              refine ww_cSr (M := m_X11_readUnit) (pc := 77) (v := .int (nI 12748404)) (h1 := mrS (mwS h m W) m n (sk T n a) (-1) bk op) (st := [.int (nI 16829075)]) (d := (d + 4)) (bc := 0) (bs := 0) (c_of_9 hst (mrS (mwS h m W) m n (sk T n a) (-1) bk op)) vv_X11_of dX11_readUnit_77 wg_1441 rfl rfl rfl (by omega) (Nat.le_of_ble_eq_true rfl) (Nat.le_of_ble_eq_true rfl) (Nat.le_of_ble_eq_true rfl) ?_
              refine ww_icmp_neN (tgt := 93) dX11_readUnit_80 (by decide) (by omega) (by omega) (fun c80 => ?_) (fun c80 => ?_)
              · refine ww_aload_n dX11_readUnit_93 rfl rfl ?_
                refine ww_cVr (M := m_X11_readUnit) (pc := 94) (v := .int (nI 16829075)) (h1 := mrS (mwS h m W) m n (sk T n a) (-1) bk op) (st := []) (d := (d + 4)) (bc := 0) (bs := 0) (c_MR_word_i hst (mwS_M hM W) (mwS_t (W := W) htf) hB hn (-1) bk op (sk T n a) (by omega) (sk_id (by omega)) hw5014) vv_X11_word dX11_readUnit_94 wg_1433 ((mwS_M hM W).K0) rfl rfl rfl rfl (by omega) (Nat.le_of_ble_eq_true rfl) (Nat.le_of_ble_eq_true rfl) (Nat.le_of_ble_eq_true rfl) ?_
                refine ww_ldcS (i := 10) dX11_readUnit_97 rfl ?_
                refine ww_cSr (M := m_X11_readUnit) (pc := 99) (v := .int (nI 441972)) (h1 := mrS (mwS h m W) m n (sk T n a) (-1) bk op) (st := [.int (nI 16829075)]) (d := (d + 4)) (bc := 0) (bs := 0) (c_of_10 hst (mrS (mwS h m W) m n (sk T n a) (-1) bk op)) vv_X11_of dX11_readUnit_99 wg_1441 rfl rfl rfl (by omega) (Nat.le_of_ble_eq_true rfl) (Nat.le_of_ble_eq_true rfl) (Nat.le_of_ble_eq_true rfl) ?_
                refine ww_icmp_neN (tgt := 115) dX11_readUnit_102 (by decide) (by omega) (by omega) (fun c102 => ?_) (fun c102 => ?_)
                · refine ww_aload_n dX11_readUnit_115 rfl rfl ?_
                  refine ww_cVr (M := m_X11_readUnit) (pc := 116) (v := .int (nI 4)) (h1 := mrS (mwS h m W) m n (sk T n a) (-1) bk op) (st := []) (d := (d + 4)) (bc := 0) (bs := 0) (c_Mw_fact4 hst hM htf hB hn W (sk T n a) (-1) bk op (by omega) (sk_id (by omega)) hw5014) vv_X11_factHere dX11_readUnit_116 wg_1505 ((mwS_M hM W).K0) rfl rfl rfl rfl (by omega) (Nat.le_of_ble_eq_true rfl) (Nat.le_of_ble_eq_true rfl) (Nat.le_of_ble_eq_true rfl) ?_
                  refine ww_sti_n (lv2 := [.ref m, .int (nI 4)]) dX11_readUnit_119 rfl rfl (by decide) rfl ?_
                  refine ww_iload_n dX11_readUnit_120 rfl rfl ?_
                  refine ww_iconst (v := -1) dX11_readUnit_121 (by decide) ?_
                  refine ww_icmp_ne (tgt := 134) dX11_readUnit_122 (by decide) (fun c122 => ?_) (fun c122 => ?_)
                  · refine ww_aload_n dX11_readUnit_134 rfl rfl ?_
                    refine ww_cVr (M := m_X11_readUnit) (pc := 135) (v := .int (nI 1)) (h1 := mrS (mwS h m W) m n (sk T n a) (-1) bk op) (st := []) (d := (d + 4)) (bc := 0) (bs := 0) (c_MR_fine_t hst (mwS_M hM W) (mwS_t (W := W) htf) hB hn (sk T n a) bk op) vv_X11_fine dX11_readUnit_135 wg_1421 ((mwS_M hM W).K0) rfl rfl rfl rfl (by omega) (Nat.le_of_ble_eq_true rfl) (Nat.le_of_ble_eq_true rfl) (Nat.le_of_ble_eq_true rfl) ?_
                    refine ww_if_neN (tgt := 142) dX11_readUnit_138 (by decide) (by omega) (fun c138 => ?_) (fun c138 => ?_)
                    · refine ww_aload_n dX11_readUnit_142 rfl rfl ?_
                      refine ww_cV0 (M := m_X11_readUnit) (pc := 143) (h1 := mrS (mwS h m W) m n a5014 (-1) bk op) (st := []) (d := (d + 4)) (bc := 0) (bs := 0) (c_MR_pass_e hst (mwS_M hM W) (mwS_t (W := W) htf) hB hn (-1) bk op (sk T n a) (by omega) (hz5014.trans (by rw [sk_id (by omega)]))) vv_X11_pass dX11_readUnit_143 wg_1452 ((mwS_M hM W).K0) rfl rfl rfl rfl (by omega) (Nat.le_of_ble_eq_true rfl) (Nat.le_of_ble_eq_true rfl) (Nat.le_of_ble_eq_true rfl) ?_
                      refine ww_aload_n dX11_readUnit_146 rfl rfl ?_
                      refine ww_iconst (v := nI 1) dX11_readUnit_147 (by decide) ?_
                      refine ww_iload_n dX11_readUnit_148 rfl rfl ?_
                      have hW5019 : W.1 = L.1 := hw.1
                      have he5019 : (eL 1 4 L).1 = L.1 + 1 := rfl
                      refine ww_cV0 (M := m_X11_readUnit) (pc := 149) (h1 := mrS (mwS h m (eL 1 4 W)) m n a5014 (-1) bk op) (st := []) (d := (d + 4)) (bc := 0) (bs := 0) (c_Mw_emit_t hst hM htf hB hn W (by omega) a5014 bk op 1 4) vv_X11_emit dX11_readUnit_149 wg_1495 ((mwS_M hM W).K0) rfl rfl rfl rfl (by omega) (Nat.le_of_ble_eq_true rfl) (Nat.le_of_ble_eq_true rfl) (Nat.le_of_ble_eq_true rfl) ?_
                      exact ww_vret dX11_readUnit_152 rfl ⟨rfl, (by rw [unitF_w (fun _ => ⟨fun e => (by have e9 := dgC_t.mpr e; rw [c52] at e9; cases e9), c14⟩), hr5014, bS_r, if_neg (by decide)]; exact ⟨_, (MwR.e hw (k := 1) (by decide) 4), rfl⟩)⟩
                    · exact absurd c138 (by decide)
                  · exact absurd c122 (by decide)
                · exact absurd c102 (by decide)
              · exact absurd c80 (by decide)
            · have hw5014 : wdA T n (sk T n a) = 707748 := by
                obtain ⟨i, hi, hw⟩ := wM_r (by omega) wLaw_x (by decide) hr5014
                have e := Option.some.inj (show some 16 = some i from hi)
                rw [← e] at hw
                exact hw.trans (by decide +kernel)
              refine ww_cVr (M := m_X11_readUnit) (pc := 72) (v := .int (nI 707748)) (h1 := mrS (mwS h m W) m n (sk T n a) (-1) bk op) (st := []) (d := (d + 4)) (bc := 0) (bs := 0) (c_MR_word_i hst (mwS_M hM W) (mwS_t (W := W) htf) hB hn (-1) bk op (sk T n a) (by omega) (sk_id (by omega)) hw5014) vv_X11_word dX11_readUnit_72 wg_1433 ((mwS_M hM W).K0) rfl rfl rfl rfl (by omega) (Nat.le_of_ble_eq_true rfl) (Nat.le_of_ble_eq_true rfl) (Nat.le_of_ble_eq_true rfl) ?_
              refine ww_ldcS (i := 9) dX11_readUnit_75 rfl ?_
              refine ww_cSr (M := m_X11_readUnit) (pc := 77) (v := .int (nI 12748404)) (h1 := mrS (mwS h m W) m n (sk T n a) (-1) bk op) (st := [.int (nI 707748)]) (d := (d + 4)) (bc := 0) (bs := 0) (c_of_9 hst (mrS (mwS h m W) m n (sk T n a) (-1) bk op)) vv_X11_of dX11_readUnit_77 wg_1441 rfl rfl rfl (by omega) (Nat.le_of_ble_eq_true rfl) (Nat.le_of_ble_eq_true rfl) (Nat.le_of_ble_eq_true rfl) ?_
              refine ww_icmp_neN (tgt := 93) dX11_readUnit_80 (by decide) (by omega) (by omega) (fun c80 => ?_) (fun c80 => ?_)
              · refine ww_aload_n dX11_readUnit_93 rfl rfl ?_
                refine ww_cVr (M := m_X11_readUnit) (pc := 94) (v := .int (nI 707748)) (h1 := mrS (mwS h m W) m n (sk T n a) (-1) bk op) (st := []) (d := (d + 4)) (bc := 0) (bs := 0) (c_MR_word_i hst (mwS_M hM W) (mwS_t (W := W) htf) hB hn (-1) bk op (sk T n a) (by omega) (sk_id (by omega)) hw5014) vv_X11_word dX11_readUnit_94 wg_1433 ((mwS_M hM W).K0) rfl rfl rfl rfl (by omega) (Nat.le_of_ble_eq_true rfl) (Nat.le_of_ble_eq_true rfl) (Nat.le_of_ble_eq_true rfl) ?_
                refine ww_ldcS (i := 10) dX11_readUnit_97 rfl ?_
                refine ww_cSr (M := m_X11_readUnit) (pc := 99) (v := .int (nI 441972)) (h1 := mrS (mwS h m W) m n (sk T n a) (-1) bk op) (st := [.int (nI 707748)]) (d := (d + 4)) (bc := 0) (bs := 0) (c_of_10 hst (mrS (mwS h m W) m n (sk T n a) (-1) bk op)) vv_X11_of dX11_readUnit_99 wg_1441 rfl rfl rfl (by omega) (Nat.le_of_ble_eq_true rfl) (Nat.le_of_ble_eq_true rfl) (Nat.le_of_ble_eq_true rfl) ?_
                refine ww_icmp_neN (tgt := 115) dX11_readUnit_102 (by decide) (by omega) (by omega) (fun c102 => ?_) (fun c102 => ?_)
                · refine ww_aload_n dX11_readUnit_115 rfl rfl ?_
                  refine ww_cVr (M := m_X11_readUnit) (pc := 116) (v := .int (nI 5)) (h1 := mrS (mwS h m W) m n (sk T n a) (-1) bk op) (st := []) (d := (d + 4)) (bc := 0) (bs := 0) (c_Mw_fact5 hst hM htf hB hn W (sk T n a) (-1) bk op (by omega) (sk_id (by omega)) hw5014) vv_X11_factHere dX11_readUnit_116 wg_1505 ((mwS_M hM W).K0) rfl rfl rfl rfl (by omega) (Nat.le_of_ble_eq_true rfl) (Nat.le_of_ble_eq_true rfl) (Nat.le_of_ble_eq_true rfl) ?_
                  refine ww_sti_n (lv2 := [.ref m, .int (nI 5)]) dX11_readUnit_119 rfl rfl (by decide) rfl ?_
                  refine ww_iload_n dX11_readUnit_120 rfl rfl ?_
                  refine ww_iconst (v := -1) dX11_readUnit_121 (by decide) ?_
                  refine ww_icmp_ne (tgt := 134) dX11_readUnit_122 (by decide) (fun c122 => ?_) (fun c122 => ?_)
                  · refine ww_aload_n dX11_readUnit_134 rfl rfl ?_
                    refine ww_cVr (M := m_X11_readUnit) (pc := 135) (v := .int (nI 1)) (h1 := mrS (mwS h m W) m n (sk T n a) (-1) bk op) (st := []) (d := (d + 4)) (bc := 0) (bs := 0) (c_MR_fine_t hst (mwS_M hM W) (mwS_t (W := W) htf) hB hn (sk T n a) bk op) vv_X11_fine dX11_readUnit_135 wg_1421 ((mwS_M hM W).K0) rfl rfl rfl rfl (by omega) (Nat.le_of_ble_eq_true rfl) (Nat.le_of_ble_eq_true rfl) (Nat.le_of_ble_eq_true rfl) ?_
                    refine ww_if_neN (tgt := 142) dX11_readUnit_138 (by decide) (by omega) (fun c138 => ?_) (fun c138 => ?_)
                    · refine ww_aload_n dX11_readUnit_142 rfl rfl ?_
                      refine ww_cV0 (M := m_X11_readUnit) (pc := 143) (h1 := mrS (mwS h m W) m n a5014 (-1) bk op) (st := []) (d := (d + 4)) (bc := 0) (bs := 0) (c_MR_pass_e hst (mwS_M hM W) (mwS_t (W := W) htf) hB hn (-1) bk op (sk T n a) (by omega) (hz5014.trans (by rw [sk_id (by omega)]))) vv_X11_pass dX11_readUnit_143 wg_1452 ((mwS_M hM W).K0) rfl rfl rfl rfl (by omega) (Nat.le_of_ble_eq_true rfl) (Nat.le_of_ble_eq_true rfl) (Nat.le_of_ble_eq_true rfl) ?_
                      refine ww_aload_n dX11_readUnit_146 rfl rfl ?_
                      refine ww_iconst (v := nI 1) dX11_readUnit_147 (by decide) ?_
                      refine ww_iload_n dX11_readUnit_148 rfl rfl ?_
                      have hW5020 : W.1 = L.1 := hw.1
                      have he5020 : (eL 1 5 L).1 = L.1 + 1 := rfl
                      refine ww_cV0 (M := m_X11_readUnit) (pc := 149) (h1 := mrS (mwS h m (eL 1 5 W)) m n a5014 (-1) bk op) (st := []) (d := (d + 4)) (bc := 0) (bs := 0) (c_Mw_emit_t hst hM htf hB hn W (by omega) a5014 bk op 1 5) vv_X11_emit dX11_readUnit_149 wg_1495 ((mwS_M hM W).K0) rfl rfl rfl rfl (by omega) (Nat.le_of_ble_eq_true rfl) (Nat.le_of_ble_eq_true rfl) (Nat.le_of_ble_eq_true rfl) ?_
                      exact ww_vret dX11_readUnit_152 rfl ⟨rfl, (by rw [unitF_w (fun _ => ⟨fun e => (by have e9 := dgC_t.mpr e; rw [c52] at e9; cases e9), c14⟩), hr5014, bS_r, if_neg (by decide)]; exact ⟨_, (MwR.e hw (k := 1) (by decide) 5), rfl⟩)⟩
                    · exact absurd c138 (by decide)
                  · exact absurd c122 (by decide)
                · exact absurd c102 (by decide)
              · exact absurd c80 (by decide)
            · have hw5014 : wdA T n (sk T n a) = 4153 := by
                obtain ⟨i, hi, hw⟩ := wM_r (by omega) wLaw_x (by decide) hr5014
                have e := Option.some.inj (show some 17 = some i from hi)
                rw [← e] at hw
                exact hw.trans (by decide +kernel)
              refine ww_cVr (M := m_X11_readUnit) (pc := 72) (v := .int (nI 4153)) (h1 := mrS (mwS h m W) m n (sk T n a) (-1) bk op) (st := []) (d := (d + 4)) (bc := 0) (bs := 0) (c_MR_word_i hst (mwS_M hM W) (mwS_t (W := W) htf) hB hn (-1) bk op (sk T n a) (by omega) (sk_id (by omega)) hw5014) vv_X11_word dX11_readUnit_72 wg_1433 ((mwS_M hM W).K0) rfl rfl rfl rfl (by omega) (Nat.le_of_ble_eq_true rfl) (Nat.le_of_ble_eq_true rfl) (Nat.le_of_ble_eq_true rfl) ?_
              refine ww_ldcS (i := 9) dX11_readUnit_75 rfl ?_
              refine ww_cSr (M := m_X11_readUnit) (pc := 77) (v := .int (nI 12748404)) (h1 := mrS (mwS h m W) m n (sk T n a) (-1) bk op) (st := [.int (nI 4153)]) (d := (d + 4)) (bc := 0) (bs := 0) (c_of_9 hst (mrS (mwS h m W) m n (sk T n a) (-1) bk op)) vv_X11_of dX11_readUnit_77 wg_1441 rfl rfl rfl (by omega) (Nat.le_of_ble_eq_true rfl) (Nat.le_of_ble_eq_true rfl) (Nat.le_of_ble_eq_true rfl) ?_
              refine ww_icmp_neN (tgt := 93) dX11_readUnit_80 (by decide) (by omega) (by omega) (fun c80 => ?_) (fun c80 => ?_)
              · refine ww_aload_n dX11_readUnit_93 rfl rfl ?_
                refine ww_cVr (M := m_X11_readUnit) (pc := 94) (v := .int (nI 4153)) (h1 := mrS (mwS h m W) m n (sk T n a) (-1) bk op) (st := []) (d := (d + 4)) (bc := 0) (bs := 0) (c_MR_word_i hst (mwS_M hM W) (mwS_t (W := W) htf) hB hn (-1) bk op (sk T n a) (by omega) (sk_id (by omega)) hw5014) vv_X11_word dX11_readUnit_94 wg_1433 ((mwS_M hM W).K0) rfl rfl rfl rfl (by omega) (Nat.le_of_ble_eq_true rfl) (Nat.le_of_ble_eq_true rfl) (Nat.le_of_ble_eq_true rfl) ?_
                refine ww_ldcS (i := 10) dX11_readUnit_97 rfl ?_
                refine ww_cSr (M := m_X11_readUnit) (pc := 99) (v := .int (nI 441972)) (h1 := mrS (mwS h m W) m n (sk T n a) (-1) bk op) (st := [.int (nI 4153)]) (d := (d + 4)) (bc := 0) (bs := 0) (c_of_10 hst (mrS (mwS h m W) m n (sk T n a) (-1) bk op)) vv_X11_of dX11_readUnit_99 wg_1441 rfl rfl rfl (by omega) (Nat.le_of_ble_eq_true rfl) (Nat.le_of_ble_eq_true rfl) (Nat.le_of_ble_eq_true rfl) ?_
                refine ww_icmp_neN (tgt := 115) dX11_readUnit_102 (by decide) (by omega) (by omega) (fun c102 => ?_) (fun c102 => ?_)
                · refine ww_aload_n dX11_readUnit_115 rfl rfl ?_
                  refine ww_cVr (M := m_X11_readUnit) (pc := 116) (v := .int (nI 6)) (h1 := mrS (mwS h m W) m n (sk T n a) (-1) bk op) (st := []) (d := (d + 4)) (bc := 0) (bs := 0) (c_Mw_fact6 hst hM htf hB hn W (sk T n a) (-1) bk op (by omega) (sk_id (by omega)) hw5014) vv_X11_factHere dX11_readUnit_116 wg_1505 ((mwS_M hM W).K0) rfl rfl rfl rfl (by omega) (Nat.le_of_ble_eq_true rfl) (Nat.le_of_ble_eq_true rfl) (Nat.le_of_ble_eq_true rfl) ?_
                  refine ww_sti_n (lv2 := [.ref m, .int (nI 6)]) dX11_readUnit_119 rfl rfl (by decide) rfl ?_
                  refine ww_iload_n dX11_readUnit_120 rfl rfl ?_
                  refine ww_iconst (v := -1) dX11_readUnit_121 (by decide) ?_
                  refine ww_icmp_ne (tgt := 134) dX11_readUnit_122 (by decide) (fun c122 => ?_) (fun c122 => ?_)
                  · refine ww_aload_n dX11_readUnit_134 rfl rfl ?_
                    refine ww_cVr (M := m_X11_readUnit) (pc := 135) (v := .int (nI 1)) (h1 := mrS (mwS h m W) m n (sk T n a) (-1) bk op) (st := []) (d := (d + 4)) (bc := 0) (bs := 0) (c_MR_fine_t hst (mwS_M hM W) (mwS_t (W := W) htf) hB hn (sk T n a) bk op) vv_X11_fine dX11_readUnit_135 wg_1421 ((mwS_M hM W).K0) rfl rfl rfl rfl (by omega) (Nat.le_of_ble_eq_true rfl) (Nat.le_of_ble_eq_true rfl) (Nat.le_of_ble_eq_true rfl) ?_
                    refine ww_if_neN (tgt := 142) dX11_readUnit_138 (by decide) (by omega) (fun c138 => ?_) (fun c138 => ?_)
                    · refine ww_aload_n dX11_readUnit_142 rfl rfl ?_
                      refine ww_cV0 (M := m_X11_readUnit) (pc := 143) (h1 := mrS (mwS h m W) m n a5014 (-1) bk op) (st := []) (d := (d + 4)) (bc := 0) (bs := 0) (c_MR_pass_e hst (mwS_M hM W) (mwS_t (W := W) htf) hB hn (-1) bk op (sk T n a) (by omega) (hz5014.trans (by rw [sk_id (by omega)]))) vv_X11_pass dX11_readUnit_143 wg_1452 ((mwS_M hM W).K0) rfl rfl rfl rfl (by omega) (Nat.le_of_ble_eq_true rfl) (Nat.le_of_ble_eq_true rfl) (Nat.le_of_ble_eq_true rfl) ?_
                      refine ww_aload_n dX11_readUnit_146 rfl rfl ?_
                      refine ww_iconst (v := nI 1) dX11_readUnit_147 (by decide) ?_
                      refine ww_iload_n dX11_readUnit_148 rfl rfl ?_
                      have hW5021 : W.1 = L.1 := hw.1
                      have he5021 : (eL 1 6 L).1 = L.1 + 1 := rfl
                      refine ww_cV0 (M := m_X11_readUnit) (pc := 149) (h1 := mrS (mwS h m (eL 1 6 W)) m n a5014 (-1) bk op) (st := []) (d := (d + 4)) (bc := 0) (bs := 0) (c_Mw_emit_t hst hM htf hB hn W (by omega) a5014 bk op 1 6) vv_X11_emit dX11_readUnit_149 wg_1495 ((mwS_M hM W).K0) rfl rfl rfl rfl (by omega) (Nat.le_of_ble_eq_true rfl) (Nat.le_of_ble_eq_true rfl) (Nat.le_of_ble_eq_true rfl) ?_
                      exact ww_vret dX11_readUnit_152 rfl ⟨rfl, (by rw [unitF_w (fun _ => ⟨fun e => (by have e9 := dgC_t.mpr e; rw [c52] at e9; cases e9), c14⟩), hr5014, bS_r, if_neg (by decide)]; exact ⟨_, (MwR.e hw (k := 1) (by decide) 6), rfl⟩)⟩
                    · exact absurd c138 (by decide)
                  · exact absurd c122 (by decide)
                · exact absurd c102 (by decide)
              · exact absurd c80 (by decide)
            · have hw5014 : wdA T n (sk T n a) = 12748404 := by
                obtain ⟨i, hi, hw⟩ := wM_r (by omega) wLaw_x (by decide) hr5014
                have e := Option.some.inj (show some 9 = some i from hi)
                rw [← e] at hw
                exact hw.trans (by decide +kernel)
              refine ww_cVr (M := m_X11_readUnit) (pc := 72) (v := .int (nI 12748404)) (h1 := mrS (mwS h m W) m n (sk T n a) (-1) bk op) (st := []) (d := (d + 4)) (bc := 0) (bs := 0) (c_MR_word_i hst (mwS_M hM W) (mwS_t (W := W) htf) hB hn (-1) bk op (sk T n a) (by omega) (sk_id (by omega)) hw5014) vv_X11_word dX11_readUnit_72 wg_1433 ((mwS_M hM W).K0) rfl rfl rfl rfl (by omega) (Nat.le_of_ble_eq_true rfl) (Nat.le_of_ble_eq_true rfl) (Nat.le_of_ble_eq_true rfl) ?_
              refine ww_ldcS (i := 9) dX11_readUnit_75 rfl ?_
              refine ww_cSr (M := m_X11_readUnit) (pc := 77) (v := .int (nI 12748404)) (h1 := mrS (mwS h m W) m n (sk T n a) (-1) bk op) (st := [.int (nI 12748404)]) (d := (d + 4)) (bc := 0) (bs := 0) (c_of_9 hst (mrS (mwS h m W) m n (sk T n a) (-1) bk op)) vv_X11_of dX11_readUnit_77 wg_1441 rfl rfl rfl (by omega) (Nat.le_of_ble_eq_true rfl) (Nat.le_of_ble_eq_true rfl) (Nat.le_of_ble_eq_true rfl) ?_
              refine ww_icmp_neN (tgt := 93) dX11_readUnit_80 (by decide) (by omega) (by omega) (fun c80 => ?_) (fun c80 => ?_)
              · exact absurd c80 (by decide)
              · refine ww_aload_n dX11_readUnit_83 rfl rfl ?_
                refine ww_iconst (v := nI 5) dX11_readUnit_84 (by decide) ?_
                refine ww_bipush (v := nI 6) dX11_readUnit_85 (by decide) ?_
                have hab6 : a5014 = sk T n a + 5 := by have h9 := wr_least hr5014; rw [sk_id (by omega)] at h9; exact h9
                refine ww_cVq0 (M := m_X11_readUnit) (pc := 87) (st := []) (d := (d + 4)) (bc := 0) (bs := 0) (c_Mw_two1_6 hst hM htf hB hn bk op hn5 hd6 (by omega) hG hS (sk T n a) L W (by omega) (by omega) hw (by omega)) vv_X11_readTwo dX11_readUnit_87 wg_1500 ((mwS_M hM W).K0) rfl rfl rfl rfl (by omega) (Nat.le_of_ble_eq_true rfl) (Nat.le_of_ble_eq_true rfl) (Nat.le_of_ble_eq_true rfl) (fun ht qt => ?_)
                refine ww_goto (tgt := 152) dX11_readUnit_90 (by decide) ?_
                exact ww_vret dX11_readUnit_152 rfl ⟨rfl, (by rw [unitF_w (fun _ => ⟨fun e => (by have e9 := dgC_t.mpr e; rw [c52] at e9; cases e9), c14⟩), hr5014, bS_r, if_pos (by decide), hab6]; exact qt)⟩
            · have hw5014 : wdA T n (sk T n a) = 441972 := by
                obtain ⟨i, hi, hw⟩ := wM_r (by omega) wLaw_x (by decide) hr5014
                have e := Option.some.inj (show some 10 = some i from hi)
                rw [← e] at hw
                exact hw.trans (by decide +kernel)
              refine ww_cVr (M := m_X11_readUnit) (pc := 72) (v := .int (nI 441972)) (h1 := mrS (mwS h m W) m n (sk T n a) (-1) bk op) (st := []) (d := (d + 4)) (bc := 0) (bs := 0) (c_MR_word_i hst (mwS_M hM W) (mwS_t (W := W) htf) hB hn (-1) bk op (sk T n a) (by omega) (sk_id (by omega)) hw5014) vv_X11_word dX11_readUnit_72 wg_1433 ((mwS_M hM W).K0) rfl rfl rfl rfl (by omega) (Nat.le_of_ble_eq_true rfl) (Nat.le_of_ble_eq_true rfl) (Nat.le_of_ble_eq_true rfl) ?_
              refine ww_ldcS (i := 9) dX11_readUnit_75 rfl ?_
              refine ww_cSr (M := m_X11_readUnit) (pc := 77) (v := .int (nI 12748404)) (h1 := mrS (mwS h m W) m n (sk T n a) (-1) bk op) (st := [.int (nI 441972)]) (d := (d + 4)) (bc := 0) (bs := 0) (c_of_9 hst (mrS (mwS h m W) m n (sk T n a) (-1) bk op)) vv_X11_of dX11_readUnit_77 wg_1441 rfl rfl rfl (by omega) (Nat.le_of_ble_eq_true rfl) (Nat.le_of_ble_eq_true rfl) (Nat.le_of_ble_eq_true rfl) ?_
              refine ww_icmp_neN (tgt := 93) dX11_readUnit_80 (by decide) (by omega) (by omega) (fun c80 => ?_) (fun c80 => ?_)
              · refine ww_aload_n dX11_readUnit_93 rfl rfl ?_
                refine ww_cVr (M := m_X11_readUnit) (pc := 94) (v := .int (nI 441972)) (h1 := mrS (mwS h m W) m n (sk T n a) (-1) bk op) (st := []) (d := (d + 4)) (bc := 0) (bs := 0) (c_MR_word_i hst (mwS_M hM W) (mwS_t (W := W) htf) hB hn (-1) bk op (sk T n a) (by omega) (sk_id (by omega)) hw5014) vv_X11_word dX11_readUnit_94 wg_1433 ((mwS_M hM W).K0) rfl rfl rfl rfl (by omega) (Nat.le_of_ble_eq_true rfl) (Nat.le_of_ble_eq_true rfl) (Nat.le_of_ble_eq_true rfl) ?_
                refine ww_ldcS (i := 10) dX11_readUnit_97 rfl ?_
                refine ww_cSr (M := m_X11_readUnit) (pc := 99) (v := .int (nI 441972)) (h1 := mrS (mwS h m W) m n (sk T n a) (-1) bk op) (st := [.int (nI 441972)]) (d := (d + 4)) (bc := 0) (bs := 0) (c_of_10 hst (mrS (mwS h m W) m n (sk T n a) (-1) bk op)) vv_X11_of dX11_readUnit_99 wg_1441 rfl rfl rfl (by omega) (Nat.le_of_ble_eq_true rfl) (Nat.le_of_ble_eq_true rfl) (Nat.le_of_ble_eq_true rfl) ?_
                refine ww_icmp_neN (tgt := 115) dX11_readUnit_102 (by decide) (by omega) (by omega) (fun c102 => ?_) (fun c102 => ?_)
                · exact absurd c102 (by decide)
                · refine ww_aload_n dX11_readUnit_105 rfl rfl ?_
                  refine ww_iconst (v := nI 4) dX11_readUnit_106 (by decide) ?_
                  refine ww_bipush (v := nI 7) dX11_readUnit_107 (by decide) ?_
                  have hab7 : a5014 = sk T n a + 4 := by have h9 := wr_most hr5014; rw [sk_id (by omega)] at h9; exact h9
                  refine ww_cVq0 (M := m_X11_readUnit) (pc := 109) (st := []) (d := (d + 4)) (bc := 0) (bs := 0) (c_Mw_two1_7 hst hM htf hB hn bk op hn5 hd6 (by omega) hG hS (sk T n a) L W (by omega) (by omega) hw (by omega)) vv_X11_readTwo dX11_readUnit_109 wg_1500 ((mwS_M hM W).K0) rfl rfl rfl rfl (by omega) (Nat.le_of_ble_eq_true rfl) (Nat.le_of_ble_eq_true rfl) (Nat.le_of_ble_eq_true rfl) (fun ht qt => ?_)
                  refine ww_goto (tgt := 152) dX11_readUnit_112 (by decide) ?_
                  exact ww_vret dX11_readUnit_152 rfl ⟨rfl, (by rw [unitF_w (fun _ => ⟨fun e => (by have e9 := dgC_t.mpr e; rw [c52] at e9; cases e9), c14⟩), hr5014, bS_r, if_pos (by decide), hab7]; exact qt)⟩
              · exact absurd c80 (by decide)
        · refine ww_aload_n dX11_readUnit_55 rfl rfl ?_
          refine ww_iconst (v := nI 0) dX11_readUnit_56 (by decide) ?_
          refine ww_aload_n dX11_readUnit_57 rfl rfl ?_
          refine ww_iconst (v := nI 0) dX11_readUnit_58 (by decide) ?_
          refine ww_sipush (v := nI 999) dX11_readUnit_59 (by decide) ?_
          rcases hr5022 : figS T n 0 1000 (sk T n a) with ⟨k5022, q5022⟩ | ⟨a5022, v5022⟩
          · have hf5022 := (figS_l hr5022).1
            have hq5022 := figS_lq (by omega) hr5022
            refine ww_cVq (M := m_X11_readUnit) (pc := 62) (v := .int (nI 0)) (st := [.int (nI 0), .ref m]) (d := (d + 4)) (bc := 0) (bs := 0) (c_MR_num_l hst (mwS_M hM W) (mwS_t (W := W) htf) hB hn (sk T n a) bk op (by omega) 0 1000 (nI 999) (by omega) (by omega) (hi_c 999 (by decide)) hr5022) vv_X11_readNumber dX11_readUnit_62 wg_1460 ((mwS_M hM W).K0) rfl rfl rfl rfl (by omega) (Nat.le_of_ble_eq_true rfl) (Nat.le_of_ble_eq_true rfl) (Nat.le_of_ble_eq_true rfl) (fun hx5022h qx5022 => ?_)
            obtain ⟨x5022, hx5022, rfl⟩ := qx5022
            refine ww_cV0 (M := m_X11_readUnit) (pc := 65) (h1 := mrS (mwS h m W) m n x5022 (nI q5022) (nI k5022) op) (st := []) (d := (d + 4)) (bc := 0) (bs := 0) (c_Mw_emit_f hst hM htf hB hn W x5022 (nI k5022) op q5022 (by omega) (nI 0) (nI 0)) vv_X11_emit dX11_readUnit_65 wg_1495 ((mwS_M hM W).K0) rfl rfl rfl rfl (by omega) (Nat.le_of_ble_eq_true rfl) (Nat.le_of_ble_eq_true rfl) (Nat.le_of_ble_eq_true rfl) ?_
            refine ww_goto (tgt := 152) dX11_readUnit_68 (by decide) ?_
            exact ww_vret dX11_readUnit_152 rfl ⟨rfl, (by rw [unitF_d (by assumption) (dgC_t.mp c52).1 (dgC_t.mp c52).2, hr5022, bS_l]; exact ⟨_, _, (by omega), rfl⟩)⟩
          · have hf5022 := figS_r (by omega) hr5022
            have hg5022 := sk_ge (T := T) (show sk T n a ≤ n by omega)
            refine ww_cVr (M := m_X11_readUnit) (pc := 62) (v := .int (nI v5022)) (h1 := mrS (mwS h m W) m n a5022 (-1) bk op) (st := [.int (nI 0), .ref m]) (d := (d + 4)) (bc := 0) (bs := 0) (c_MR_num_r hst (mwS_M hM W) (mwS_t (W := W) htf) hB hn (sk T n a) bk op (by omega) 0 1000 (nI 999) (by omega) (by omega) (hi_c 999 (by decide)) hr5022) vv_X11_readNumber dX11_readUnit_62 wg_1460 ((mwS_M hM W).K0) rfl rfl rfl rfl (by omega) (Nat.le_of_ble_eq_true rfl) (Nat.le_of_ble_eq_true rfl) (Nat.le_of_ble_eq_true rfl) ?_
            have hW5023 : W.1 = L.1 := hw.1
            have he5023 : (eL 0 v5022 L).1 = L.1 + 1 := rfl
            refine ww_cV0 (M := m_X11_readUnit) (pc := 65) (h1 := mrS (mwS h m (eL 0 v5022 W)) m n a5022 (-1) bk op) (st := []) (d := (d + 4)) (bc := 0) (bs := 0) (c_Mw_emit_t hst hM htf hB hn W (by omega) a5022 bk op 0 v5022) vv_X11_emit dX11_readUnit_65 wg_1495 ((mwS_M hM W).K0) rfl rfl rfl rfl (by omega) (Nat.le_of_ble_eq_true rfl) (Nat.le_of_ble_eq_true rfl) (Nat.le_of_ble_eq_true rfl) ?_
            refine ww_goto (tgt := 152) dX11_readUnit_68 (by decide) ?_
            exact ww_vret dX11_readUnit_152 rfl ⟨rfl, (by rw [unitF_d (by assumption) (dgC_t.mp c52).1 (dgC_t.mp c52).2, hr5022, bS_r]; exact ⟨_, (MwR.e hw (k := 0) (by decide) v5022), rfl⟩)⟩
      · refine ww_aload_n dX11_readUnit_17 rfl rfl ?_
        refine ww_iconst (v := nI 1) dX11_readUnit_18 (by decide) ?_
        refine ww_cV0 (M := m_X11_readUnit) (pc := 19) (h1 := mrS (mwS h m W) m n (sk T n a + 1) (-1) bk (op + 1)) (st := []) (d := (d + 4)) (bc := 0) (bs := 0) (c_MR_opens_t hst (mwS_M hM W) (mwS_t (W := W) htf) hB hn (sk T n a) bk op (by omega) 1) vv_X11_opensOne dX11_readUnit_19 wg_1491 ((mwS_M hM W).K0) rfl rfl rfl rfl (by omega) (Nat.le_of_ble_eq_true rfl) (Nat.le_of_ble_eq_true rfl) (Nat.le_of_ble_eq_true rfl) ?_
        refine ww_aload_n dX11_readUnit_22 rfl rfl ?_
        have hg5024 := hG (sk T n a + 1) L (by omega)
        refine ww_cVq0 (M := m_X11_readUnit) (pc := 23) (st := []) (d := (d + 4)) (bc := 0) (bs := 0) (hS (sk T n a + 1) L W (by omega) (by omega) hw) vv_X11_readSum dX11_readUnit_23 wg_1479 ((mwS_M hM W).K0) rfl rfl rfl rfl (by omega) (Nat.le_of_ble_eq_true rfl) (Nat.le_of_ble_eq_true rfl) (Nat.le_of_ble_eq_true rfl) (fun ho5024 qo5024 => ?_)
        rcases hr5024 : S (sk T n a + 1) L with ⟨k5024, q5024⟩ | ⟨a5024, L5024⟩
        · rw [hr5024] at qo5024
          obtain ⟨x5024, W5024, hx5024, rfl⟩ := qo5024
          have hf5024 := (hg5024).l hr5024
          refine ww_aload_n dX11_readUnit_26 rfl rfl ?_
          refine ww_bipush (v := nI 41) dX11_readUnit_27 (by decide) ?_
          refine ww_cV0 (M := m_X11_readUnit) (pc := 29) (h1 := mrS (mwS h m W5024) m n x5024 (nI q5024) (nI k5024) (op + 1)) (st := []) (d := (d + 4)) (bc := 0) (bs := 0) (c_MR_sign_f hst (mwS_M hM W5024) (mwS_t (W := W5024) htf) hB hn x5024 (nI k5024) (op + 1) q5024 (by omega) 41) vv_X11_sign dX11_readUnit_29 wg_1467 ((mwS_M hM W5024).K0) rfl rfl rfl rfl (by omega) (Nat.le_of_ble_eq_true rfl) (Nat.le_of_ble_eq_true rfl) (Nat.le_of_ble_eq_true rfl) ?_
          refine ww_aload_n dX11_readUnit_32 rfl rfl ?_
          refine ww_dup dX11_readUnit_33 rfl ?_
          refine ww_get 7 dX11_readUnit_34 ((mwS_M hM W5024).K0) rfl (by decide) inX11 wg_1247 (mrS_7 _ _ _ _ _ _ _) ?_
          refine ww_iconst (v := nI 1) dX11_readUnit_37 (by decide) ?_
          refine ww_isubN dX11_readUnit_38 (by omega) ?_
          refine ww_pfI tyX11 7 dX11_readUnit_39 ((mwS_M hM W5024).K0) rfl (by decide) inX11 tyX11_ok nmX11 wg_1247 rfl rfl ?_
          refine ww_hp (h2 := mrS (mwS h m W5024) m n x5024 (nI q5024) (nI k5024) op) (mrS_s7 _ _ _ _ _ _ _ _) ?_
          refine ww_goto (tgt := 152) dX11_readUnit_42 (by decide) ?_
          exact ww_vret dX11_readUnit_152 rfl ⟨rfl, (by rw [unitF_p (by assumption) c14]; show MwO h m n bk op (bS _ _) _; rw [hr5024, bS_l]; exact ⟨_, _, (by omega), rfl⟩)⟩
        · rw [hr5024] at qo5024
          obtain ⟨W5024, hw5024, rfl⟩ := qo5024
          have hf5024 := (hg5024).r hr5024
          refine ww_aload_n dX11_readUnit_26 rfl rfl ?_
          refine ww_bipush (v := nI 41) dX11_readUnit_27 (by decide) ?_
          rcases hr5025 : sgnS T n 41 a5024 with ⟨k5025, q5025⟩ | ⟨a5025, u5025⟩
          · have hf5025 := (sgnS_l hr5025).1
            have hq5025 := sgnS_lq (by omega) hr5025
            have hsl5025 := sk_le (T := T) (show a5024 ≤ n by omega)
            refine ww_cV0 (M := m_X11_readUnit) (pc := 29) (h1 := mrS (mwS h m W5024) m n (sk T n a5024) (nI q5025) (nI k5025) (op + 1)) (st := []) (d := (d + 4)) (bc := 0) (bs := 0) (c_MR_sign_l hst (mwS_M hM W5024) (mwS_t (W := W5024) htf) hB hn a5024 bk (op + 1) (by omega) 41 (by omega) (by omega) hr5025) vv_X11_sign dX11_readUnit_29 wg_1467 ((mwS_M hM W5024).K0) rfl rfl rfl rfl (by omega) (Nat.le_of_ble_eq_true rfl) (Nat.le_of_ble_eq_true rfl) (Nat.le_of_ble_eq_true rfl) ?_
            refine ww_aload_n dX11_readUnit_32 rfl rfl ?_
            refine ww_dup dX11_readUnit_33 rfl ?_
            refine ww_get 7 dX11_readUnit_34 ((mwS_M hM W5024).K0) rfl (by decide) inX11 wg_1247 (mrS_7 _ _ _ _ _ _ _) ?_
            refine ww_iconst (v := nI 1) dX11_readUnit_37 (by decide) ?_
            refine ww_isubN dX11_readUnit_38 (by omega) ?_
            refine ww_pfI tyX11 7 dX11_readUnit_39 ((mwS_M hM W5024).K0) rfl (by decide) inX11 tyX11_ok nmX11 wg_1247 rfl rfl ?_
            refine ww_hp (h2 := mrS (mwS h m W5024) m n (sk T n a5024) (nI q5025) (nI k5025) op) (mrS_s7 _ _ _ _ _ _ _ _) ?_
            refine ww_goto (tgt := 152) dX11_readUnit_42 (by decide) ?_
            exact ww_vret dX11_readUnit_152 rfl ⟨rfl, (by rw [unitF_p (by assumption) c14]; show MwO h m n bk op (bS _ _) _; rw [hr5024, bS_r, hr5025, bS_l]; exact ⟨_, _, (by omega), rfl⟩)⟩
          · have hf5025 := sgnS_r hr5025
            have hg5025 := sk_ge (T := T) (show a5024 ≤ n by omega)
            refine ww_cV0 (M := m_X11_readUnit) (pc := 29) (h1 := mrS (mwS h m W5024) m n a5025 (-1) bk (op + 1)) (st := []) (d := (d + 4)) (bc := 0) (bs := 0) (c_MR_sign_r hst (mwS_M hM W5024) (mwS_t (W := W5024) htf) hB hn a5024 bk (op + 1) (by omega) 41 (by omega) (by omega) hr5025) vv_X11_sign dX11_readUnit_29 wg_1467 ((mwS_M hM W5024).K0) rfl rfl rfl rfl (by omega) (Nat.le_of_ble_eq_true rfl) (Nat.le_of_ble_eq_true rfl) (Nat.le_of_ble_eq_true rfl) ?_
            refine ww_aload_n dX11_readUnit_32 rfl rfl ?_
            refine ww_dup dX11_readUnit_33 rfl ?_
            refine ww_get 7 dX11_readUnit_34 ((mwS_M hM W5024).K0) rfl (by decide) inX11 wg_1247 (mrS_7 _ _ _ _ _ _ _) ?_
            refine ww_iconst (v := nI 1) dX11_readUnit_37 (by decide) ?_
            refine ww_isubN dX11_readUnit_38 (by omega) ?_
            refine ww_pfI tyX11 7 dX11_readUnit_39 ((mwS_M hM W5024).K0) rfl (by decide) inX11 tyX11_ok nmX11 wg_1247 rfl rfl ?_
            refine ww_hp (h2 := mrS (mwS h m W5024) m n a5025 (-1) bk op) (mrS_s7 _ _ _ _ _ _ _ _) ?_
            refine ww_goto (tgt := 152) dX11_readUnit_42 (by decide) ?_
            exact ww_vret dX11_readUnit_152 rfl ⟨rfl, (by rw [unitF_p (by assumption) c14]; show MwO h m n bk op (bS _ _) _; rw [hr5024, bS_r, hr5025, bS_r]; exact ⟨_, hw5024, rfl⟩)⟩
    · refine ww_cVr (M := m_X11_readUnit) (pc := 9) (v := .int (nI 0)) (h1 := mrS (mwS h m W) m n n (-1) bk op) (st := []) (d := (d + 4)) (bc := 0) (bs := 0) (c_MR_here_f hst (mwS_M hM W) (mwS_t (W := W) htf) hB hn (-1) bk op a (by omega) hl5013) vv_X11_here dX11_readUnit_9 wg_1429 ((mwS_M hM W).K0) rfl rfl rfl rfl (by omega) (Nat.le_of_ble_eq_true rfl) (Nat.le_of_ble_eq_true rfl) (Nat.le_of_ble_eq_true rfl) ?_
      refine ww_bipush (v := nI 40) dX11_readUnit_12 (by decide) ?_
      refine ww_icmp_neN (tgt := 45) dX11_readUnit_14 (by decide) (by omega) (by omega) (fun c14 => ?_) (fun c14 => ?_)
      · refine ww_aload_n dX11_readUnit_45 rfl rfl ?_
        refine ww_cVr (M := m_X11_readUnit) (pc := 46) (v := .int (nI 0)) (h1 := mrS (mwS h m W) m n n (-1) bk op) (st := []) (d := (d + 4)) (bc := 0) (bs := 0) (c_MR_here_n hst (mwS_M hM W) (mwS_t (W := W) htf) hB hn (-1) bk op) vv_X11_here dX11_readUnit_46 wg_1429 ((mwS_M hM W).K0) rfl rfl rfl rfl (by omega) (Nat.le_of_ble_eq_true rfl) (Nat.le_of_ble_eq_true rfl) (Nat.le_of_ble_eq_true rfl) ?_
        refine ww_cSr (M := m_X11_readUnit) (pc := 49) (v := .int (nI 0)) (h1 := mrS (mwS h m W) m n n (-1) bk op) (st := []) (d := (d + 4)) (bc := 0) (bs := 0) (c_MR_dg0 hst (mrS (mwS h m W) m n n (-1) bk op)) vv_X11_isDigit dX11_readUnit_49 wg_1464 rfl rfl rfl (by omega) (Nat.le_of_ble_eq_true rfl) (Nat.le_of_ble_eq_true rfl) (Nat.le_of_ble_eq_true rfl) ?_
        refine ww_if_eqN (tgt := 71) dX11_readUnit_52 (by decide) (by omega) (fun c52 => ?_) (fun c52 => ?_)
        · refine ww_aload_n dX11_readUnit_71 rfl rfl ?_
          have hno5026 := wM_l (by omega) wLaw_x (by decide) (wrd_end wLaw_ne T n)
          have hn5026_11 : ¬ wdA T n n = 492210354 := fun e => hno5026 11 (by decide) (e.trans (by decide +kernel))
          have hn5026_12 : ¬ wdA T n n = 595412 := fun e => hno5026 12 (by decide) (e.trans (by decide +kernel))
          have hn5026_13 : ¬ wdA T n n = 23609 := fun e => hno5026 13 (by decide) (e.trans (by decide +kernel))
          have hn5026_14 : ¬ wdA T n n = 16496818 := fun e => hno5026 14 (by decide) (e.trans (by decide +kernel))
          have hn5026_15 : ¬ wdA T n n = 16829075 := fun e => hno5026 15 (by decide) (e.trans (by decide +kernel))
          have hn5026_16 : ¬ wdA T n n = 707748 := fun e => hno5026 16 (by decide) (e.trans (by decide +kernel))
          have hn5026_17 : ¬ wdA T n n = 4153 := fun e => hno5026 17 (by decide) (e.trans (by decide +kernel))
          have hn5026_9 : ¬ wdA T n n = 12748404 := fun e => hno5026 9 (by decide) (e.trans (by decide +kernel))
          have hn5026_10 : ¬ wdA T n n = 441972 := fun e => hno5026 10 (by decide) (e.trans (by decide +kernel))
          have hwl5026 := wdA_lt (T := T) (show n ≤ n by omega)
          refine ww_cVr (M := m_X11_readUnit) (pc := 72) (v := .int (nI (wdA T n n))) (h1 := mrS (mwS h m W) m n n (-1) bk op) (st := []) (d := (d + 4)) (bc := 0) (bs := 0) (c_MR_word_i hst (mwS_M hM W) (mwS_t (W := W) htf) hB hn (-1) bk op n (by omega) (sk_n T n) rfl) vv_X11_word dX11_readUnit_72 wg_1433 ((mwS_M hM W).K0) rfl rfl rfl rfl (by omega) (Nat.le_of_ble_eq_true rfl) (Nat.le_of_ble_eq_true rfl) (Nat.le_of_ble_eq_true rfl) ?_
          refine ww_ldcS (i := 9) dX11_readUnit_75 rfl ?_
          refine ww_cSr (M := m_X11_readUnit) (pc := 77) (v := .int (nI 12748404)) (h1 := mrS (mwS h m W) m n n (-1) bk op) (st := [.int (nI (wdA T n n))]) (d := (d + 4)) (bc := 0) (bs := 0) (c_of_9 hst (mrS (mwS h m W) m n n (-1) bk op)) vv_X11_of dX11_readUnit_77 wg_1441 rfl rfl rfl (by omega) (Nat.le_of_ble_eq_true rfl) (Nat.le_of_ble_eq_true rfl) (Nat.le_of_ble_eq_true rfl) ?_
          refine ww_icmp_neN (tgt := 93) dX11_readUnit_80 (by decide) (by omega) (by omega) (fun c80 => ?_) (fun c80 => ?_)
          · refine ww_aload_n dX11_readUnit_93 rfl rfl ?_
            refine ww_cVr (M := m_X11_readUnit) (pc := 94) (v := .int (nI (wdA T n n))) (h1 := mrS (mwS h m W) m n n (-1) bk op) (st := []) (d := (d + 4)) (bc := 0) (bs := 0) (c_MR_word_i hst (mwS_M hM W) (mwS_t (W := W) htf) hB hn (-1) bk op n (by omega) (sk_n T n) rfl) vv_X11_word dX11_readUnit_94 wg_1433 ((mwS_M hM W).K0) rfl rfl rfl rfl (by omega) (Nat.le_of_ble_eq_true rfl) (Nat.le_of_ble_eq_true rfl) (Nat.le_of_ble_eq_true rfl) ?_
            refine ww_ldcS (i := 10) dX11_readUnit_97 rfl ?_
            refine ww_cSr (M := m_X11_readUnit) (pc := 99) (v := .int (nI 441972)) (h1 := mrS (mwS h m W) m n n (-1) bk op) (st := [.int (nI (wdA T n n))]) (d := (d + 4)) (bc := 0) (bs := 0) (c_of_10 hst (mrS (mwS h m W) m n n (-1) bk op)) vv_X11_of dX11_readUnit_99 wg_1441 rfl rfl rfl (by omega) (Nat.le_of_ble_eq_true rfl) (Nat.le_of_ble_eq_true rfl) (Nat.le_of_ble_eq_true rfl) ?_
            refine ww_icmp_neN (tgt := 115) dX11_readUnit_102 (by decide) (by omega) (by omega) (fun c102 => ?_) (fun c102 => ?_)
            · refine ww_aload_n dX11_readUnit_115 rfl rfl ?_
              refine ww_cVr (M := m_X11_readUnit) (pc := 116) (v := .int (-1)) (h1 := mrS (mwS h m W) m n n (-1) bk op) (st := []) (d := (d + 4)) (bc := 0) (bs := 0) (c_Mw_factN hst hM htf hB hn W n (-1) bk op (by omega) (sk_n T n) hn5026_11 hn5026_12 hn5026_13 hn5026_14 hn5026_15 hn5026_16 hn5026_17) vv_X11_factHere dX11_readUnit_116 wg_1505 ((mwS_M hM W).K0) rfl rfl rfl rfl (by omega) (Nat.le_of_ble_eq_true rfl) (Nat.le_of_ble_eq_true rfl) (Nat.le_of_ble_eq_true rfl) ?_
              refine ww_sti_n (lv2 := [.ref m, .int (-1)]) dX11_readUnit_119 rfl rfl (by decide) rfl ?_
              refine ww_iload_n dX11_readUnit_120 rfl rfl ?_
              refine ww_iconst (v := -1) dX11_readUnit_121 (by decide) ?_
              refine ww_icmp_ne (tgt := 134) dX11_readUnit_122 (by decide) (fun c122 => ?_) (fun c122 => ?_)
              · exact absurd c122 (by decide)
              · refine ww_aload_n dX11_readUnit_125 rfl rfl ?_
                refine ww_iconst (v := nI 1) dX11_readUnit_126 (by decide) ?_
                refine ww_aload_n dX11_readUnit_127 rfl rfl ?_
                refine ww_get 4 dX11_readUnit_128 ((mwS_M hM W).K0) rfl (by decide) inX11 wg_1244 (mrS_4 _ _ _ _ _ _ _) ?_
                refine ww_cV0 (M := m_X11_readUnit) (pc := 131) (h1 := mrS (mwS h m W) m n n (nI n) (nI 1) op) (st := []) (d := (d + 4)) (bc := 0) (bs := 0) (c_MR_wrong_t hst (mwS_M hM W) (mwS_t (W := W) htf) hB hn n bk op (nI 1) (nI n)) vv_X11_wrong dX11_readUnit_131 wg_1448 ((mwS_M hM W).K0) rfl rfl rfl rfl (by omega) (Nat.le_of_ble_eq_true rfl) (Nat.le_of_ble_eq_true rfl) (Nat.le_of_ble_eq_true rfl) ?_
                refine ww_aload_n dX11_readUnit_134 rfl rfl ?_
                refine ww_cVr (M := m_X11_readUnit) (pc := 135) (v := .int (nI 0)) (h1 := mrS (mwS h m W) m n n (nI n) (nI 1) op) (st := []) (d := (d + 4)) (bc := 0) (bs := 0) (c_MR_fine_f hst (mwS_M hM W) (mwS_t (W := W) htf) hB hn n (nI 1) op n (by omega)) vv_X11_fine dX11_readUnit_135 wg_1421 ((mwS_M hM W).K0) rfl rfl rfl rfl (by omega) (Nat.le_of_ble_eq_true rfl) (Nat.le_of_ble_eq_true rfl) (Nat.le_of_ble_eq_true rfl) ?_
                refine ww_if_neN (tgt := 142) dX11_readUnit_138 (by decide) (by omega) (fun c138 => ?_) (fun c138 => ?_)
                · exact absurd c138 (by decide)
                · exact ww_vret dX11_readUnit_141 rfl ⟨rfl, (by rw [unitF_w (fun e => by omega), show sk T n a = n by omega, wrd_end wLaw_ne, bS_l]; exact ⟨_, _, (by omega), rfl⟩)⟩
            · exfalso; omega
          · exfalso; omega
        · exact absurd c52 (by decide)
      · exact absurd c14 (by decide)
  · exact absurd c4 (by decide)
set_option maxHeartbeats 4000000 in
theorem c_Mw_unitK {l : Launch} {Z : EE} (hst : l.stackTraces = false) {h : PH} {m : Nat} (hM : ModS h m) {tf : Nat → Int32} (htf : hp_I h (m + 2) = tf) {T : Nat → Nat} (hB : BT tf T) {n : Nat} (hn : n ≤ 600) (bk : Int32) (hn5 : n ≤ 150) : ∀ (k op : Nat), op + k = 6 → ∀ (a : Nat) (L W : LWt), a ≤ n → L.1 ≤ a → MwR L W → CC l Z m_X11_readUnit (4 * k + 6) 0 0 [.ref m] (mrS (mwS h m W) m n a (-1) bk op) (RQ none (MwO h m n bk op (unitK T n k a L))) := by
  intro k
  induction k with
  | zero =>
    intro o ho a L W ha hL hw
    exact c_Mw_unit0 (d := 6) hst hM htf hB hn bk o hn5 (by omega) (by omega) a L W ha hL hw
  | succ k ih =>
    intro o ho
    have hU := ih (o + 1) (by omega)
    have hG := unitK_G T n k
    have hP := fun a L W ha hL hw => c_Mw_prod (Z := Z) (d := 4 * k + 6) hst hM htf hB hn bk (o + 1) hn5 (by omega) hG hU a L W ha hL hw
    have hS := fun a L W ha hL hw => c_Mw_sum (Z := Z) (d := 4 * k + 6) hst hM htf hB hn bk (o + 1) hn5 (by omega) hG hP a L W ha hL hw
    intro a L W ha hL hw
    rw [show 4 * (k + 1) + 6 = 4 * k + 6 + 4 by omega]
    exact c_Mw_unit1 (d := 4 * k + 6) hst hM htf hB hn bk o hn5 (by omega) (by omega) (sumS_G (T := T) hG) hS a L W ha hL hw
set_option maxHeartbeats 4000000 in
theorem c_Mw_sumT {l : Launch} {Z : EE} (hst : l.stackTraces = false) {h : PH} {m : Nat} (hM : ModS h m) {tf : Nat → Int32} (htf : hp_I h (m + 2) = tf) {T : Nat → Nat} (hB : BT tf T) {n : Nat} (hn : n ≤ 600) (bk : Int32) (hn5 : n ≤ 150) (a : Nat) (L W : LWt) (ha : a ≤ n) (hL : L.1 ≤ a) (hw : MwR L W) : CC l Z m_X11_readSum 32 0 0 [.ref m] (mrS (mwS h m W) m n a (-1) bk 0) (RQ none (MwO h m n bk 0 (sumS (unitK T n 6) T n a L))) := by
  have hG := unitK_G T n 6
  have hU := c_Mw_unitK (Z := Z) hst hM htf hB hn bk hn5 6 0 (by omega)
  have hP := fun a L W ha hL hw => c_Mw_prod (Z := Z) (d := 30) hst hM htf hB hn bk 0 hn5 (by omega) hG hU a L W ha hL hw
  exact c_Mw_sum (Z := Z) (d := 30) hst hM htf hB hn bk 0 hn5 (by omega) hG hP a L W ha hL hw
