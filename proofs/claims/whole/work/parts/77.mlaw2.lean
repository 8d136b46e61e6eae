set_option maxHeartbeats 4000000 in
set_option maxRecDepth 100000 in
theorem l_Mw_prod {l : Launch} {Z : EE} (hst : l.stackTraces = false) {h : PH} {m : Nat} (hM : ModS h m) {tf : Nat → Int32} (htf : hp_I h (m + 2) = tf) {T : Nat → Nat} (hB : BT tf T) {n : Nat} (hn : n ≤ 600) (bk : Int32) (op : Nat) (hn5 : n ≤ 150) {d : Nat} (hd6 : 6 ≤ d) {U : Nat} {unit : Nat → LWt → PR LWt} (hG : GoodU n U unit) (hU : ∀ (a : Nat) (L W : LWt), a ≤ n → L.1 ≤ a → MwR L W → CC l Z m_X11_readUnit d 0 0 [.ref m] (mrS (mwS h m W) m n a (-1) bk op) (RQ none (MwO h m n bk op (unit a L)))) : ∀ (j a : Nat) (L W : LWt), a ≤ n → n < a + j → L.1 ≤ a → MwR L W → WW l Z m_X11_readProduct (d + 1) 0 0 4 [.ref m, UU] [] (mrS (mwS h m W) m n a (-1) bk op) (RQ none (MwO h m n bk op (prdL isP opP unit T n j a L))) := by
  intro j
  induction j with
  | zero =>
    intro a L W ha hj hL hw
    omega
  | succ j ih =>
    intro a L W ha hj hL hw
    refine ww_aload_n dX11_readProduct_4 rfl rfl ?_
    refine ww_cVr (M := m_X11_readProduct) (pc := 5) (v := .int (nI 1)) (h1 := mrS (mwS h m W) m n a (-1) bk op) (st := []) (d := d + 1) (bc := 0) (bs := 0) (c_MR_fine_t hst (mwS_M hM W) (mwS_t (W := W) htf) hB hn a bk op) vv_X11_fine dX11_readProduct_5 wg_1421 ((mwS_M hM W).K0) rfl rfl rfl rfl (by omega) (Nat.le_of_ble_eq_true rfl) (Nat.le_of_ble_eq_true rfl) (Nat.le_of_ble_eq_true rfl) ?_
    refine ww_if_eqN (tgt := 90) dX11_readProduct_8 (by decide) (by omega) (fun c8 => ?_) (fun c8 => ?_)
    · exact absurd c8 (by decide)
    · refine ww_aload_n dX11_readProduct_11 rfl rfl ?_
      have hsl5001 := sk_le (T := T) (show a ≤ n by omega)
      have hsg5001 := sk_ge (T := T) (show a ≤ n by omega)
      have hsT5001 := (hB (sk T n a)).2
      by_cases hl5001 : sk T n a < n
      · refine ww_cVr (M := m_X11_readProduct) (pc := 12) (v := .int (nI (T (sk T n a)))) (h1 := mrS (mwS h m W) m n (sk T n a) (-1) bk op) (st := []) (d := d + 1) (bc := 0) (bs := 0) (c_MR_here_t hst (mwS_M hM W) (mwS_t (W := W) htf) hB hn (-1) bk op a (by omega) hl5001) vv_X11_here dX11_readProduct_12 wg_1429 ((mwS_M hM W).K0) rfl rfl rfl rfl (by omega) (Nat.le_of_ble_eq_true rfl) (Nat.le_of_ble_eq_true rfl) (Nat.le_of_ble_eq_true rfl) ?_
        refine ww_bipush (v := nI 42) dX11_readProduct_15 (by decide) ?_
        refine ww_icmp_eqN (tgt := 38) dX11_readProduct_17 (by decide) (by omega) (by omega) (fun c17 => ?_) (fun c17 => ?_)
        · refine ww_aload_n dX11_readProduct_38 rfl rfl ?_
          refine ww_cVr (M := m_X11_readProduct) (pc := 39) (v := .int (nI (T (sk T n a)))) (h1 := mrS (mwS h m W) m n (sk T n a) (-1) bk op) (st := []) (d := d + 1) (bc := 0) (bs := 0) (c_MR_here_i hst (mwS_M hM W) (mwS_t (W := W) htf) hB hn (-1) bk op a (by omega) (by assumption)) vv_X11_here dX11_readProduct_39 wg_1429 ((mwS_M hM W).K0) rfl rfl rfl rfl (by omega) (Nat.le_of_ble_eq_true rfl) (Nat.le_of_ble_eq_true rfl) (Nat.le_of_ble_eq_true rfl) ?_
          refine ww_bipush (v := nI 42) dX11_readProduct_42 (by decide) ?_
          refine ww_icmp_neN (tgt := 51) dX11_readProduct_44 (by decide) (by omega) (by omega) (fun c44 => ?_) (fun c44 => ?_)
          · refine ww_aload_n dX11_readProduct_51 rfl rfl ?_
            refine ww_cVr (M := m_X11_readProduct) (pc := 52) (v := .int (nI (T (sk T n a)))) (h1 := mrS (mwS h m W) m n (sk T n a) (-1) bk op) (st := []) (d := d + 1) (bc := 0) (bs := 0) (c_MR_here_i hst (mwS_M hM W) (mwS_t (W := W) htf) hB hn (-1) bk op a (by omega) (by assumption)) vv_X11_here dX11_readProduct_52 wg_1429 ((mwS_M hM W).K0) rfl rfl rfl rfl (by omega) (Nat.le_of_ble_eq_true rfl) (Nat.le_of_ble_eq_true rfl) (Nat.le_of_ble_eq_true rfl) ?_
            refine ww_bipush (v := nI 47) dX11_readProduct_55 (by decide) ?_
            refine ww_icmp_neN (tgt := 64) dX11_readProduct_57 (by decide) (by omega) (by omega) (fun c57 => ?_) (fun c57 => ?_)
            · refine ww_bipush (v := nI 8) dX11_readProduct_64 (by decide) ?_
              refine ww_sti_n (lv2 := [.ref m, .int (nI 8)]) dX11_readProduct_66 rfl rfl (by decide) rfl ?_
              refine ww_aload_n dX11_readProduct_67 rfl rfl ?_
              refine ww_dup dX11_readProduct_68 rfl ?_
              refine ww_get 4 dX11_readProduct_69 ((mwS_M hM W).K0) rfl (by decide) inX11 wg_1244 (mrS_4 _ _ _ _ _ _ _) ?_
              refine ww_iconst (v := nI 1) dX11_readProduct_72 (by decide) ?_
              refine ww_iaddN dX11_readProduct_73 ?_
              refine ww_pfI tyX11 4 dX11_readProduct_74 ((mwS_M hM W).K0) rfl (by decide) inX11 tyX11_ok nmX11 wg_1244 rfl rfl ?_
              refine ww_hp (h2 := mrS (mwS h m W) m n ((sk T n a) + 1) (-1) bk op) (mrS_s4 _ _ _ _ _ _ _ _) ?_
              refine ww_aload_n dX11_readProduct_77 rfl rfl ?_
              have hg5002 := hG ((sk T n a) + 1) L (by omega)
              refine ww_cVq0 (M := m_X11_readProduct) (pc := 78) (st := []) (d := d + 1) (bc := 0) (bs := 0) (hU ((sk T n a) + 1) L W (by omega) (by omega) hw) vv_X11_readUnit dX11_readProduct_78 wg_1487 ((mwS_M hM W).K0) rfl rfl rfl rfl (by omega) (Nat.le_of_ble_eq_true rfl) (Nat.le_of_ble_eq_true rfl) (Nat.le_of_ble_eq_true rfl) (fun ho5002 qo5002 => ?_)
              rcases hr5002 : unit ((sk T n a) + 1) L with ⟨k5002, q5002⟩ | ⟨a5002, L5002⟩
              · rw [hr5002] at qo5002
                obtain ⟨x5002, W5002, hx5002, rfl⟩ := qo5002
                have hf5002 := (hg5002).l hr5002
                refine ww_aload_n dX11_readProduct_81 rfl rfl ?_
                refine ww_iload_n dX11_readProduct_82 rfl rfl ?_
                refine ww_iconst (v := nI 0) dX11_readProduct_83 (by decide) ?_
                refine ww_cV0 (M := m_X11_readProduct) (pc := 84) (h1 := mrS (mwS h m W5002) m n x5002 (nI q5002) (nI k5002) op) (st := []) (d := d + 1) (bc := 0) (bs := 0) (c_Mw_emit_f hst hM htf hB hn W5002 x5002 (nI k5002) op q5002 (by omega) (nI 8) (nI 0)) vv_X11_emit dX11_readProduct_84 wg_1495 ((mwS_M hM W5002).K0) rfl rfl rfl rfl (by omega) (Nat.le_of_ble_eq_true rfl) (Nat.le_of_ble_eq_true rfl) (Nat.le_of_ble_eq_true rfl) ?_
                refine ww_goto (tgt := 4) dX11_readProduct_87 (by decide) ?_
                refine ww_aload_n dX11_readProduct_4 rfl rfl ?_
                refine ww_cVr (M := m_X11_readProduct) (pc := 5) (v := .int (nI 0)) (h1 := mrS (mwS h m W5002) m n x5002 (nI q5002) (nI k5002) op) (st := []) (d := d + 1) (bc := 0) (bs := 0) (c_MR_fine_f hst (mwS_M hM W5002) (mwS_t (W := W5002) htf) hB hn x5002 (nI k5002) op q5002 (by omega)) vv_X11_fine dX11_readProduct_5 wg_1421 ((mwS_M hM W5002).K0) rfl rfl rfl rfl (by omega) (Nat.le_of_ble_eq_true rfl) (Nat.le_of_ble_eq_true rfl) (Nat.le_of_ble_eq_true rfl) ?_
                refine ww_if_eqN (tgt := 90) dX11_readProduct_8 (by decide) (by omega) (fun c8 => ?_) (fun c8 => ?_)
                · exact ww_vret dX11_readProduct_90 rfl ⟨rfl, (by rw [prdL_i (by assumption) (isP_t.mpr (by omega)), hr5002, bS_l]; exact ⟨_, _, (by assumption), rfl⟩)⟩
                · exact absurd c8 (by decide)
              · rw [hr5002] at qo5002
                obtain ⟨W5002, hw5002, rfl⟩ := qo5002
                have hf5002 := (hg5002).r hr5002
                refine ww_aload_n dX11_readProduct_81 rfl rfl ?_
                refine ww_iload_n dX11_readProduct_82 rfl rfl ?_
                refine ww_iconst (v := nI 0) dX11_readProduct_83 (by decide) ?_
                have hW5003 : W5002.1 = L5002.1 := hw5002.1
                have he5003 : (eL 6 0 L5002).1 = L5002.1 + 1 := rfl
                refine ww_cV0 (M := m_X11_readProduct) (pc := 84) (h1 := mrS (mwS h m (eL 8 0 W5002)) m n a5002 (-1) bk op) (st := []) (d := d + 1) (bc := 0) (bs := 0) (c_Mw_emit_t hst hM htf hB hn W5002 (by omega) a5002 bk op 8 0) vv_X11_emit dX11_readProduct_84 wg_1495 ((mwS_M hM W5002).K0) rfl rfl rfl rfl (by omega) (Nat.le_of_ble_eq_true rfl) (Nat.le_of_ble_eq_true rfl) (Nat.le_of_ble_eq_true rfl) ?_
                refine ww_goto (tgt := 4) dX11_readProduct_87 (by decide) ?_
                rw [prdL_i (by assumption) (isP_t.mpr (by omega)), hr5002, bS_r, show opP (T (sk T n a)) = 6 from by unfold opP; first | (exfalso; omega) | rw [if_pos (by omega)] | rw [if_neg (by omega), if_pos (by omega)] | rw [if_neg (by omega), if_neg (by omega)] | rw [if_neg (by omega)]]
                refine ww_fg (lv2 := [.ref m, UU]) ⟨Or.inr rfl, Or.inl rfl, trivial⟩ ?_
                exact ih a5002 (eL 6 0 L5002) (eL 8 0 W5002) (by omega) (by omega) (by omega) (MwR.e hw5002 (k := 6) (by decide) 0)
            · refine ww_iconst (v := nI 5) dX11_readProduct_60 (by decide) ?_
              refine ww_goto (tgt := 66) dX11_readProduct_61 (by decide) ?_
              refine ww_sti_n (lv2 := [.ref m, .int (nI 5)]) dX11_readProduct_66 rfl rfl (by decide) rfl ?_
              refine ww_aload_n dX11_readProduct_67 rfl rfl ?_
              refine ww_dup dX11_readProduct_68 rfl ?_
              refine ww_get 4 dX11_readProduct_69 ((mwS_M hM W).K0) rfl (by decide) inX11 wg_1244 (mrS_4 _ _ _ _ _ _ _) ?_
              refine ww_iconst (v := nI 1) dX11_readProduct_72 (by decide) ?_
              refine ww_iaddN dX11_readProduct_73 ?_
              refine ww_pfI tyX11 4 dX11_readProduct_74 ((mwS_M hM W).K0) rfl (by decide) inX11 tyX11_ok nmX11 wg_1244 rfl rfl ?_
              refine ww_hp (h2 := mrS (mwS h m W) m n ((sk T n a) + 1) (-1) bk op) (mrS_s4 _ _ _ _ _ _ _ _) ?_
              refine ww_aload_n dX11_readProduct_77 rfl rfl ?_
              have hg5004 := hG ((sk T n a) + 1) L (by omega)
              refine ww_cVq0 (M := m_X11_readProduct) (pc := 78) (st := []) (d := d + 1) (bc := 0) (bs := 0) (hU ((sk T n a) + 1) L W (by omega) (by omega) hw) vv_X11_readUnit dX11_readProduct_78 wg_1487 ((mwS_M hM W).K0) rfl rfl rfl rfl (by omega) (Nat.le_of_ble_eq_true rfl) (Nat.le_of_ble_eq_true rfl) (Nat.le_of_ble_eq_true rfl) (fun ho5004 qo5004 => ?_)
              rcases hr5004 : unit ((sk T n a) + 1) L with ⟨k5004, q5004⟩ | ⟨a5004, L5004⟩
              · rw [hr5004] at qo5004
                obtain ⟨x5004, W5004, hx5004, rfl⟩ := qo5004
                have hf5004 := (hg5004).l hr5004
                refine ww_aload_n dX11_readProduct_81 rfl rfl ?_
                refine ww_iload_n dX11_readProduct_82 rfl rfl ?_
                refine ww_iconst (v := nI 0) dX11_readProduct_83 (by decide) ?_
                refine ww_cV0 (M := m_X11_readProduct) (pc := 84) (h1 := mrS (mwS h m W5004) m n x5004 (nI q5004) (nI k5004) op) (st := []) (d := d + 1) (bc := 0) (bs := 0) (c_Mw_emit_f hst hM htf hB hn W5004 x5004 (nI k5004) op q5004 (by omega) (nI 5) (nI 0)) vv_X11_emit dX11_readProduct_84 wg_1495 ((mwS_M hM W5004).K0) rfl rfl rfl rfl (by omega) (Nat.le_of_ble_eq_true rfl) (Nat.le_of_ble_eq_true rfl) (Nat.le_of_ble_eq_true rfl) ?_
                refine ww_goto (tgt := 4) dX11_readProduct_87 (by decide) ?_
                refine ww_aload_n dX11_readProduct_4 rfl rfl ?_
                refine ww_cVr (M := m_X11_readProduct) (pc := 5) (v := .int (nI 0)) (h1 := mrS (mwS h m W5004) m n x5004 (nI q5004) (nI k5004) op) (st := []) (d := d + 1) (bc := 0) (bs := 0) (c_MR_fine_f hst (mwS_M hM W5004) (mwS_t (W := W5004) htf) hB hn x5004 (nI k5004) op q5004 (by omega)) vv_X11_fine dX11_readProduct_5 wg_1421 ((mwS_M hM W5004).K0) rfl rfl rfl rfl (by omega) (Nat.le_of_ble_eq_true rfl) (Nat.le_of_ble_eq_true rfl) (Nat.le_of_ble_eq_true rfl) ?_
                refine ww_if_eqN (tgt := 90) dX11_readProduct_8 (by decide) (by omega) (fun c8 => ?_) (fun c8 => ?_)
                · exact ww_vret dX11_readProduct_90 rfl ⟨rfl, (by rw [prdL_i (by assumption) (isP_t.mpr (by omega)), hr5004, bS_l]; exact ⟨_, _, (by assumption), rfl⟩)⟩
                · exact absurd c8 (by decide)
              · rw [hr5004] at qo5004
                obtain ⟨W5004, hw5004, rfl⟩ := qo5004
                have hf5004 := (hg5004).r hr5004
                refine ww_aload_n dX11_readProduct_81 rfl rfl ?_
                refine ww_iload_n dX11_readProduct_82 rfl rfl ?_
                refine ww_iconst (v := nI 0) dX11_readProduct_83 (by decide) ?_
                have hW5005 : W5004.1 = L5004.1 := hw5004.1
                have he5005 : (eL 5 0 L5004).1 = L5004.1 + 1 := rfl
                refine ww_cV0 (M := m_X11_readProduct) (pc := 84) (h1 := mrS (mwS h m (eL 5 0 W5004)) m n a5004 (-1) bk op) (st := []) (d := d + 1) (bc := 0) (bs := 0) (c_Mw_emit_t hst hM htf hB hn W5004 (by omega) a5004 bk op 5 0) vv_X11_emit dX11_readProduct_84 wg_1495 ((mwS_M hM W5004).K0) rfl rfl rfl rfl (by omega) (Nat.le_of_ble_eq_true rfl) (Nat.le_of_ble_eq_true rfl) (Nat.le_of_ble_eq_true rfl) ?_
                refine ww_goto (tgt := 4) dX11_readProduct_87 (by decide) ?_
                rw [prdL_i (by assumption) (isP_t.mpr (by omega)), hr5004, bS_r, show opP (T (sk T n a)) = 5 from by unfold opP; first | (exfalso; omega) | rw [if_pos (by omega)] | rw [if_neg (by omega), if_pos (by omega)] | rw [if_neg (by omega), if_neg (by omega)] | rw [if_neg (by omega)]]
                refine ww_fg (lv2 := [.ref m, UU]) ⟨Or.inr rfl, Or.inl rfl, trivial⟩ ?_
                exact ih a5004 (eL 5 0 L5004) (eL 5 0 W5004) (by omega) (by omega) (by omega) (MwR.e hw5004 (k := 5) (by decide) 0)
          · refine ww_iconst (v := nI 4) dX11_readProduct_47 (by decide) ?_
            refine ww_goto (tgt := 66) dX11_readProduct_48 (by decide) ?_
            refine ww_sti_n (lv2 := [.ref m, .int (nI 4)]) dX11_readProduct_66 rfl rfl (by decide) rfl ?_
            refine ww_aload_n dX11_readProduct_67 rfl rfl ?_
            refine ww_dup dX11_readProduct_68 rfl ?_
            refine ww_get 4 dX11_readProduct_69 ((mwS_M hM W).K0) rfl (by decide) inX11 wg_1244 (mrS_4 _ _ _ _ _ _ _) ?_
            refine ww_iconst (v := nI 1) dX11_readProduct_72 (by decide) ?_
            refine ww_iaddN dX11_readProduct_73 ?_
            refine ww_pfI tyX11 4 dX11_readProduct_74 ((mwS_M hM W).K0) rfl (by decide) inX11 tyX11_ok nmX11 wg_1244 rfl rfl ?_
            refine ww_hp (h2 := mrS (mwS h m W) m n ((sk T n a) + 1) (-1) bk op) (mrS_s4 _ _ _ _ _ _ _ _) ?_
            refine ww_aload_n dX11_readProduct_77 rfl rfl ?_
            have hg5006 := hG ((sk T n a) + 1) L (by omega)
            refine ww_cVq0 (M := m_X11_readProduct) (pc := 78) (st := []) (d := d + 1) (bc := 0) (bs := 0) (hU ((sk T n a) + 1) L W (by omega) (by omega) hw) vv_X11_readUnit dX11_readProduct_78 wg_1487 ((mwS_M hM W).K0) rfl rfl rfl rfl (by omega) (Nat.le_of_ble_eq_true rfl) (Nat.le_of_ble_eq_true rfl) (Nat.le_of_ble_eq_true rfl) (fun ho5006 qo5006 => ?_)
            rcases hr5006 : unit ((sk T n a) + 1) L with ⟨k5006, q5006⟩ | ⟨a5006, L5006⟩
            · rw [hr5006] at qo5006
              obtain ⟨x5006, W5006, hx5006, rfl⟩ := qo5006
              have hf5006 := (hg5006).l hr5006
              refine ww_aload_n dX11_readProduct_81 rfl rfl ?_
              refine ww_iload_n dX11_readProduct_82 rfl rfl ?_
              refine ww_iconst (v := nI 0) dX11_readProduct_83 (by decide) ?_
              refine ww_cV0 (M := m_X11_readProduct) (pc := 84) (h1 := mrS (mwS h m W5006) m n x5006 (nI q5006) (nI k5006) op) (st := []) (d := d + 1) (bc := 0) (bs := 0) (c_Mw_emit_f hst hM htf hB hn W5006 x5006 (nI k5006) op q5006 (by omega) (nI 4) (nI 0)) vv_X11_emit dX11_readProduct_84 wg_1495 ((mwS_M hM W5006).K0) rfl rfl rfl rfl (by omega) (Nat.le_of_ble_eq_true rfl) (Nat.le_of_ble_eq_true rfl) (Nat.le_of_ble_eq_true rfl) ?_
              refine ww_goto (tgt := 4) dX11_readProduct_87 (by decide) ?_
              refine ww_aload_n dX11_readProduct_4 rfl rfl ?_
              refine ww_cVr (M := m_X11_readProduct) (pc := 5) (v := .int (nI 0)) (h1 := mrS (mwS h m W5006) m n x5006 (nI q5006) (nI k5006) op) (st := []) (d := d + 1) (bc := 0) (bs := 0) (c_MR_fine_f hst (mwS_M hM W5006) (mwS_t (W := W5006) htf) hB hn x5006 (nI k5006) op q5006 (by omega)) vv_X11_fine dX11_readProduct_5 wg_1421 ((mwS_M hM W5006).K0) rfl rfl rfl rfl (by omega) (Nat.le_of_ble_eq_true rfl) (Nat.le_of_ble_eq_true rfl) (Nat.le_of_ble_eq_true rfl) ?_
              refine ww_if_eqN (tgt := 90) dX11_readProduct_8 (by decide) (by omega) (fun c8 => ?_) (fun c8 => ?_)
              · exact ww_vret dX11_readProduct_90 rfl ⟨rfl, (by rw [prdL_i (by assumption) (isP_t.mpr (by omega)), hr5006, bS_l]; exact ⟨_, _, (by assumption), rfl⟩)⟩
              · exact absurd c8 (by decide)
            · rw [hr5006] at qo5006
              obtain ⟨W5006, hw5006, rfl⟩ := qo5006
              have hf5006 := (hg5006).r hr5006
              refine ww_aload_n dX11_readProduct_81 rfl rfl ?_
              refine ww_iload_n dX11_readProduct_82 rfl rfl ?_
              refine ww_iconst (v := nI 0) dX11_readProduct_83 (by decide) ?_
              have hW5007 : W5006.1 = L5006.1 := hw5006.1
              have he5007 : (eL 4 0 L5006).1 = L5006.1 + 1 := rfl
              refine ww_cV0 (M := m_X11_readProduct) (pc := 84) (h1 := mrS (mwS h m (eL 4 0 W5006)) m n a5006 (-1) bk op) (st := []) (d := d + 1) (bc := 0) (bs := 0) (c_Mw_emit_t hst hM htf hB hn W5006 (by omega) a5006 bk op 4 0) vv_X11_emit dX11_readProduct_84 wg_1495 ((mwS_M hM W5006).K0) rfl rfl rfl rfl (by omega) (Nat.le_of_ble_eq_true rfl) (Nat.le_of_ble_eq_true rfl) (Nat.le_of_ble_eq_true rfl) ?_
              refine ww_goto (tgt := 4) dX11_readProduct_87 (by decide) ?_
              rw [prdL_i (by assumption) (isP_t.mpr (by omega)), hr5006, bS_r, show opP (T (sk T n a)) = 4 from by unfold opP; first | (exfalso; omega) | rw [if_pos (by omega)] | rw [if_neg (by omega), if_pos (by omega)] | rw [if_neg (by omega), if_neg (by omega)] | rw [if_neg (by omega)]]
              refine ww_fg (lv2 := [.ref m, UU]) ⟨Or.inr rfl, Or.inl rfl, trivial⟩ ?_
              exact ih a5006 (eL 4 0 L5006) (eL 4 0 W5006) (by omega) (by omega) (by omega) (MwR.e hw5006 (k := 4) (by decide) 0)
        · refine ww_aload_n dX11_readProduct_20 rfl rfl ?_
          refine ww_cVr (M := m_X11_readProduct) (pc := 21) (v := .int (nI (T (sk T n a)))) (h1 := mrS (mwS h m W) m n (sk T n a) (-1) bk op) (st := []) (d := d + 1) (bc := 0) (bs := 0) (c_MR_here_i hst (mwS_M hM W) (mwS_t (W := W) htf) hB hn (-1) bk op a (by omega) (by assumption)) vv_X11_here dX11_readProduct_21 wg_1429 ((mwS_M hM W).K0) rfl rfl rfl rfl (by omega) (Nat.le_of_ble_eq_true rfl) (Nat.le_of_ble_eq_true rfl) (Nat.le_of_ble_eq_true rfl) ?_
          refine ww_bipush (v := nI 47) dX11_readProduct_24 (by decide) ?_
          refine ww_icmp_eqN (tgt := 38) dX11_readProduct_26 (by decide) (by omega) (by omega) (fun c26 => ?_) (fun c26 => ?_)
          · refine ww_aload_n dX11_readProduct_38 rfl rfl ?_
            refine ww_cVr (M := m_X11_readProduct) (pc := 39) (v := .int (nI (T (sk T n a)))) (h1 := mrS (mwS h m W) m n (sk T n a) (-1) bk op) (st := []) (d := d + 1) (bc := 0) (bs := 0) (c_MR_here_i hst (mwS_M hM W) (mwS_t (W := W) htf) hB hn (-1) bk op a (by omega) (by assumption)) vv_X11_here dX11_readProduct_39 wg_1429 ((mwS_M hM W).K0) rfl rfl rfl rfl (by omega) (Nat.le_of_ble_eq_true rfl) (Nat.le_of_ble_eq_true rfl) (Nat.le_of_ble_eq_true rfl) ?_
            refine ww_bipush (v := nI 42) dX11_readProduct_42 (by decide) ?_
            refine ww_icmp_neN (tgt := 51) dX11_readProduct_44 (by decide) (by omega) (by omega) (fun c44 => ?_) (fun c44 => ?_)
            · refine ww_aload_n dX11_readProduct_51 rfl rfl ?_
              refine ww_cVr (M := m_X11_readProduct) (pc := 52) (v := .int (nI (T (sk T n a)))) (h1 := mrS (mwS h m W) m n (sk T n a) (-1) bk op) (st := []) (d := d + 1) (bc := 0) (bs := 0) (c_MR_here_i hst (mwS_M hM W) (mwS_t (W := W) htf) hB hn (-1) bk op a (by omega) (by assumption)) vv_X11_here dX11_readProduct_52 wg_1429 ((mwS_M hM W).K0) rfl rfl rfl rfl (by omega) (Nat.le_of_ble_eq_true rfl) (Nat.le_of_ble_eq_true rfl) (Nat.le_of_ble_eq_true rfl) ?_
              refine ww_bipush (v := nI 47) dX11_readProduct_55 (by decide) ?_
              refine ww_icmp_neN (tgt := 64) dX11_readProduct_57 (by decide) (by omega) (by omega) (fun c57 => ?_) (fun c57 => ?_)
              · refine ww_bipush (v := nI 8) dX11_readProduct_64 (by decide) ?_
                refine ww_sti_n (lv2 := [.ref m, .int (nI 8)]) dX11_readProduct_66 rfl rfl (by decide) rfl ?_
                refine ww_aload_n dX11_readProduct_67 rfl rfl ?_
                refine ww_dup dX11_readProduct_68 rfl ?_
                refine ww_get 4 dX11_readProduct_69 ((mwS_M hM W).K0) rfl (by decide) inX11 wg_1244 (mrS_4 _ _ _ _ _ _ _) ?_
                refine ww_iconst (v := nI 1) dX11_readProduct_72 (by decide) ?_
                refine ww_iaddN dX11_readProduct_73 ?_
                refine ww_pfI tyX11 4 dX11_readProduct_74 ((mwS_M hM W).K0) rfl (by decide) inX11 tyX11_ok nmX11 wg_1244 rfl rfl ?_
                refine ww_hp (h2 := mrS (mwS h m W) m n ((sk T n a) + 1) (-1) bk op) (mrS_s4 _ _ _ _ _ _ _ _) ?_
                refine ww_aload_n dX11_readProduct_77 rfl rfl ?_
                have hg5008 := hG ((sk T n a) + 1) L (by omega)
                refine ww_cVq0 (M := m_X11_readProduct) (pc := 78) (st := []) (d := d + 1) (bc := 0) (bs := 0) (hU ((sk T n a) + 1) L W (by omega) (by omega) hw) vv_X11_readUnit dX11_readProduct_78 wg_1487 ((mwS_M hM W).K0) rfl rfl rfl rfl (by omega) (Nat.le_of_ble_eq_true rfl) (Nat.le_of_ble_eq_true rfl) (Nat.le_of_ble_eq_true rfl) (fun ho5008 qo5008 => ?_)
                rcases hr5008 : unit ((sk T n a) + 1) L with ⟨k5008, q5008⟩ | ⟨a5008, L5008⟩
                · rw [hr5008] at qo5008
                  obtain ⟨x5008, W5008, hx5008, rfl⟩ := qo5008
                  have hf5008 := (hg5008).l hr5008
                  refine ww_aload_n dX11_readProduct_81 rfl rfl ?_
                  refine ww_iload_n dX11_readProduct_82 rfl rfl ?_
                  refine ww_iconst (v := nI 0) dX11_readProduct_83 (by decide) ?_
                  refine ww_cV0 (M := m_X11_readProduct) (pc := 84) (h1 := mrS (mwS h m W5008) m n x5008 (nI q5008) (nI k5008) op) (st := []) (d := d + 1) (bc := 0) (bs := 0) (c_Mw_emit_f hst hM htf hB hn W5008 x5008 (nI k5008) op q5008 (by omega) (nI 8) (nI 0)) vv_X11_emit dX11_readProduct_84 wg_1495 ((mwS_M hM W5008).K0) rfl rfl rfl rfl (by omega) (Nat.le_of_ble_eq_true rfl) (Nat.le_of_ble_eq_true rfl) (Nat.le_of_ble_eq_true rfl) ?_
                  refine ww_goto (tgt := 4) dX11_readProduct_87 (by decide) ?_
                  refine ww_aload_n dX11_readProduct_4 rfl rfl ?_
                  refine ww_cVr (M := m_X11_readProduct) (pc := 5) (v := .int (nI 0)) (h1 := mrS (mwS h m W5008) m n x5008 (nI q5008) (nI k5008) op) (st := []) (d := d + 1) (bc := 0) (bs := 0) (c_MR_fine_f hst (mwS_M hM W5008) (mwS_t (W := W5008) htf) hB hn x5008 (nI k5008) op q5008 (by omega)) vv_X11_fine dX11_readProduct_5 wg_1421 ((mwS_M hM W5008).K0) rfl rfl rfl rfl (by omega) (Nat.le_of_ble_eq_true rfl) (Nat.le_of_ble_eq_true rfl) (Nat.le_of_ble_eq_true rfl) ?_
                  refine ww_if_eqN (tgt := 90) dX11_readProduct_8 (by decide) (by omega) (fun c8 => ?_) (fun c8 => ?_)
                  · exact ww_vret dX11_readProduct_90 rfl ⟨rfl, (by rw [prdL_i (by assumption) (isP_t.mpr (by omega)), hr5008, bS_l]; exact ⟨_, _, (by assumption), rfl⟩)⟩
                  · exact absurd c8 (by decide)
                · rw [hr5008] at qo5008
                  obtain ⟨W5008, hw5008, rfl⟩ := qo5008
                  have hf5008 := (hg5008).r hr5008
                  refine ww_aload_n dX11_readProduct_81 rfl rfl ?_
                  refine ww_iload_n dX11_readProduct_82 rfl rfl ?_
                  refine ww_iconst (v := nI 0) dX11_readProduct_83 (by decide) ?_
                  have hW5009 : W5008.1 = L5008.1 := hw5008.1
                  have he5009 : (eL 6 0 L5008).1 = L5008.1 + 1 := rfl
                  refine ww_cV0 (M := m_X11_readProduct) (pc := 84) (h1 := mrS (mwS h m (eL 8 0 W5008)) m n a5008 (-1) bk op) (st := []) (d := d + 1) (bc := 0) (bs := 0) (c_Mw_emit_t hst hM htf hB hn W5008 (by omega) a5008 bk op 8 0) vv_X11_emit dX11_readProduct_84 wg_1495 ((mwS_M hM W5008).K0) rfl rfl rfl rfl (by omega) (Nat.le_of_ble_eq_true rfl) (Nat.le_of_ble_eq_true rfl) (Nat.le_of_ble_eq_true rfl) ?_
                  refine ww_goto (tgt := 4) dX11_readProduct_87 (by decide) ?_
                  rw [prdL_i (by assumption) (isP_t.mpr (by omega)), hr5008, bS_r, show opP (T (sk T n a)) = 6 from by unfold opP; first | (exfalso; omega) | rw [if_pos (by omega)] | rw [if_neg (by omega), if_pos (by omega)] | rw [if_neg (by omega), if_neg (by omega)] | rw [if_neg (by omega)]]
                  refine ww_fg (lv2 := [.ref m, UU]) ⟨Or.inr rfl, Or.inl rfl, trivial⟩ ?_
                  exact ih a5008 (eL 6 0 L5008) (eL 8 0 W5008) (by omega) (by omega) (by omega) (MwR.e hw5008 (k := 6) (by decide) 0)
              · refine ww_iconst (v := nI 5) dX11_readProduct_60 (by decide) ?_
                refine ww_goto (tgt := 66) dX11_readProduct_61 (by decide) ?_
                refine ww_sti_n (lv2 := [.ref m, .int (nI 5)]) dX11_readProduct_66 rfl rfl (by decide) rfl ?_
                refine ww_aload_n dX11_readProduct_67 rfl rfl ?_
                refine ww_dup dX11_readProduct_68 rfl ?_
                refine ww_get 4 dX11_readProduct_69 ((mwS_M hM W).K0) rfl (by decide) inX11 wg_1244 (mrS_4 _ _ _ _ _ _ _) ?_
                refine ww_iconst (v := nI 1) dX11_readProduct_72 (by decide) ?_
                refine ww_iaddN dX11_readProduct_73 ?_
                refine ww_pfI tyX11 4 dX11_readProduct_74 ((mwS_M hM W).K0) rfl (by decide) inX11 tyX11_ok nmX11 wg_1244 rfl rfl ?_
                refine ww_hp (h2 := mrS (mwS h m W) m n ((sk T n a) + 1) (-1) bk op) (mrS_s4 _ _ _ _ _ _ _ _) ?_
                refine ww_aload_n dX11_readProduct_77 rfl rfl ?_
                have hg5010 := hG ((sk T n a) + 1) L (by omega)
                refine ww_cVq0 (M := m_X11_readProduct) (pc := 78) (st := []) (d := d + 1) (bc := 0) (bs := 0) (hU ((sk T n a) + 1) L W (by omega) (by omega) hw) vv_X11_readUnit dX11_readProduct_78 wg_1487 ((mwS_M hM W).K0) rfl rfl rfl rfl (by omega) (Nat.le_of_ble_eq_true rfl) (Nat.le_of_ble_eq_true rfl) (Nat.le_of_ble_eq_true rfl) (fun ho5010 qo5010 => ?_)
                rcases hr5010 : unit ((sk T n a) + 1) L with ⟨k5010, q5010⟩ | ⟨a5010, L5010⟩
                · rw [hr5010] at qo5010
                  obtain ⟨x5010, W5010, hx5010, rfl⟩ := qo5010
                  have hf5010 := (hg5010).l hr5010
                  refine ww_aload_n dX11_readProduct_81 rfl rfl ?_
                  refine ww_iload_n dX11_readProduct_82 rfl rfl ?_
                  refine ww_iconst (v := nI 0) dX11_readProduct_83 (by decide) ?_
                  refine ww_cV0 (M := m_X11_readProduct) (pc := 84) (h1 := mrS (mwS h m W5010) m n x5010 (nI q5010) (nI k5010) op) (st := []) (d := d + 1) (bc := 0) (bs := 0) (c_Mw_emit_f hst hM htf hB hn W5010 x5010 (nI k5010) op q5010 (by omega) (nI 5) (nI 0)) vv_X11_emit dX11_readProduct_84 wg_1495 ((mwS_M hM W5010).K0) rfl rfl rfl rfl (by omega) (Nat.le_of_ble_eq_true rfl) (Nat.le_of_ble_eq_true rfl) (Nat.le_of_ble_eq_true rfl) ?_
                  refine ww_goto (tgt := 4) dX11_readProduct_87 (by decide) ?_
                  refine ww_aload_n dX11_readProduct_4 rfl rfl ?_
                  refine ww_cVr (M := m_X11_readProduct) (pc := 5) (v := .int (nI 0)) (h1 := mrS (mwS h m W5010) m n x5010 (nI q5010) (nI k5010) op) (st := []) (d := d + 1) (bc := 0) (bs := 0) (c_MR_fine_f hst (mwS_M hM W5010) (mwS_t (W := W5010) htf) hB hn x5010 (nI k5010) op q5010 (by omega)) vv_X11_fine dX11_readProduct_5 wg_1421 ((mwS_M hM W5010).K0) rfl rfl rfl rfl (by omega) (Nat.le_of_ble_eq_true rfl) (Nat.le_of_ble_eq_true rfl) (Nat.le_of_ble_eq_true rfl) ?_
                  refine ww_if_eqN (tgt := 90) dX11_readProduct_8 (by decide) (by omega) (fun c8 => ?_) (fun c8 => ?_)
                  · exact ww_vret dX11_readProduct_90 rfl ⟨rfl, (by rw [prdL_i (by assumption) (isP_t.mpr (by omega)), hr5010, bS_l]; exact ⟨_, _, (by assumption), rfl⟩)⟩
                  · exact absurd c8 (by decide)
                · rw [hr5010] at qo5010
                  obtain ⟨W5010, hw5010, rfl⟩ := qo5010
                  have hf5010 := (hg5010).r hr5010
                  refine ww_aload_n dX11_readProduct_81 rfl rfl ?_
                  refine ww_iload_n dX11_readProduct_82 rfl rfl ?_
                  refine ww_iconst (v := nI 0) dX11_readProduct_83 (by decide) ?_
                  have hW5011 : W5010.1 = L5010.1 := hw5010.1
                  have he5011 : (eL 5 0 L5010).1 = L5010.1 + 1 := rfl
                  refine ww_cV0 (M := m_X11_readProduct) (pc := 84) (h1 := mrS (mwS h m (eL 5 0 W5010)) m n a5010 (-1) bk op) (st := []) (d := d + 1) (bc := 0) (bs := 0) (c_Mw_emit_t hst hM htf hB hn W5010 (by omega) a5010 bk op 5 0) vv_X11_emit dX11_readProduct_84 wg_1495 ((mwS_M hM W5010).K0) rfl rfl rfl rfl (by omega) (Nat.le_of_ble_eq_true rfl) (Nat.le_of_ble_eq_true rfl) (Nat.le_of_ble_eq_true rfl) ?_
                  refine ww_goto (tgt := 4) dX11_readProduct_87 (by decide) ?_
                  rw [prdL_i (by assumption) (isP_t.mpr (by omega)), hr5010, bS_r, show opP (T (sk T n a)) = 5 from by unfold opP; first | (exfalso; omega) | rw [if_pos (by omega)] | rw [if_neg (by omega), if_pos (by omega)] | rw [if_neg (by omega), if_neg (by omega)] | rw [if_neg (by omega)]]
                  refine ww_fg (lv2 := [.ref m, UU]) ⟨Or.inr rfl, Or.inl rfl, trivial⟩ ?_
                  exact ih a5010 (eL 5 0 L5010) (eL 5 0 W5010) (by omega) (by omega) (by omega) (MwR.e hw5010 (k := 5) (by decide) 0)
            · refine ww_iconst (v := nI 4) dX11_readProduct_47 (by decide) ?_
              refine ww_goto (tgt := 66) dX11_readProduct_48 (by decide) ?_
              refine ww_sti_n (lv2 := [.ref m, .int (nI 4)]) dX11_readProduct_66 rfl rfl (by decide) rfl ?_
              refine ww_aload_n dX11_readProduct_67 rfl rfl ?_
              refine ww_dup dX11_readProduct_68 rfl ?_
              refine ww_get 4 dX11_readProduct_69 ((mwS_M hM W).K0) rfl (by decide) inX11 wg_1244 (mrS_4 _ _ _ _ _ _ _) ?_
              refine ww_iconst (v := nI 1) dX11_readProduct_72 (by decide) ?_
              refine ww_iaddN dX11_readProduct_73 ?_
              refine ww_pfI tyX11 4 dX11_readProduct_74 ((mwS_M hM W).K0) rfl (by decide) inX11 tyX11_ok nmX11 wg_1244 rfl rfl ?_
              refine ww_hp (h2 := mrS (mwS h m W) m n ((sk T n a) + 1) (-1) bk op) (mrS_s4 _ _ _ _ _ _ _ _) ?_
              refine ww_aload_n dX11_readProduct_77 rfl rfl ?_
              have hg5012 := hG ((sk T n a) + 1) L (by omega)
              refine ww_cVq0 (M := m_X11_readProduct) (pc := 78) (st := []) (d := d + 1) (bc := 0) (bs := 0) (hU ((sk T n a) + 1) L W (by omega) (by omega) hw) vv_X11_readUnit dX11_readProduct_78 wg_1487 ((mwS_M hM W).K0) rfl rfl rfl rfl (by omega) (Nat.le_of_ble_eq_true rfl) (Nat.le_of_ble_eq_true rfl) (Nat.le_of_ble_eq_true rfl) (fun ho5012 qo5012 => ?_)
              rcases hr5012 : unit ((sk T n a) + 1) L with ⟨k5012, q5012⟩ | ⟨a5012, L5012⟩
              · rw [hr5012] at qo5012
                obtain ⟨x5012, W5012, hx5012, rfl⟩ := qo5012
                have hf5012 := (hg5012).l hr5012
                refine ww_aload_n dX11_readProduct_81 rfl rfl ?_
                refine ww_iload_n dX11_readProduct_82 rfl rfl ?_
                refine ww_iconst (v := nI 0) dX11_readProduct_83 (by decide) ?_
                refine ww_cV0 (M := m_X11_readProduct) (pc := 84) (h1 := mrS (mwS h m W5012) m n x5012 (nI q5012) (nI k5012) op) (st := []) (d := d + 1) (bc := 0) (bs := 0) (c_Mw_emit_f hst hM htf hB hn W5012 x5012 (nI k5012) op q5012 (by omega) (nI 4) (nI 0)) vv_X11_emit dX11_readProduct_84 wg_1495 ((mwS_M hM W5012).K0) rfl rfl rfl rfl (by omega) (Nat.le_of_ble_eq_true rfl) (Nat.le_of_ble_eq_true rfl) (Nat.le_of_ble_eq_true rfl) ?_
                refine ww_goto (tgt := 4) dX11_readProduct_87 (by decide) ?_
                refine ww_aload_n dX11_readProduct_4 rfl rfl ?_
                refine ww_cVr (M := m_X11_readProduct) (pc := 5) (v := .int (nI 0)) (h1 := mrS (mwS h m W5012) m n x5012 (nI q5012) (nI k5012) op) (st := []) (d := d + 1) (bc := 0) (bs := 0) (c_MR_fine_f hst (mwS_M hM W5012) (mwS_t (W := W5012) htf) hB hn x5012 (nI k5012) op q5012 (by omega)) vv_X11_fine dX11_readProduct_5 wg_1421 ((mwS_M hM W5012).K0) rfl rfl rfl rfl (by omega) (Nat.le_of_ble_eq_true rfl) (Nat.le_of_ble_eq_true rfl) (Nat.le_of_ble_eq_true rfl) ?_
                refine ww_if_eqN (tgt := 90) dX11_readProduct_8 (by decide) (by omega) (fun c8 => ?_) (fun c8 => ?_)
                · exact ww_vret dX11_readProduct_90 rfl ⟨rfl, (by rw [prdL_i (by assumption) (isP_t.mpr (by omega)), hr5012, bS_l]; exact ⟨_, _, (by assumption), rfl⟩)⟩
                · exact absurd c8 (by decide)
              · rw [hr5012] at qo5012
                obtain ⟨W5012, hw5012, rfl⟩ := qo5012
                have hf5012 := (hg5012).r hr5012
                refine ww_aload_n dX11_readProduct_81 rfl rfl ?_
                refine ww_iload_n dX11_readProduct_82 rfl rfl ?_
                refine ww_iconst (v := nI 0) dX11_readProduct_83 (by decide) ?_
                have hW5013 : W5012.1 = L5012.1 := hw5012.1
                have he5013 : (eL 4 0 L5012).1 = L5012.1 + 1 := rfl
                refine ww_cV0 (M := m_X11_readProduct) (pc := 84) (h1 := mrS (mwS h m (eL 4 0 W5012)) m n a5012 (-1) bk op) (st := []) (d := d + 1) (bc := 0) (bs := 0) (c_Mw_emit_t hst hM htf hB hn W5012 (by omega) a5012 bk op 4 0) vv_X11_emit dX11_readProduct_84 wg_1495 ((mwS_M hM W5012).K0) rfl rfl rfl rfl (by omega) (Nat.le_of_ble_eq_true rfl) (Nat.le_of_ble_eq_true rfl) (Nat.le_of_ble_eq_true rfl) ?_
                refine ww_goto (tgt := 4) dX11_readProduct_87 (by decide) ?_
                rw [prdL_i (by assumption) (isP_t.mpr (by omega)), hr5012, bS_r, show opP (T (sk T n a)) = 4 from by unfold opP; first | (exfalso; omega) | rw [if_pos (by omega)] | rw [if_neg (by omega), if_pos (by omega)] | rw [if_neg (by omega), if_neg (by omega)] | rw [if_neg (by omega)]]
                refine ww_fg (lv2 := [.ref m, UU]) ⟨Or.inr rfl, Or.inl rfl, trivial⟩ ?_
                exact ih a5012 (eL 4 0 L5012) (eL 4 0 W5012) (by omega) (by omega) (by omega) (MwR.e hw5012 (k := 4) (by decide) 0)
          · refine ww_aload_n dX11_readProduct_29 rfl rfl ?_
            refine ww_cVr (M := m_X11_readProduct) (pc := 30) (v := .int (nI (T (sk T n a)))) (h1 := mrS (mwS h m W) m n (sk T n a) (-1) bk op) (st := []) (d := d + 1) (bc := 0) (bs := 0) (c_MR_here_i hst (mwS_M hM W) (mwS_t (W := W) htf) hB hn (-1) bk op a (by omega) (by assumption)) vv_X11_here dX11_readProduct_30 wg_1429 ((mwS_M hM W).K0) rfl rfl rfl rfl (by omega) (Nat.le_of_ble_eq_true rfl) (Nat.le_of_ble_eq_true rfl) (Nat.le_of_ble_eq_true rfl) ?_
            refine ww_bipush (v := nI 37) dX11_readProduct_33 (by decide) ?_
            refine ww_icmp_neN (tgt := 90) dX11_readProduct_35 (by decide) (by omega) (by omega) (fun c35 => ?_) (fun c35 => ?_)
            · exact ww_vret dX11_readProduct_90 rfl ⟨rfl, (by rw [prdL_e (fun e => by have e9 := isP_t.mp e.2; omega)]; exact ⟨W, hw, rfl⟩)⟩
            · refine ww_aload_n dX11_readProduct_38 rfl rfl ?_
              refine ww_cVr (M := m_X11_readProduct) (pc := 39) (v := .int (nI (T (sk T n a)))) (h1 := mrS (mwS h m W) m n (sk T n a) (-1) bk op) (st := []) (d := d + 1) (bc := 0) (bs := 0) (c_MR_here_i hst (mwS_M hM W) (mwS_t (W := W) htf) hB hn (-1) bk op a (by omega) (by assumption)) vv_X11_here dX11_readProduct_39 wg_1429 ((mwS_M hM W).K0) rfl rfl rfl rfl (by omega) (Nat.le_of_ble_eq_true rfl) (Nat.le_of_ble_eq_true rfl) (Nat.le_of_ble_eq_true rfl) ?_
              refine ww_bipush (v := nI 42) dX11_readProduct_42 (by decide) ?_
              refine ww_icmp_neN (tgt := 51) dX11_readProduct_44 (by decide) (by omega) (by omega) (fun c44 => ?_) (fun c44 => ?_)
              · refine ww_aload_n dX11_readProduct_51 rfl rfl ?_
                refine ww_cVr (M := m_X11_readProduct) (pc := 52) (v := .int (nI (T (sk T n a)))) (h1 := mrS (mwS h m W) m n (sk T n a) (-1) bk op) (st := []) (d := d + 1) (bc := 0) (bs := 0) (c_MR_here_i hst (mwS_M hM W) (mwS_t (W := W) htf) hB hn (-1) bk op a (by omega) (by assumption)) vv_X11_here dX11_readProduct_52 wg_1429 ((mwS_M hM W).K0) rfl rfl rfl rfl (by omega) (Nat.le_of_ble_eq_true rfl) (Nat.le_of_ble_eq_true rfl) (Nat.le_of_ble_eq_true rfl) ?_
                refine ww_bipush (v := nI 47) dX11_readProduct_55 (by decide) ?_
                refine ww_icmp_neN (tgt := 64) dX11_readProduct_57 (by decide) (by omega) (by omega) (fun c57 => ?_) (fun c57 => ?_)
                · refine ww_bipush (v := nI 8) dX11_readProduct_64 (by decide) ?_
                  refine ww_sti_n (lv2 := [.ref m, .int (nI 8)]) dX11_readProduct_66 rfl rfl (by decide) rfl ?_
                  refine ww_aload_n dX11_readProduct_67 rfl rfl ?_
                  refine ww_dup dX11_readProduct_68 rfl ?_
                  refine ww_get 4 dX11_readProduct_69 ((mwS_M hM W).K0) rfl (by decide) inX11 wg_1244 (mrS_4 _ _ _ _ _ _ _) ?_
                  refine ww_iconst (v := nI 1) dX11_readProduct_72 (by decide) ?_
                  refine ww_iaddN dX11_readProduct_73 ?_
                  refine ww_pfI tyX11 4 dX11_readProduct_74 ((mwS_M hM W).K0) rfl (by decide) inX11 tyX11_ok nmX11 wg_1244 rfl rfl ?_
                  refine ww_hp (h2 := mrS (mwS h m W) m n ((sk T n a) + 1) (-1) bk op) (mrS_s4 _ _ _ _ _ _ _ _) ?_
                  refine ww_aload_n dX11_readProduct_77 rfl rfl ?_
                  have hg5014 := hG ((sk T n a) + 1) L (by omega)
                  refine ww_cVq0 (M := m_X11_readProduct) (pc := 78) (st := []) (d := d + 1) (bc := 0) (bs := 0) (hU ((sk T n a) + 1) L W (by omega) (by omega) hw) vv_X11_readUnit dX11_readProduct_78 wg_1487 ((mwS_M hM W).K0) rfl rfl rfl rfl (by omega) (Nat.le_of_ble_eq_true rfl) (Nat.le_of_ble_eq_true rfl) (Nat.le_of_ble_eq_true rfl) (fun ho5014 qo5014 => ?_)
                  rcases hr5014 : unit ((sk T n a) + 1) L with ⟨k5014, q5014⟩ | ⟨a5014, L5014⟩
                  · rw [hr5014] at qo5014
                    obtain ⟨x5014, W5014, hx5014, rfl⟩ := qo5014
                    have hf5014 := (hg5014).l hr5014
                    refine ww_aload_n dX11_readProduct_81 rfl rfl ?_
                    refine ww_iload_n dX11_readProduct_82 rfl rfl ?_
                    refine ww_iconst (v := nI 0) dX11_readProduct_83 (by decide) ?_
                    refine ww_cV0 (M := m_X11_readProduct) (pc := 84) (h1 := mrS (mwS h m W5014) m n x5014 (nI q5014) (nI k5014) op) (st := []) (d := d + 1) (bc := 0) (bs := 0) (c_Mw_emit_f hst hM htf hB hn W5014 x5014 (nI k5014) op q5014 (by omega) (nI 8) (nI 0)) vv_X11_emit dX11_readProduct_84 wg_1495 ((mwS_M hM W5014).K0) rfl rfl rfl rfl (by omega) (Nat.le_of_ble_eq_true rfl) (Nat.le_of_ble_eq_true rfl) (Nat.le_of_ble_eq_true rfl) ?_
                    refine ww_goto (tgt := 4) dX11_readProduct_87 (by decide) ?_
                    refine ww_aload_n dX11_readProduct_4 rfl rfl ?_
                    refine ww_cVr (M := m_X11_readProduct) (pc := 5) (v := .int (nI 0)) (h1 := mrS (mwS h m W5014) m n x5014 (nI q5014) (nI k5014) op) (st := []) (d := d + 1) (bc := 0) (bs := 0) (c_MR_fine_f hst (mwS_M hM W5014) (mwS_t (W := W5014) htf) hB hn x5014 (nI k5014) op q5014 (by omega)) vv_X11_fine dX11_readProduct_5 wg_1421 ((mwS_M hM W5014).K0) rfl rfl rfl rfl (by omega) (Nat.le_of_ble_eq_true rfl) (Nat.le_of_ble_eq_true rfl) (Nat.le_of_ble_eq_true rfl) ?_
                    refine ww_if_eqN (tgt := 90) dX11_readProduct_8 (by decide) (by omega) (fun c8 => ?_) (fun c8 => ?_)
                    · exact ww_vret dX11_readProduct_90 rfl ⟨rfl, (by rw [prdL_i (by assumption) (isP_t.mpr (by omega)), hr5014, bS_l]; exact ⟨_, _, (by assumption), rfl⟩)⟩
                    · exact absurd c8 (by decide)
                  · rw [hr5014] at qo5014
                    obtain ⟨W5014, hw5014, rfl⟩ := qo5014
                    have hf5014 := (hg5014).r hr5014
                    refine ww_aload_n dX11_readProduct_81 rfl rfl ?_
                    refine ww_iload_n dX11_readProduct_82 rfl rfl ?_
                    refine ww_iconst (v := nI 0) dX11_readProduct_83 (by decide) ?_
                    have hW5015 : W5014.1 = L5014.1 := hw5014.1
                    have he5015 : (eL 6 0 L5014).1 = L5014.1 + 1 := rfl
                    refine ww_cV0 (M := m_X11_readProduct) (pc := 84) (h1 := mrS (mwS h m (eL 8 0 W5014)) m n a5014 (-1) bk op) (st := []) (d := d + 1) (bc := 0) (bs := 0) (c_Mw_emit_t hst hM htf hB hn W5014 (by omega) a5014 bk op 8 0) vv_X11_emit dX11_readProduct_84 wg_1495 ((mwS_M hM W5014).K0) rfl rfl rfl rfl (by omega) (Nat.le_of_ble_eq_true rfl) (Nat.le_of_ble_eq_true rfl) (Nat.le_of_ble_eq_true rfl) ?_
                    refine ww_goto (tgt := 4) dX11_readProduct_87 (by decide) ?_
                    rw [prdL_i (by assumption) (isP_t.mpr (by omega)), hr5014, bS_r, show opP (T (sk T n a)) = 6 from by unfold opP; first | (exfalso; omega) | rw [if_pos (by omega)] | rw [if_neg (by omega), if_pos (by omega)] | rw [if_neg (by omega), if_neg (by omega)] | rw [if_neg (by omega)]]
                    refine ww_fg (lv2 := [.ref m, UU]) ⟨Or.inr rfl, Or.inl rfl, trivial⟩ ?_
                    exact ih a5014 (eL 6 0 L5014) (eL 8 0 W5014) (by omega) (by omega) (by omega) (MwR.e hw5014 (k := 6) (by decide) 0)
                · refine ww_iconst (v := nI 5) dX11_readProduct_60 (by decide) ?_
                  refine ww_goto (tgt := 66) dX11_readProduct_61 (by decide) ?_
                  refine ww_sti_n (lv2 := [.ref m, .int (nI 5)]) dX11_readProduct_66 rfl rfl (by decide) rfl ?_
                  refine ww_aload_n dX11_readProduct_67 rfl rfl ?_
                  refine ww_dup dX11_readProduct_68 rfl ?_
                  refine ww_get 4 dX11_readProduct_69 ((mwS_M hM W).K0) rfl (by decide) inX11 wg_1244 (mrS_4 _ _ _ _ _ _ _) ?_
                  refine ww_iconst (v := nI 1) dX11_readProduct_72 (by decide) ?_
                  refine ww_iaddN dX11_readProduct_73 ?_
                  refine ww_pfI tyX11 4 dX11_readProduct_74 ((mwS_M hM W).K0) rfl (by decide) inX11 tyX11_ok nmX11 wg_1244 rfl rfl ?_
                  refine ww_hp (h2 := mrS (mwS h m W) m n ((sk T n a) + 1) (-1) bk op) (mrS_s4 _ _ _ _ _ _ _ _) ?_
                  refine ww_aload_n dX11_readProduct_77 rfl rfl ?_
                  have hg5016 := hG ((sk T n a) + 1) L (by omega)
                  refine ww_cVq0 (M := m_X11_readProduct) (pc := 78) (st := []) (d := d + 1) (bc := 0) (bs := 0) (hU ((sk T n a) + 1) L W (by omega) (by omega) hw) vv_X11_readUnit dX11_readProduct_78 wg_1487 ((mwS_M hM W).K0) rfl rfl rfl rfl (by omega) (Nat.le_of_ble_eq_true rfl) (Nat.le_of_ble_eq_true rfl) (Nat.le_of_ble_eq_true rfl) (fun ho5016 qo5016 => ?_)
                  rcases hr5016 : unit ((sk T n a) + 1) L with ⟨k5016, q5016⟩ | ⟨a5016, L5016⟩
                  · rw [hr5016] at qo5016
                    obtain ⟨x5016, W5016, hx5016, rfl⟩ := qo5016
                    have hf5016 := (hg5016).l hr5016
                    refine ww_aload_n dX11_readProduct_81 rfl rfl ?_
                    refine ww_iload_n dX11_readProduct_82 rfl rfl ?_
                    refine ww_iconst (v := nI 0) dX11_readProduct_83 (by decide) ?_
                    refine ww_cV0 (M := m_X11_readProduct) (pc := 84) (h1 := mrS (mwS h m W5016) m n x5016 (nI q5016) (nI k5016) op) (st := []) (d := d + 1) (bc := 0) (bs := 0) (c_Mw_emit_f hst hM htf hB hn W5016 x5016 (nI k5016) op q5016 (by omega) (nI 5) (nI 0)) vv_X11_emit dX11_readProduct_84 wg_1495 ((mwS_M hM W5016).K0) rfl rfl rfl rfl (by omega) (Nat.le_of_ble_eq_true rfl) (Nat.le_of_ble_eq_true rfl) (Nat.le_of_ble_eq_true rfl) ?_
                    refine ww_goto (tgt := 4) dX11_readProduct_87 (by decide) ?_
                    refine ww_aload_n dX11_readProduct_4 rfl rfl ?_
                    refine ww_cVr (M := m_X11_readProduct) (pc := 5) (v := .int (nI 0)) (h1 := mrS (mwS h m W5016) m n x5016 (nI q5016) (nI k5016) op) (st := []) (d := d + 1) (bc := 0) (bs := 0) (c_MR_fine_f hst (mwS_M hM W5016) (mwS_t (W := W5016) htf) hB hn x5016 (nI k5016) op q5016 (by omega)) vv_X11_fine dX11_readProduct_5 wg_1421 ((mwS_M hM W5016).K0) rfl rfl rfl rfl (by omega) (Nat.le_of_ble_eq_true rfl) (Nat.le_of_ble_eq_true rfl) (Nat.le_of_ble_eq_true rfl) ?_
                    refine ww_if_eqN (tgt := 90) dX11_readProduct_8 (by decide) (by omega) (fun c8 => ?_) (fun c8 => ?_)
                    · exact ww_vret dX11_readProduct_90 rfl ⟨rfl, (by rw [prdL_i (by assumption) (isP_t.mpr (by omega)), hr5016, bS_l]; exact ⟨_, _, (by assumption), rfl⟩)⟩
                    · exact absurd c8 (by decide)
                  · rw [hr5016] at qo5016
                    obtain ⟨W5016, hw5016, rfl⟩ := qo5016
                    have hf5016 := (hg5016).r hr5016
                    refine ww_aload_n dX11_readProduct_81 rfl rfl ?_
                    refine ww_iload_n dX11_readProduct_82 rfl rfl ?_
                    refine ww_iconst (v := nI 0) dX11_readProduct_83 (by decide) ?_
                    have hW5017 : W5016.1 = L5016.1 := hw5016.1
                    have he5017 : (eL 5 0 L5016).1 = L5016.1 + 1 := rfl
                    refine ww_cV0 (M := m_X11_readProduct) (pc := 84) (h1 := mrS (mwS h m (eL 5 0 W5016)) m n a5016 (-1) bk op) (st := []) (d := d + 1) (bc := 0) (bs := 0) (c_Mw_emit_t hst hM htf hB hn W5016 (by omega) a5016 bk op 5 0) vv_X11_emit dX11_readProduct_84 wg_1495 ((mwS_M hM W5016).K0) rfl rfl rfl rfl (by omega) (Nat.le_of_ble_eq_true rfl) (Nat.le_of_ble_eq_true rfl) (Nat.le_of_ble_eq_true rfl) ?_
                    refine ww_goto (tgt := 4) dX11_readProduct_87 (by decide) ?_
                    rw [prdL_i (by assumption) (isP_t.mpr (by omega)), hr5016, bS_r, show opP (T (sk T n a)) = 5 from by unfold opP; first | (exfalso; omega) | rw [if_pos (by omega)] | rw [if_neg (by omega), if_pos (by omega)] | rw [if_neg (by omega), if_neg (by omega)] | rw [if_neg (by omega)]]
                    refine ww_fg (lv2 := [.ref m, UU]) ⟨Or.inr rfl, Or.inl rfl, trivial⟩ ?_
                    exact ih a5016 (eL 5 0 L5016) (eL 5 0 W5016) (by omega) (by omega) (by omega) (MwR.e hw5016 (k := 5) (by decide) 0)
              · refine ww_iconst (v := nI 4) dX11_readProduct_47 (by decide) ?_
                refine ww_goto (tgt := 66) dX11_readProduct_48 (by decide) ?_
                refine ww_sti_n (lv2 := [.ref m, .int (nI 4)]) dX11_readProduct_66 rfl rfl (by decide) rfl ?_
                refine ww_aload_n dX11_readProduct_67 rfl rfl ?_
                refine ww_dup dX11_readProduct_68 rfl ?_
                refine ww_get 4 dX11_readProduct_69 ((mwS_M hM W).K0) rfl (by decide) inX11 wg_1244 (mrS_4 _ _ _ _ _ _ _) ?_
                refine ww_iconst (v := nI 1) dX11_readProduct_72 (by decide) ?_
                refine ww_iaddN dX11_readProduct_73 ?_
                refine ww_pfI tyX11 4 dX11_readProduct_74 ((mwS_M hM W).K0) rfl (by decide) inX11 tyX11_ok nmX11 wg_1244 rfl rfl ?_
                refine ww_hp (h2 := mrS (mwS h m W) m n ((sk T n a) + 1) (-1) bk op) (mrS_s4 _ _ _ _ _ _ _ _) ?_
                refine ww_aload_n dX11_readProduct_77 rfl rfl ?_
                have hg5018 := hG ((sk T n a) + 1) L (by omega)
                refine ww_cVq0 (M := m_X11_readProduct) (pc := 78) (st := []) (d := d + 1) (bc := 0) (bs := 0) (hU ((sk T n a) + 1) L W (by omega) (by omega) hw) vv_X11_readUnit dX11_readProduct_78 wg_1487 ((mwS_M hM W).K0) rfl rfl rfl rfl (by omega) (Nat.le_of_ble_eq_true rfl) (Nat.le_of_ble_eq_true rfl) (Nat.le_of_ble_eq_true rfl) (fun ho5018 qo5018 => ?_)
                rcases hr5018 : unit ((sk T n a) + 1) L with ⟨k5018, q5018⟩ | ⟨a5018, L5018⟩
                · rw [hr5018] at qo5018
                  obtain ⟨x5018, W5018, hx5018, rfl⟩ := qo5018
                  have hf5018 := (hg5018).l hr5018
                  refine ww_aload_n dX11_readProduct_81 rfl rfl ?_
                  refine ww_iload_n dX11_readProduct_82 rfl rfl ?_
                  refine ww_iconst (v := nI 0) dX11_readProduct_83 (by decide) ?_
                  refine ww_cV0 (M := m_X11_readProduct) (pc := 84) (h1 := mrS (mwS h m W5018) m n x5018 (nI q5018) (nI k5018) op) (st := []) (d := d + 1) (bc := 0) (bs := 0) (c_Mw_emit_f hst hM htf hB hn W5018 x5018 (nI k5018) op q5018 (by omega) (nI 4) (nI 0)) vv_X11_emit dX11_readProduct_84 wg_1495 ((mwS_M hM W5018).K0) rfl rfl rfl rfl (by omega) (Nat.le_of_ble_eq_true rfl) (Nat.le_of_ble_eq_true rfl) (Nat.le_of_ble_eq_true rfl) ?_
                  refine ww_goto (tgt := 4) dX11_readProduct_87 (by decide) ?_
                  refine ww_aload_n dX11_readProduct_4 rfl rfl ?_
                  refine ww_cVr (M := m_X11_readProduct) (pc := 5) (v := .int (nI 0)) (h1 := mrS (mwS h m W5018) m n x5018 (nI q5018) (nI k5018) op) (st := []) (d := d + 1) (bc := 0) (bs := 0) (c_MR_fine_f hst (mwS_M hM W5018) (mwS_t (W := W5018) htf) hB hn x5018 (nI k5018) op q5018 (by omega)) vv_X11_fine dX11_readProduct_5 wg_1421 ((mwS_M hM W5018).K0) rfl rfl rfl rfl (by omega) (Nat.le_of_ble_eq_true rfl) (Nat.le_of_ble_eq_true rfl) (Nat.le_of_ble_eq_true rfl) ?_
                  refine ww_if_eqN (tgt := 90) dX11_readProduct_8 (by decide) (by omega) (fun c8 => ?_) (fun c8 => ?_)
                  · exact ww_vret dX11_readProduct_90 rfl ⟨rfl, (by rw [prdL_i (by assumption) (isP_t.mpr (by omega)), hr5018, bS_l]; exact ⟨_, _, (by assumption), rfl⟩)⟩
                  · exact absurd c8 (by decide)
                · rw [hr5018] at qo5018
                  obtain ⟨W5018, hw5018, rfl⟩ := qo5018
                  have hf5018 := (hg5018).r hr5018
                  refine ww_aload_n dX11_readProduct_81 rfl rfl ?_
                  refine ww_iload_n dX11_readProduct_82 rfl rfl ?_
                  refine ww_iconst (v := nI 0) dX11_readProduct_83 (by decide) ?_
                  have hW5019 : W5018.1 = L5018.1 := hw5018.1
                  have he5019 : (eL 4 0 L5018).1 = L5018.1 + 1 := rfl
                  refine ww_cV0 (M := m_X11_readProduct) (pc := 84) (h1 := mrS (mwS h m (eL 4 0 W5018)) m n a5018 (-1) bk op) (st := []) (d := d + 1) (bc := 0) (bs := 0) (c_Mw_emit_t hst hM htf hB hn W5018 (by omega) a5018 bk op 4 0) vv_X11_emit dX11_readProduct_84 wg_1495 ((mwS_M hM W5018).K0) rfl rfl rfl rfl (by omega) (Nat.le_of_ble_eq_true rfl) (Nat.le_of_ble_eq_true rfl) (Nat.le_of_ble_eq_true rfl) ?_
                  refine ww_goto (tgt := 4) dX11_readProduct_87 (by decide) ?_
                  rw [prdL_i (by assumption) (isP_t.mpr (by omega)), hr5018, bS_r, show opP (T (sk T n a)) = 4 from by unfold opP; first | (exfalso; omega) | rw [if_pos (by omega)] | rw [if_neg (by omega), if_pos (by omega)] | rw [if_neg (by omega), if_neg (by omega)] | rw [if_neg (by omega)]]
                  refine ww_fg (lv2 := [.ref m, UU]) ⟨Or.inr rfl, Or.inl rfl, trivial⟩ ?_
                  exact ih a5018 (eL 4 0 L5018) (eL 4 0 W5018) (by omega) (by omega) (by omega) (MwR.e hw5018 (k := 4) (by decide) 0)
      · refine ww_cVr (M := m_X11_readProduct) (pc := 12) (v := .int (nI 0)) (h1 := mrS (mwS h m W) m n n (-1) bk op) (st := []) (d := d + 1) (bc := 0) (bs := 0) (c_MR_here_f hst (mwS_M hM W) (mwS_t (W := W) htf) hB hn (-1) bk op a (by omega) hl5001) vv_X11_here dX11_readProduct_12 wg_1429 ((mwS_M hM W).K0) rfl rfl rfl rfl (by omega) (Nat.le_of_ble_eq_true rfl) (Nat.le_of_ble_eq_true rfl) (Nat.le_of_ble_eq_true rfl) ?_
        refine ww_bipush (v := nI 42) dX11_readProduct_15 (by decide) ?_
        refine ww_icmp_eqN (tgt := 38) dX11_readProduct_17 (by decide) (by omega) (by omega) (fun c17 => ?_) (fun c17 => ?_)
        · exact absurd c17 (by decide)
        · refine ww_aload_n dX11_readProduct_20 rfl rfl ?_
          refine ww_cVr (M := m_X11_readProduct) (pc := 21) (v := .int (nI 0)) (h1 := mrS (mwS h m W) m n n (-1) bk op) (st := []) (d := d + 1) (bc := 0) (bs := 0) (c_MR_here_n hst (mwS_M hM W) (mwS_t (W := W) htf) hB hn (-1) bk op) vv_X11_here dX11_readProduct_21 wg_1429 ((mwS_M hM W).K0) rfl rfl rfl rfl (by omega) (Nat.le_of_ble_eq_true rfl) (Nat.le_of_ble_eq_true rfl) (Nat.le_of_ble_eq_true rfl) ?_
          refine ww_bipush (v := nI 47) dX11_readProduct_24 (by decide) ?_
          refine ww_icmp_eqN (tgt := 38) dX11_readProduct_26 (by decide) (by omega) (by omega) (fun c26 => ?_) (fun c26 => ?_)
          · exact absurd c26 (by decide)
          · refine ww_aload_n dX11_readProduct_29 rfl rfl ?_
            refine ww_cVr (M := m_X11_readProduct) (pc := 30) (v := .int (nI 0)) (h1 := mrS (mwS h m W) m n n (-1) bk op) (st := []) (d := d + 1) (bc := 0) (bs := 0) (c_MR_here_n hst (mwS_M hM W) (mwS_t (W := W) htf) hB hn (-1) bk op) vv_X11_here dX11_readProduct_30 wg_1429 ((mwS_M hM W).K0) rfl rfl rfl rfl (by omega) (Nat.le_of_ble_eq_true rfl) (Nat.le_of_ble_eq_true rfl) (Nat.le_of_ble_eq_true rfl) ?_
            refine ww_bipush (v := nI 37) dX11_readProduct_33 (by decide) ?_
            refine ww_icmp_neN (tgt := 90) dX11_readProduct_35 (by decide) (by omega) (by omega) (fun c35 => ?_) (fun c35 => ?_)
            · exact ww_vret dX11_readProduct_90 rfl ⟨rfl, (by rw [prdL_e (fun e => by omega), show sk T n a = n by omega]; exact ⟨W, hw, rfl⟩)⟩
            · exact absurd c35 (by decide)
set_option maxHeartbeats 4000000 in
set_option maxRecDepth 100000 in
theorem l_Mw_sum {l : Launch} {Z : EE} (hst : l.stackTraces = false) {h : PH} {m : Nat} (hM : ModS h m) {tf : Nat → Int32} (htf : hp_I h (m + 2) = tf) {T : Nat → Nat} (hB : BT tf T) {n : Nat} (hn : n ≤ 600) (bk : Int32) (op : Nat) (hn5 : n ≤ 150) {d : Nat} (hd6 : 6 ≤ d) {U : Nat} {unit : Nat → LWt → PR LWt} (hG : GoodU n U unit) (hU : ∀ (a : Nat) (L W : LWt), a ≤ n → L.1 ≤ a → MwR L W → CC l Z m_X11_readProduct (d + 1) 0 0 [.ref m] (mrS (mwS h m W) m n a (-1) bk op) (RQ none (MwO h m n bk op (unit a L)))) : ∀ (j a : Nat) (L W : LWt), a ≤ n → n < a + j → L.1 ≤ a → MwR L W → WW l Z m_X11_readSum (d + 2) 0 0 4 [.ref m, UU] [] (mrS (mwS h m W) m n a (-1) bk op) (RQ none (MwO h m n bk op (prdL isA opA unit T n j a L))) := by
  intro j
  induction j with
  | zero =>
    intro a L W ha hj hL hw
    omega
  | succ j ih =>
    intro a L W ha hj hL hw
    refine ww_aload_n dX11_readSum_4 rfl rfl ?_
    refine ww_cVr (M := m_X11_readSum) (pc := 5) (v := .int (nI 1)) (h1 := mrS (mwS h m W) m n a (-1) bk op) (st := []) (d := d + 2) (bc := 0) (bs := 0) (c_MR_fine_t hst (mwS_M hM W) (mwS_t (W := W) htf) hB hn a bk op) vv_X11_fine dX11_readSum_5 wg_1421 ((mwS_M hM W).K0) rfl rfl rfl rfl (by omega) (Nat.le_of_ble_eq_true rfl) (Nat.le_of_ble_eq_true rfl) (Nat.le_of_ble_eq_true rfl) ?_
    refine ww_if_eqN (tgt := 67) dX11_readSum_8 (by decide) (by omega) (fun c8 => ?_) (fun c8 => ?_)
    · exact absurd c8 (by decide)
    · refine ww_aload_n dX11_readSum_11 rfl rfl ?_
      have hsl5020 := sk_le (T := T) (show a ≤ n by omega)
      have hsg5020 := sk_ge (T := T) (show a ≤ n by omega)
      have hsT5020 := (hB (sk T n a)).2
      by_cases hl5020 : sk T n a < n
      · refine ww_cVr (M := m_X11_readSum) (pc := 12) (v := .int (nI (T (sk T n a)))) (h1 := mrS (mwS h m W) m n (sk T n a) (-1) bk op) (st := []) (d := d + 2) (bc := 0) (bs := 0) (c_MR_here_t hst (mwS_M hM W) (mwS_t (W := W) htf) hB hn (-1) bk op a (by omega) hl5020) vv_X11_here dX11_readSum_12 wg_1429 ((mwS_M hM W).K0) rfl rfl rfl rfl (by omega) (Nat.le_of_ble_eq_true rfl) (Nat.le_of_ble_eq_true rfl) (Nat.le_of_ble_eq_true rfl) ?_
        refine ww_bipush (v := nI 43) dX11_readSum_15 (by decide) ?_
        refine ww_icmp_eqN (tgt := 29) dX11_readSum_17 (by decide) (by omega) (by omega) (fun c17 => ?_) (fun c17 => ?_)
        · refine ww_aload_n dX11_readSum_29 rfl rfl ?_
          refine ww_cVr (M := m_X11_readSum) (pc := 30) (v := .int (nI (T (sk T n a)))) (h1 := mrS (mwS h m W) m n (sk T n a) (-1) bk op) (st := []) (d := d + 2) (bc := 0) (bs := 0) (c_MR_here_i hst (mwS_M hM W) (mwS_t (W := W) htf) hB hn (-1) bk op a (by omega) (by assumption)) vv_X11_here dX11_readSum_30 wg_1429 ((mwS_M hM W).K0) rfl rfl rfl rfl (by omega) (Nat.le_of_ble_eq_true rfl) (Nat.le_of_ble_eq_true rfl) (Nat.le_of_ble_eq_true rfl) ?_
          refine ww_bipush (v := nI 43) dX11_readSum_33 (by decide) ?_
          refine ww_icmp_neN (tgt := 42) dX11_readSum_35 (by decide) (by omega) (by omega) (fun c35 => ?_) (fun c35 => ?_)
          · refine ww_iconst (v := nI 3) dX11_readSum_42 (by decide) ?_
            refine ww_sti_n (lv2 := [.ref m, .int (nI 3)]) dX11_readSum_43 rfl rfl (by decide) rfl ?_
            refine ww_aload_n dX11_readSum_44 rfl rfl ?_
            refine ww_dup dX11_readSum_45 rfl ?_
            refine ww_get 4 dX11_readSum_46 ((mwS_M hM W).K0) rfl (by decide) inX11 wg_1244 (mrS_4 _ _ _ _ _ _ _) ?_
            refine ww_iconst (v := nI 1) dX11_readSum_49 (by decide) ?_
            refine ww_iaddN dX11_readSum_50 ?_
            refine ww_pfI tyX11 4 dX11_readSum_51 ((mwS_M hM W).K0) rfl (by decide) inX11 tyX11_ok nmX11 wg_1244 rfl rfl ?_
            refine ww_hp (h2 := mrS (mwS h m W) m n ((sk T n a) + 1) (-1) bk op) (mrS_s4 _ _ _ _ _ _ _ _) ?_
            refine ww_aload_n dX11_readSum_54 rfl rfl ?_
            have hg5021 := hG ((sk T n a) + 1) L (by omega)
            refine ww_cVq0 (M := m_X11_readSum) (pc := 55) (st := []) (d := d + 2) (bc := 0) (bs := 0) (hU ((sk T n a) + 1) L W (by omega) (by omega) hw) vv_X11_readProduct dX11_readSum_55 wg_1483 ((mwS_M hM W).K0) rfl rfl rfl rfl (by omega) (Nat.le_of_ble_eq_true rfl) (Nat.le_of_ble_eq_true rfl) (Nat.le_of_ble_eq_true rfl) (fun ho5021 qo5021 => ?_)
            rcases hr5021 : unit ((sk T n a) + 1) L with ⟨k5021, q5021⟩ | ⟨a5021, L5021⟩
            · rw [hr5021] at qo5021
              obtain ⟨x5021, W5021, hx5021, rfl⟩ := qo5021
              have hf5021 := (hg5021).l hr5021
              refine ww_aload_n dX11_readSum_58 rfl rfl ?_
              refine ww_iload_n dX11_readSum_59 rfl rfl ?_
              refine ww_iconst (v := nI 0) dX11_readSum_60 (by decide) ?_
              refine ww_cV0 (M := m_X11_readSum) (pc := 61) (h1 := mrS (mwS h m W5021) m n x5021 (nI q5021) (nI k5021) op) (st := []) (d := d + 2) (bc := 0) (bs := 0) (c_Mw_emit_f hst hM htf hB hn W5021 x5021 (nI k5021) op q5021 (by omega) (nI 3) (nI 0)) vv_X11_emit dX11_readSum_61 wg_1495 ((mwS_M hM W5021).K0) rfl rfl rfl rfl (by omega) (Nat.le_of_ble_eq_true rfl) (Nat.le_of_ble_eq_true rfl) (Nat.le_of_ble_eq_true rfl) ?_
              refine ww_goto (tgt := 4) dX11_readSum_64 (by decide) ?_
              refine ww_aload_n dX11_readSum_4 rfl rfl ?_
              refine ww_cVr (M := m_X11_readSum) (pc := 5) (v := .int (nI 0)) (h1 := mrS (mwS h m W5021) m n x5021 (nI q5021) (nI k5021) op) (st := []) (d := d + 2) (bc := 0) (bs := 0) (c_MR_fine_f hst (mwS_M hM W5021) (mwS_t (W := W5021) htf) hB hn x5021 (nI k5021) op q5021 (by omega)) vv_X11_fine dX11_readSum_5 wg_1421 ((mwS_M hM W5021).K0) rfl rfl rfl rfl (by omega) (Nat.le_of_ble_eq_true rfl) (Nat.le_of_ble_eq_true rfl) (Nat.le_of_ble_eq_true rfl) ?_
              refine ww_if_eqN (tgt := 67) dX11_readSum_8 (by decide) (by omega) (fun c8 => ?_) (fun c8 => ?_)
              · exact ww_vret dX11_readSum_67 rfl ⟨rfl, (by rw [prdL_i (by assumption) (isA_t.mpr (by omega)), hr5021, bS_l]; exact ⟨_, _, (by assumption), rfl⟩)⟩
              · exact absurd c8 (by decide)
            · rw [hr5021] at qo5021
              obtain ⟨W5021, hw5021, rfl⟩ := qo5021
              have hf5021 := (hg5021).r hr5021
              refine ww_aload_n dX11_readSum_58 rfl rfl ?_
              refine ww_iload_n dX11_readSum_59 rfl rfl ?_
              refine ww_iconst (v := nI 0) dX11_readSum_60 (by decide) ?_
              have hW5022 : W5021.1 = L5021.1 := hw5021.1
              have he5022 : (eL 3 0 L5021).1 = L5021.1 + 1 := rfl
              refine ww_cV0 (M := m_X11_readSum) (pc := 61) (h1 := mrS (mwS h m (eL 3 0 W5021)) m n a5021 (-1) bk op) (st := []) (d := d + 2) (bc := 0) (bs := 0) (c_Mw_emit_t hst hM htf hB hn W5021 (by omega) a5021 bk op 3 0) vv_X11_emit dX11_readSum_61 wg_1495 ((mwS_M hM W5021).K0) rfl rfl rfl rfl (by omega) (Nat.le_of_ble_eq_true rfl) (Nat.le_of_ble_eq_true rfl) (Nat.le_of_ble_eq_true rfl) ?_
              refine ww_goto (tgt := 4) dX11_readSum_64 (by decide) ?_
              rw [prdL_i (by assumption) (isA_t.mpr (by omega)), hr5021, bS_r, show opA (T (sk T n a)) = 3 from by unfold opA; first | (exfalso; omega) | rw [if_pos (by omega)] | rw [if_neg (by omega), if_pos (by omega)] | rw [if_neg (by omega), if_neg (by omega)] | rw [if_neg (by omega)]]
              refine ww_fg (lv2 := [.ref m, UU]) ⟨Or.inr rfl, Or.inl rfl, trivial⟩ ?_
              exact ih a5021 (eL 3 0 L5021) (eL 3 0 W5021) (by omega) (by omega) (by omega) (MwR.e hw5021 (k := 3) (by decide) 0)
          · refine ww_iconst (v := nI 2) dX11_readSum_38 (by decide) ?_
            refine ww_goto (tgt := 43) dX11_readSum_39 (by decide) ?_
            refine ww_sti_n (lv2 := [.ref m, .int (nI 2)]) dX11_readSum_43 rfl rfl (by decide) rfl ?_
            refine ww_aload_n dX11_readSum_44 rfl rfl ?_
            refine ww_dup dX11_readSum_45 rfl ?_
            refine ww_get 4 dX11_readSum_46 ((mwS_M hM W).K0) rfl (by decide) inX11 wg_1244 (mrS_4 _ _ _ _ _ _ _) ?_
            refine ww_iconst (v := nI 1) dX11_readSum_49 (by decide) ?_
            refine ww_iaddN dX11_readSum_50 ?_
            refine ww_pfI tyX11 4 dX11_readSum_51 ((mwS_M hM W).K0) rfl (by decide) inX11 tyX11_ok nmX11 wg_1244 rfl rfl ?_
            refine ww_hp (h2 := mrS (mwS h m W) m n ((sk T n a) + 1) (-1) bk op) (mrS_s4 _ _ _ _ _ _ _ _) ?_
            refine ww_aload_n dX11_readSum_54 rfl rfl ?_
            have hg5023 := hG ((sk T n a) + 1) L (by omega)
            refine ww_cVq0 (M := m_X11_readSum) (pc := 55) (st := []) (d := d + 2) (bc := 0) (bs := 0) (hU ((sk T n a) + 1) L W (by omega) (by omega) hw) vv_X11_readProduct dX11_readSum_55 wg_1483 ((mwS_M hM W).K0) rfl rfl rfl rfl (by omega) (Nat.le_of_ble_eq_true rfl) (Nat.le_of_ble_eq_true rfl) (Nat.le_of_ble_eq_true rfl) (fun ho5023 qo5023 => ?_)
            rcases hr5023 : unit ((sk T n a) + 1) L with ⟨k5023, q5023⟩ | ⟨a5023, L5023⟩
            · rw [hr5023] at qo5023
              obtain ⟨x5023, W5023, hx5023, rfl⟩ := qo5023
              have hf5023 := (hg5023).l hr5023
              refine ww_aload_n dX11_readSum_58 rfl rfl ?_
              refine ww_iload_n dX11_readSum_59 rfl rfl ?_
              refine ww_iconst (v := nI 0) dX11_readSum_60 (by decide) ?_
              refine ww_cV0 (M := m_X11_readSum) (pc := 61) (h1 := mrS (mwS h m W5023) m n x5023 (nI q5023) (nI k5023) op) (st := []) (d := d + 2) (bc := 0) (bs := 0) (c_Mw_emit_f hst hM htf hB hn W5023 x5023 (nI k5023) op q5023 (by omega) (nI 2) (nI 0)) vv_X11_emit dX11_readSum_61 wg_1495 ((mwS_M hM W5023).K0) rfl rfl rfl rfl (by omega) (Nat.le_of_ble_eq_true rfl) (Nat.le_of_ble_eq_true rfl) (Nat.le_of_ble_eq_true rfl) ?_
              refine ww_goto (tgt := 4) dX11_readSum_64 (by decide) ?_
              refine ww_aload_n dX11_readSum_4 rfl rfl ?_
              refine ww_cVr (M := m_X11_readSum) (pc := 5) (v := .int (nI 0)) (h1 := mrS (mwS h m W5023) m n x5023 (nI q5023) (nI k5023) op) (st := []) (d := d + 2) (bc := 0) (bs := 0) (c_MR_fine_f hst (mwS_M hM W5023) (mwS_t (W := W5023) htf) hB hn x5023 (nI k5023) op q5023 (by omega)) vv_X11_fine dX11_readSum_5 wg_1421 ((mwS_M hM W5023).K0) rfl rfl rfl rfl (by omega) (Nat.le_of_ble_eq_true rfl) (Nat.le_of_ble_eq_true rfl) (Nat.le_of_ble_eq_true rfl) ?_
              refine ww_if_eqN (tgt := 67) dX11_readSum_8 (by decide) (by omega) (fun c8 => ?_) (fun c8 => ?_)
              · exact ww_vret dX11_readSum_67 rfl ⟨rfl, (by rw [prdL_i (by assumption) (isA_t.mpr (by omega)), hr5023, bS_l]; exact ⟨_, _, (by assumption), rfl⟩)⟩
              · exact absurd c8 (by decide)
            · rw [hr5023] at qo5023
              obtain ⟨W5023, hw5023, rfl⟩ := qo5023
              have hf5023 := (hg5023).r hr5023
              refine ww_aload_n dX11_readSum_58 rfl rfl ?_
              refine ww_iload_n dX11_readSum_59 rfl rfl ?_
              refine ww_iconst (v := nI 0) dX11_readSum_60 (by decide) ?_
              have hW5024 : W5023.1 = L5023.1 := hw5023.1
              have he5024 : (eL 2 0 L5023).1 = L5023.1 + 1 := rfl
              refine ww_cV0 (M := m_X11_readSum) (pc := 61) (h1 := mrS (mwS h m (eL 2 0 W5023)) m n a5023 (-1) bk op) (st := []) (d := d + 2) (bc := 0) (bs := 0) (c_Mw_emit_t hst hM htf hB hn W5023 (by omega) a5023 bk op 2 0) vv_X11_emit dX11_readSum_61 wg_1495 ((mwS_M hM W5023).K0) rfl rfl rfl rfl (by omega) (Nat.le_of_ble_eq_true rfl) (Nat.le_of_ble_eq_true rfl) (Nat.le_of_ble_eq_true rfl) ?_
              refine ww_goto (tgt := 4) dX11_readSum_64 (by decide) ?_
              rw [prdL_i (by assumption) (isA_t.mpr (by omega)), hr5023, bS_r, show opA (T (sk T n a)) = 2 from by unfold opA; first | (exfalso; omega) | rw [if_pos (by omega)] | rw [if_neg (by omega), if_pos (by omega)] | rw [if_neg (by omega), if_neg (by omega)] | rw [if_neg (by omega)]]
              refine ww_fg (lv2 := [.ref m, UU]) ⟨Or.inr rfl, Or.inl rfl, trivial⟩ ?_
              exact ih a5023 (eL 2 0 L5023) (eL 2 0 W5023) (by omega) (by omega) (by omega) (MwR.e hw5023 (k := 2) (by decide) 0)
        · refine ww_aload_n dX11_readSum_20 rfl rfl ?_
          refine ww_cVr (M := m_X11_readSum) (pc := 21) (v := .int (nI (T (sk T n a)))) (h1 := mrS (mwS h m W) m n (sk T n a) (-1) bk op) (st := []) (d := d + 2) (bc := 0) (bs := 0) (c_MR_here_i hst (mwS_M hM W) (mwS_t (W := W) htf) hB hn (-1) bk op a (by omega) (by assumption)) vv_X11_here dX11_readSum_21 wg_1429 ((mwS_M hM W).K0) rfl rfl rfl rfl (by omega) (Nat.le_of_ble_eq_true rfl) (Nat.le_of_ble_eq_true rfl) (Nat.le_of_ble_eq_true rfl) ?_
          refine ww_bipush (v := nI 45) dX11_readSum_24 (by decide) ?_
          refine ww_icmp_neN (tgt := 67) dX11_readSum_26 (by decide) (by omega) (by omega) (fun c26 => ?_) (fun c26 => ?_)
          · exact ww_vret dX11_readSum_67 rfl ⟨rfl, (by rw [prdL_e (fun e => by have e9 := isA_t.mp e.2; omega)]; exact ⟨W, hw, rfl⟩)⟩
          · refine ww_aload_n dX11_readSum_29 rfl rfl ?_
            refine ww_cVr (M := m_X11_readSum) (pc := 30) (v := .int (nI (T (sk T n a)))) (h1 := mrS (mwS h m W) m n (sk T n a) (-1) bk op) (st := []) (d := d + 2) (bc := 0) (bs := 0) (c_MR_here_i hst (mwS_M hM W) (mwS_t (W := W) htf) hB hn (-1) bk op a (by omega) (by assumption)) vv_X11_here dX11_readSum_30 wg_1429 ((mwS_M hM W).K0) rfl rfl rfl rfl (by omega) (Nat.le_of_ble_eq_true rfl) (Nat.le_of_ble_eq_true rfl) (Nat.le_of_ble_eq_true rfl) ?_
            refine ww_bipush (v := nI 43) dX11_readSum_33 (by decide) ?_
            refine ww_icmp_neN (tgt := 42) dX11_readSum_35 (by decide) (by omega) (by omega) (fun c35 => ?_) (fun c35 => ?_)
            · refine ww_iconst (v := nI 3) dX11_readSum_42 (by decide) ?_
              refine ww_sti_n (lv2 := [.ref m, .int (nI 3)]) dX11_readSum_43 rfl rfl (by decide) rfl ?_
              refine ww_aload_n dX11_readSum_44 rfl rfl ?_
              refine ww_dup dX11_readSum_45 rfl ?_
              refine ww_get 4 dX11_readSum_46 ((mwS_M hM W).K0) rfl (by decide) inX11 wg_1244 (mrS_4 _ _ _ _ _ _ _) ?_
              refine ww_iconst (v := nI 1) dX11_readSum_49 (by decide) ?_
              refine ww_iaddN dX11_readSum_50 ?_
              refine ww_pfI tyX11 4 dX11_readSum_51 ((mwS_M hM W).K0) rfl (by decide) inX11 tyX11_ok nmX11 wg_1244 rfl rfl ?_
              refine ww_hp (h2 := mrS (mwS h m W) m n ((sk T n a) + 1) (-1) bk op) (mrS_s4 _ _ _ _ _ _ _ _) ?_
              refine ww_aload_n dX11_readSum_54 rfl rfl ?_
              have hg5025 := hG ((sk T n a) + 1) L (by omega)
              refine ww_cVq0 (M := m_X11_readSum) (pc := 55) (st := []) (d := d + 2) (bc := 0) (bs := 0) (hU ((sk T n a) + 1) L W (by omega) (by omega) hw) vv_X11_readProduct dX11_readSum_55 wg_1483 ((mwS_M hM W).K0) rfl rfl rfl rfl (by omega) (Nat.le_of_ble_eq_true rfl) (Nat.le_of_ble_eq_true rfl) (Nat.le_of_ble_eq_true rfl) (fun ho5025 qo5025 => ?_)
              rcases hr5025 : unit ((sk T n a) + 1) L with ⟨k5025, q5025⟩ | ⟨a5025, L5025⟩
              · rw [hr5025] at qo5025
                obtain ⟨x5025, W5025, hx5025, rfl⟩ := qo5025
                have hf5025 := (hg5025).l hr5025
                refine ww_aload_n dX11_readSum_58 rfl rfl ?_
                refine ww_iload_n dX11_readSum_59 rfl rfl ?_
                refine ww_iconst (v := nI 0) dX11_readSum_60 (by decide) ?_
                refine ww_cV0 (M := m_X11_readSum) (pc := 61) (h1 := mrS (mwS h m W5025) m n x5025 (nI q5025) (nI k5025) op) (st := []) (d := d + 2) (bc := 0) (bs := 0) (c_Mw_emit_f hst hM htf hB hn W5025 x5025 (nI k5025) op q5025 (by omega) (nI 3) (nI 0)) vv_X11_emit dX11_readSum_61 wg_1495 ((mwS_M hM W5025).K0) rfl rfl rfl rfl (by omega) (Nat.le_of_ble_eq_true rfl) (Nat.le_of_ble_eq_true rfl) (Nat.le_of_ble_eq_true rfl) ?_
                refine ww_goto (tgt := 4) dX11_readSum_64 (by decide) ?_
                refine ww_aload_n dX11_readSum_4 rfl rfl ?_
                refine ww_cVr (M := m_X11_readSum) (pc := 5) (v := .int (nI 0)) (h1 := mrS (mwS h m W5025) m n x5025 (nI q5025) (nI k5025) op) (st := []) (d := d + 2) (bc := 0) (bs := 0) (c_MR_fine_f hst (mwS_M hM W5025) (mwS_t (W := W5025) htf) hB hn x5025 (nI k5025) op q5025 (by omega)) vv_X11_fine dX11_readSum_5 wg_1421 ((mwS_M hM W5025).K0) rfl rfl rfl rfl (by omega) (Nat.le_of_ble_eq_true rfl) (Nat.le_of_ble_eq_true rfl) (Nat.le_of_ble_eq_true rfl) ?_
                refine ww_if_eqN (tgt := 67) dX11_readSum_8 (by decide) (by omega) (fun c8 => ?_) (fun c8 => ?_)
                · exact ww_vret dX11_readSum_67 rfl ⟨rfl, (by rw [prdL_i (by assumption) (isA_t.mpr (by omega)), hr5025, bS_l]; exact ⟨_, _, (by assumption), rfl⟩)⟩
                · exact absurd c8 (by decide)
              · rw [hr5025] at qo5025
                obtain ⟨W5025, hw5025, rfl⟩ := qo5025
                have hf5025 := (hg5025).r hr5025
                refine ww_aload_n dX11_readSum_58 rfl rfl ?_
                refine ww_iload_n dX11_readSum_59 rfl rfl ?_
                refine ww_iconst (v := nI 0) dX11_readSum_60 (by decide) ?_
                have hW5026 : W5025.1 = L5025.1 := hw5025.1
                have he5026 : (eL 3 0 L5025).1 = L5025.1 + 1 := rfl
                refine ww_cV0 (M := m_X11_readSum) (pc := 61) (h1 := mrS (mwS h m (eL 3 0 W5025)) m n a5025 (-1) bk op) (st := []) (d := d + 2) (bc := 0) (bs := 0) (c_Mw_emit_t hst hM htf hB hn W5025 (by omega) a5025 bk op 3 0) vv_X11_emit dX11_readSum_61 wg_1495 ((mwS_M hM W5025).K0) rfl rfl rfl rfl (by omega) (Nat.le_of_ble_eq_true rfl) (Nat.le_of_ble_eq_true rfl) (Nat.le_of_ble_eq_true rfl) ?_
                refine ww_goto (tgt := 4) dX11_readSum_64 (by decide) ?_
                rw [prdL_i (by assumption) (isA_t.mpr (by omega)), hr5025, bS_r, show opA (T (sk T n a)) = 3 from by unfold opA; first | (exfalso; omega) | rw [if_pos (by omega)] | rw [if_neg (by omega), if_pos (by omega)] | rw [if_neg (by omega), if_neg (by omega)] | rw [if_neg (by omega)]]
                refine ww_fg (lv2 := [.ref m, UU]) ⟨Or.inr rfl, Or.inl rfl, trivial⟩ ?_
                exact ih a5025 (eL 3 0 L5025) (eL 3 0 W5025) (by omega) (by omega) (by omega) (MwR.e hw5025 (k := 3) (by decide) 0)
            · refine ww_iconst (v := nI 2) dX11_readSum_38 (by decide) ?_
              refine ww_goto (tgt := 43) dX11_readSum_39 (by decide) ?_
              refine ww_sti_n (lv2 := [.ref m, .int (nI 2)]) dX11_readSum_43 rfl rfl (by decide) rfl ?_
              refine ww_aload_n dX11_readSum_44 rfl rfl ?_
              refine ww_dup dX11_readSum_45 rfl ?_
              refine ww_get 4 dX11_readSum_46 ((mwS_M hM W).K0) rfl (by decide) inX11 wg_1244 (mrS_4 _ _ _ _ _ _ _) ?_
              refine ww_iconst (v := nI 1) dX11_readSum_49 (by decide) ?_
              refine ww_iaddN dX11_readSum_50 ?_
              refine ww_pfI tyX11 4 dX11_readSum_51 ((mwS_M hM W).K0) rfl (by decide) inX11 tyX11_ok nmX11 wg_1244 rfl rfl ?_
              refine ww_hp (h2 := mrS (mwS h m W) m n ((sk T n a) + 1) (-1) bk op) (mrS_s4 _ _ _ _ _ _ _ _) ?_
              refine ww_aload_n dX11_readSum_54 rfl rfl ?_
              have hg5027 := hG ((sk T n a) + 1) L (by omega)
              refine ww_cVq0 (M := m_X11_readSum) (pc := 55) (st := []) (d := d + 2) (bc := 0) (bs := 0) (hU ((sk T n a) + 1) L W (by omega) (by omega) hw) vv_X11_readProduct dX11_readSum_55 wg_1483 ((mwS_M hM W).K0) rfl rfl rfl rfl (by omega) (Nat.le_of_ble_eq_true rfl) (Nat.le_of_ble_eq_true rfl) (Nat.le_of_ble_eq_true rfl) (fun ho5027 qo5027 => ?_)
              rcases hr5027 : unit ((sk T n a) + 1) L with ⟨k5027, q5027⟩ | ⟨a5027, L5027⟩
              · rw [hr5027] at qo5027
                obtain ⟨x5027, W5027, hx5027, rfl⟩ := qo5027
                have hf5027 := (hg5027).l hr5027
                refine ww_aload_n dX11_readSum_58 rfl rfl ?_
                refine ww_iload_n dX11_readSum_59 rfl rfl ?_
                refine ww_iconst (v := nI 0) dX11_readSum_60 (by decide) ?_
                refine ww_cV0 (M := m_X11_readSum) (pc := 61) (h1 := mrS (mwS h m W5027) m n x5027 (nI q5027) (nI k5027) op) (st := []) (d := d + 2) (bc := 0) (bs := 0) (c_Mw_emit_f hst hM htf hB hn W5027 x5027 (nI k5027) op q5027 (by omega) (nI 2) (nI 0)) vv_X11_emit dX11_readSum_61 wg_1495 ((mwS_M hM W5027).K0) rfl rfl rfl rfl (by omega) (Nat.le_of_ble_eq_true rfl) (Nat.le_of_ble_eq_true rfl) (Nat.le_of_ble_eq_true rfl) ?_
                refine ww_goto (tgt := 4) dX11_readSum_64 (by decide) ?_
                refine ww_aload_n dX11_readSum_4 rfl rfl ?_
                refine ww_cVr (M := m_X11_readSum) (pc := 5) (v := .int (nI 0)) (h1 := mrS (mwS h m W5027) m n x5027 (nI q5027) (nI k5027) op) (st := []) (d := d + 2) (bc := 0) (bs := 0) (c_MR_fine_f hst (mwS_M hM W5027) (mwS_t (W := W5027) htf) hB hn x5027 (nI k5027) op q5027 (by omega)) vv_X11_fine dX11_readSum_5 wg_1421 ((mwS_M hM W5027).K0) rfl rfl rfl rfl (by omega) (Nat.le_of_ble_eq_true rfl) (Nat.le_of_ble_eq_true rfl) (Nat.le_of_ble_eq_true rfl) ?_
                refine ww_if_eqN (tgt := 67) dX11_readSum_8 (by decide) (by omega) (fun c8 => ?_) (fun c8 => ?_)
                · exact ww_vret dX11_readSum_67 rfl ⟨rfl, (by rw [prdL_i (by assumption) (isA_t.mpr (by omega)), hr5027, bS_l]; exact ⟨_, _, (by assumption), rfl⟩)⟩
                · exact absurd c8 (by decide)
              · rw [hr5027] at qo5027
                obtain ⟨W5027, hw5027, rfl⟩ := qo5027
                have hf5027 := (hg5027).r hr5027
                refine ww_aload_n dX11_readSum_58 rfl rfl ?_
                refine ww_iload_n dX11_readSum_59 rfl rfl ?_
                refine ww_iconst (v := nI 0) dX11_readSum_60 (by decide) ?_
                have hW5028 : W5027.1 = L5027.1 := hw5027.1
                have he5028 : (eL 2 0 L5027).1 = L5027.1 + 1 := rfl
                refine ww_cV0 (M := m_X11_readSum) (pc := 61) (h1 := mrS (mwS h m (eL 2 0 W5027)) m n a5027 (-1) bk op) (st := []) (d := d + 2) (bc := 0) (bs := 0) (c_Mw_emit_t hst hM htf hB hn W5027 (by omega) a5027 bk op 2 0) vv_X11_emit dX11_readSum_61 wg_1495 ((mwS_M hM W5027).K0) rfl rfl rfl rfl (by omega) (Nat.le_of_ble_eq_true rfl) (Nat.le_of_ble_eq_true rfl) (Nat.le_of_ble_eq_true rfl) ?_
                refine ww_goto (tgt := 4) dX11_readSum_64 (by decide) ?_
                rw [prdL_i (by assumption) (isA_t.mpr (by omega)), hr5027, bS_r, show opA (T (sk T n a)) = 2 from by unfold opA; first | (exfalso; omega) | rw [if_pos (by omega)] | rw [if_neg (by omega), if_pos (by omega)] | rw [if_neg (by omega), if_neg (by omega)] | rw [if_neg (by omega)]]
                refine ww_fg (lv2 := [.ref m, UU]) ⟨Or.inr rfl, Or.inl rfl, trivial⟩ ?_
                exact ih a5027 (eL 2 0 L5027) (eL 2 0 W5027) (by omega) (by omega) (by omega) (MwR.e hw5027 (k := 2) (by decide) 0)
      · refine ww_cVr (M := m_X11_readSum) (pc := 12) (v := .int (nI 0)) (h1 := mrS (mwS h m W) m n n (-1) bk op) (st := []) (d := d + 2) (bc := 0) (bs := 0) (c_MR_here_f hst (mwS_M hM W) (mwS_t (W := W) htf) hB hn (-1) bk op a (by omega) hl5020) vv_X11_here dX11_readSum_12 wg_1429 ((mwS_M hM W).K0) rfl rfl rfl rfl (by omega) (Nat.le_of_ble_eq_true rfl) (Nat.le_of_ble_eq_true rfl) (Nat.le_of_ble_eq_true rfl) ?_
        refine ww_bipush (v := nI 43) dX11_readSum_15 (by decide) ?_
        refine ww_icmp_eqN (tgt := 29) dX11_readSum_17 (by decide) (by omega) (by omega) (fun c17 => ?_) (fun c17 => ?_)
        · exact absurd c17 (by decide)
        · refine ww_aload_n dX11_readSum_20 rfl rfl ?_
          refine ww_cVr (M := m_X11_readSum) (pc := 21) (v := .int (nI 0)) (h1 := mrS (mwS h m W) m n n (-1) bk op) (st := []) (d := d + 2) (bc := 0) (bs := 0) (c_MR_here_n hst (mwS_M hM W) (mwS_t (W := W) htf) hB hn (-1) bk op) vv_X11_here dX11_readSum_21 wg_1429 ((mwS_M hM W).K0) rfl rfl rfl rfl (by omega) (Nat.le_of_ble_eq_true rfl) (Nat.le_of_ble_eq_true rfl) (Nat.le_of_ble_eq_true rfl) ?_
          refine ww_bipush (v := nI 45) dX11_readSum_24 (by decide) ?_
          refine ww_icmp_neN (tgt := 67) dX11_readSum_26 (by decide) (by omega) (by omega) (fun c26 => ?_) (fun c26 => ?_)
          · exact ww_vret dX11_readSum_67 rfl ⟨rfl, (by rw [prdL_e (fun e => by omega), show sk T n a = n by omega]; exact ⟨W, hw, rfl⟩)⟩
          · exact absurd c26 (by decide)
set_option maxHeartbeats 4000000 in
set_option maxRecDepth 100000 in
theorem c_Mw_prod {l : Launch} {Z : EE} (hst : l.stackTraces = false) {h : PH} {m : Nat} (hM : ModS h m) {tf : Nat → Int32} (htf : hp_I h (m + 2) = tf) {T : Nat → Nat} (hB : BT tf T) {n : Nat} (hn : n ≤ 600) (bk : Int32) (op : Nat) (hn5 : n ≤ 150) {d : Nat} (hd6 : 6 ≤ d) {U : Nat} {unit : Nat → LWt → PR LWt} (hG0 : GoodU n U unit) (hU : ∀ (a : Nat) (L W : LWt), a ≤ n → L.1 ≤ a → MwR L W → CC l Z m_X11_readUnit d 0 0 [.ref m] (mrS (mwS h m W) m n a (-1) bk op) (RQ none (MwO h m n bk op (unit a L)))) (a : Nat) (L W : LWt) (ha : a ≤ n) (hL : L.1 ≤ a) (hw : MwR L W) : CC l Z m_X11_readProduct (d + 1) 0 0 [.ref m] (mrS (mwS h m W) m n a (-1) bk op) (RQ none (MwO h m n bk op (prdS unit T n a L))) := by
  refine ee_entry hst (by decide +kernel) rfl rfl (by simp [Value.category]) (Nat.le_of_ble_eq_true rfl) ?_
  refine ww_lv (lv2 := [.ref m, UU]) rfl ?_
  have hG := hG0
  refine ww_aload_n dX11_readProduct_0 rfl rfl ?_
  have hg5029 := hG a L (by omega)
  refine ww_cVq0 (M := m_X11_readProduct) (pc := 1) (st := []) (d := d + 1) (bc := 0) (bs := 0) (hU a L W (by omega) (by omega) hw) vv_X11_readUnit dX11_readProduct_1 wg_1487 ((mwS_M hM W).K0) rfl rfl rfl rfl (by omega) (Nat.le_of_ble_eq_true rfl) (Nat.le_of_ble_eq_true rfl) (Nat.le_of_ble_eq_true rfl) (fun ho5029 qo5029 => ?_)
  rcases hr5029 : unit a L with ⟨k5029, q5029⟩ | ⟨a5029, L5029⟩
  · rw [hr5029] at qo5029
    obtain ⟨x5029, W5029, hx5029, rfl⟩ := qo5029
    have hf5029 := (hg5029).l hr5029
    refine ww_aload_n dX11_readProduct_4 rfl rfl ?_
    refine ww_cVr (M := m_X11_readProduct) (pc := 5) (v := .int (nI 0)) (h1 := mrS (mwS h m W5029) m n x5029 (nI q5029) (nI k5029) op) (st := []) (d := d + 1) (bc := 0) (bs := 0) (c_MR_fine_f hst (mwS_M hM W5029) (mwS_t (W := W5029) htf) hB hn x5029 (nI k5029) op q5029 (by omega)) vv_X11_fine dX11_readProduct_5 wg_1421 ((mwS_M hM W5029).K0) rfl rfl rfl rfl (by omega) (Nat.le_of_ble_eq_true rfl) (Nat.le_of_ble_eq_true rfl) (Nat.le_of_ble_eq_true rfl) ?_
    refine ww_if_eqN (tgt := 90) dX11_readProduct_8 (by decide) (by omega) (fun c8 => ?_) (fun c8 => ?_)
    · exact ww_vret dX11_readProduct_90 rfl ⟨rfl, (by unfold prdS; rw [hr5029, bS_l]; exact ⟨_, _, (by assumption), rfl⟩)⟩
    · exact absurd c8 (by decide)
  · rw [hr5029] at qo5029
    obtain ⟨W5029, hw5029, rfl⟩ := qo5029
    have hf5029 := (hg5029).r hr5029
    unfold prdS
    rw [hr5029, bS_r]
    exact l_Mw_prod hst hM htf hB hn bk op hn5 hd6 hG hU 150 a5029 L5029 W5029 (by omega) (by omega) (by omega) hw5029
set_option maxHeartbeats 4000000 in
set_option maxRecDepth 100000 in
theorem c_Mw_sum {l : Launch} {Z : EE} (hst : l.stackTraces = false) {h : PH} {m : Nat} (hM : ModS h m) {tf : Nat → Int32} (htf : hp_I h (m + 2) = tf) {T : Nat → Nat} (hB : BT tf T) {n : Nat} (hn : n ≤ 600) (bk : Int32) (op : Nat) (hn5 : n ≤ 150) {d : Nat} (hd6 : 6 ≤ d) {U : Nat} {unit : Nat → LWt → PR LWt} (hG0 : GoodU n U unit) (hU : ∀ (a : Nat) (L W : LWt), a ≤ n → L.1 ≤ a → MwR L W → CC l Z m_X11_readProduct (d + 1) 0 0 [.ref m] (mrS (mwS h m W) m n a (-1) bk op) (RQ none (MwO h m n bk op ((prdS unit T n) a L)))) (a : Nat) (L W : LWt) (ha : a ≤ n) (hL : L.1 ≤ a) (hw : MwR L W) : CC l Z m_X11_readSum (d + 2) 0 0 [.ref m] (mrS (mwS h m W) m n a (-1) bk op) (RQ none (MwO h m n bk op (sumS unit T n a L))) := by
  refine ee_entry hst (by decide +kernel) rfl rfl (by simp [Value.category]) (Nat.le_of_ble_eq_true rfl) ?_
  refine ww_lv (lv2 := [.ref m, UU]) rfl ?_
  have hG := prdS_G (T := T) hG0
  refine ww_aload_n dX11_readSum_0 rfl rfl ?_
  have hg5030 := hG a L (by omega)
  refine ww_cVq0 (M := m_X11_readSum) (pc := 1) (st := []) (d := d + 2) (bc := 0) (bs := 0) (hU a L W (by omega) (by omega) hw) vv_X11_readProduct dX11_readSum_1 wg_1483 ((mwS_M hM W).K0) rfl rfl rfl rfl (by omega) (Nat.le_of_ble_eq_true rfl) (Nat.le_of_ble_eq_true rfl) (Nat.le_of_ble_eq_true rfl) (fun ho5030 qo5030 => ?_)
  rcases hr5030 : (prdS unit T n) a L with ⟨k5030, q5030⟩ | ⟨a5030, L5030⟩
  · rw [hr5030] at qo5030
    obtain ⟨x5030, W5030, hx5030, rfl⟩ := qo5030
    have hf5030 := (hg5030).l hr5030
    refine ww_aload_n dX11_readSum_4 rfl rfl ?_
    refine ww_cVr (M := m_X11_readSum) (pc := 5) (v := .int (nI 0)) (h1 := mrS (mwS h m W5030) m n x5030 (nI q5030) (nI k5030) op) (st := []) (d := d + 2) (bc := 0) (bs := 0) (c_MR_fine_f hst (mwS_M hM W5030) (mwS_t (W := W5030) htf) hB hn x5030 (nI k5030) op q5030 (by omega)) vv_X11_fine dX11_readSum_5 wg_1421 ((mwS_M hM W5030).K0) rfl rfl rfl rfl (by omega) (Nat.le_of_ble_eq_true rfl) (Nat.le_of_ble_eq_true rfl) (Nat.le_of_ble_eq_true rfl) ?_
    refine ww_if_eqN (tgt := 67) dX11_readSum_8 (by decide) (by omega) (fun c8 => ?_) (fun c8 => ?_)
    · exact ww_vret dX11_readSum_67 rfl ⟨rfl, (by unfold sumS; rw [hr5030, bS_l]; exact ⟨_, _, (by assumption), rfl⟩)⟩
    · exact absurd c8 (by decide)
  · rw [hr5030] at qo5030
    obtain ⟨W5030, hw5030, rfl⟩ := qo5030
    have hf5030 := (hg5030).r hr5030
    unfold sumS
    rw [hr5030, bS_r]
    exact l_Mw_sum hst hM htf hB hn bk op hn5 hd6 hG hU 150 a5030 L5030 W5030 (by omega) (by omega) (by omega) hw5030
set_option maxHeartbeats 4000000 in
set_option maxRecDepth 100000 in
theorem c_Mw_two0_6 {l : Launch} {Z : EE} (hst : l.stackTraces = false) {h : PH} {m : Nat} (hM : ModS h m) {tf : Nat → Int32} (htf : hp_I h (m + 2) = tf) {T : Nat → Nat} (hB : BT tf T) {n : Nat} (hn : n ≤ 600) (bk : Int32) (op : Nat) (ho : op = 6) (a : Nat) (L W : LWt) (ha : a ≤ n) (hL : L.1 ≤ a) (hw : MwR L W) : CC l Z m_X11_readTwo 4 0 0 [.ref m, .int (nI 5), .int (nI 6)] (mrS (mwS h m W) m n a (-1) bk op) (RQ none (MwO h m n bk op (.inl (3, a)))) := by
  refine ee_entry hst (by decide +kernel) rfl rfl (by simp [Value.category]) (Nat.le_of_ble_eq_true rfl) ?_
  refine ww_lv (lv2 := [.ref m, .int (nI 5), .int (nI 6)]) rfl ?_
  refine ww_aload_n dX11_readTwo_0 rfl rfl ?_
  refine ww_iload_n dX11_readTwo_1 rfl rfl ?_
  refine ww_cV0 (M := m_X11_readTwo) (pc := 2) (h1 := mrS (mwS h m W) m n a (nI a) (nI 3) (op + 1)) (st := []) (d := 4) (bc := 0) (bs := 0) (c_MR_opens_x hst (mwS_M hM W) (mwS_t (W := W) htf) hB hn a bk op (by omega) (by omega) 5) vv_X11_opensOne dX11_readTwo_2 wg_1491 ((mwS_M hM W).K0) rfl rfl rfl rfl (Nat.le_of_ble_eq_true rfl) (Nat.le_of_ble_eq_true rfl) (Nat.le_of_ble_eq_true rfl) (Nat.le_of_ble_eq_true rfl) ?_
  refine ww_aload_n dX11_readTwo_5 rfl rfl ?_
  refine ww_bipush (v := nI 91) dX11_readTwo_6 (by decide) ?_
  refine ww_cV0 (M := m_X11_readTwo) (pc := 8) (h1 := mrS (mwS h m W) m n a (nI a) (nI 3) (op + 1)) (st := []) (d := 4) (bc := 0) (bs := 0) (c_MR_sign_f hst (mwS_M hM W) (mwS_t (W := W) htf) hB hn a (nI 3) (op + 1) a (by omega) 91) vv_X11_sign dX11_readTwo_8 wg_1467 ((mwS_M hM W).K0) rfl rfl rfl rfl (Nat.le_of_ble_eq_true rfl) (Nat.le_of_ble_eq_true rfl) (Nat.le_of_ble_eq_true rfl) (Nat.le_of_ble_eq_true rfl) ?_
  refine ww_aload_n dX11_readTwo_11 rfl rfl ?_
  refine ww_cV0 (M := m_X11_readTwo) (pc := 12) (h1 := mrS (mwS h m W) m n a (nI a) (nI 3) (op + 1)) (st := []) (d := 4) (bc := 0) (bs := 0) (c_Mw_sum_f hst hM htf hB hn W a (nI 3) (op + 1) a (by omega)) vv_X11_readSum dX11_readTwo_12 wg_1479 ((mwS_M hM W).K0) rfl rfl rfl rfl (Nat.le_of_ble_eq_true rfl) (Nat.le_of_ble_eq_true rfl) (Nat.le_of_ble_eq_true rfl) (Nat.le_of_ble_eq_true rfl) ?_
  refine ww_aload_n dX11_readTwo_15 rfl rfl ?_
  refine ww_bipush (v := nI 44) dX11_readTwo_16 (by decide) ?_
  refine ww_cV0 (M := m_X11_readTwo) (pc := 18) (h1 := mrS (mwS h m W) m n a (nI a) (nI 3) (op + 1)) (st := []) (d := 4) (bc := 0) (bs := 0) (c_MR_sign_f hst (mwS_M hM W) (mwS_t (W := W) htf) hB hn a (nI 3) (op + 1) a (by omega) 44) vv_X11_sign dX11_readTwo_18 wg_1467 ((mwS_M hM W).K0) rfl rfl rfl rfl (Nat.le_of_ble_eq_true rfl) (Nat.le_of_ble_eq_true rfl) (Nat.le_of_ble_eq_true rfl) (Nat.le_of_ble_eq_true rfl) ?_
  refine ww_aload_n dX11_readTwo_21 rfl rfl ?_
  refine ww_cV0 (M := m_X11_readTwo) (pc := 22) (h1 := mrS (mwS h m W) m n a (nI a) (nI 3) (op + 1)) (st := []) (d := 4) (bc := 0) (bs := 0) (c_Mw_sum_f hst hM htf hB hn W a (nI 3) (op + 1) a (by omega)) vv_X11_readSum dX11_readTwo_22 wg_1479 ((mwS_M hM W).K0) rfl rfl rfl rfl (Nat.le_of_ble_eq_true rfl) (Nat.le_of_ble_eq_true rfl) (Nat.le_of_ble_eq_true rfl) (Nat.le_of_ble_eq_true rfl) ?_
  refine ww_aload_n dX11_readTwo_25 rfl rfl ?_
  refine ww_bipush (v := nI 93) dX11_readTwo_26 (by decide) ?_
  refine ww_cV0 (M := m_X11_readTwo) (pc := 28) (h1 := mrS (mwS h m W) m n a (nI a) (nI 3) (op + 1)) (st := []) (d := 4) (bc := 0) (bs := 0) (c_MR_sign_f hst (mwS_M hM W) (mwS_t (W := W) htf) hB hn a (nI 3) (op + 1) a (by omega) 93) vv_X11_sign dX11_readTwo_28 wg_1467 ((mwS_M hM W).K0) rfl rfl rfl rfl (Nat.le_of_ble_eq_true rfl) (Nat.le_of_ble_eq_true rfl) (Nat.le_of_ble_eq_true rfl) (Nat.le_of_ble_eq_true rfl) ?_
  refine ww_aload_n dX11_readTwo_31 rfl rfl ?_
  refine ww_dup dX11_readTwo_32 rfl ?_
  refine ww_get 7 dX11_readTwo_33 ((mwS_M hM W).K0) rfl (by decide) inX11 wg_1247 (mrS_7 _ _ _ _ _ _ _) ?_
  refine ww_iconst (v := nI 1) dX11_readTwo_36 (by decide) ?_
  refine ww_isubN dX11_readTwo_37 (by omega) ?_
  refine ww_pfI tyX11 7 dX11_readTwo_38 ((mwS_M hM W).K0) rfl (by decide) inX11 tyX11_ok nmX11 wg_1247 rfl rfl ?_
  refine ww_hp (h2 := mrS (mwS h m W) m n a (nI a) (nI 3) op) (mrS_s7 _ _ _ _ _ _ _ _) ?_
  refine ww_aload_n dX11_readTwo_41 rfl rfl ?_
  refine ww_iload_n dX11_readTwo_42 rfl rfl ?_
  refine ww_iconst (v := nI 0) dX11_readTwo_43 (by decide) ?_
  refine ww_cV0 (M := m_X11_readTwo) (pc := 44) (h1 := mrS (mwS h m W) m n a (nI a) (nI 3) op) (st := []) (d := 4) (bc := 0) (bs := 0) (c_Mw_emit_f hst hM htf hB hn W a (nI 3) op a (by omega) (nI 6) (nI 0)) vv_X11_emit dX11_readTwo_44 wg_1495 ((mwS_M hM W).K0) rfl rfl rfl rfl (Nat.le_of_ble_eq_true rfl) (Nat.le_of_ble_eq_true rfl) (Nat.le_of_ble_eq_true rfl) (Nat.le_of_ble_eq_true rfl) ?_
  exact ww_vret dX11_readTwo_47 rfl ⟨rfl, ⟨a, W, ha, rfl⟩⟩
set_option maxHeartbeats 4000000 in
set_option maxRecDepth 100000 in
theorem c_Mw_two1_6 {l : Launch} {Z : EE} (hst : l.stackTraces = false) {h : PH} {m : Nat} (hM : ModS h m) {tf : Nat → Int32} (htf : hp_I h (m + 2) = tf) {T : Nat → Nat} (hB : BT tf T) {n : Nat} (hn : n ≤ 600) (bk : Int32) (op : Nat) (hn5 : n ≤ 150) {d : Nat} (hd6 : 6 ≤ d) (ho : op < 6) {U : Nat} {S : Nat → LWt → PR LWt} (hG : GoodU n U S) (hS : ∀ (a : Nat) (L W : LWt), a ≤ n → L.1 ≤ a → MwR L W → CC l Z m_X11_readSum (d + 2) 0 0 [.ref m] (mrS (mwS h m W) m n a (-1) bk (op + 1)) (RQ none (MwO h m n bk (op + 1) (S a L)))) (a : Nat) (L W : LWt) (ha : a ≤ n) (hL : L.1 ≤ a) (hw : MwR L W) (hab : a + 5 ≤ n) : CC l Z m_X11_readTwo (d + 3) 0 0 [.ref m, .int (nI 5), .int (nI 6)] (mrS (mwS h m W) m n a (-1) bk op) (RQ none (MwO h m n bk op (bS (parS S T n (a + 5) L) (fun a6 L5 => .inr (a6, eL 7 0 L5))))) := by
  refine ee_entry hst (by decide +kernel) rfl rfl (by simp [Value.category]) (Nat.le_of_ble_eq_true rfl) ?_
  refine ww_lv (lv2 := [.ref m, .int (nI 5), .int (nI 6)]) rfl ?_
  refine ww_aload_n dX11_readTwo_0 rfl rfl ?_
  refine ww_iload_n dX11_readTwo_1 rfl rfl ?_
  refine ww_cV0 (M := m_X11_readTwo) (pc := 2) (h1 := mrS (mwS h m W) m n (a + 5) (-1) bk (op + 1)) (st := []) (d := (d + 3)) (bc := 0) (bs := 0) (c_MR_opens_t hst (mwS_M hM W) (mwS_t (W := W) htf) hB hn a bk op (by omega) 5) vv_X11_opensOne dX11_readTwo_2 wg_1491 ((mwS_M hM W).K0) rfl rfl rfl rfl (by omega) (Nat.le_of_ble_eq_true rfl) (Nat.le_of_ble_eq_true rfl) (Nat.le_of_ble_eq_true rfl) ?_
  refine ww_aload_n dX11_readTwo_5 rfl rfl ?_
  refine ww_bipush (v := nI 91) dX11_readTwo_6 (by decide) ?_
  rcases hr5031 : sgnS T n 91 (a + 5) with ⟨k5031, q5031⟩ | ⟨a5031, u5031⟩
  · have hf5031 := (sgnS_l hr5031).1
    have hq5031 := sgnS_lq (by omega) hr5031
    have hsl5031 := sk_le (T := T) (show a + 5 ≤ n by omega)
    refine ww_cV0 (M := m_X11_readTwo) (pc := 8) (h1 := mrS (mwS h m W) m n (sk T n (a + 5)) (nI q5031) (nI k5031) (op + 1)) (st := []) (d := (d + 3)) (bc := 0) (bs := 0) (c_MR_sign_l hst (mwS_M hM W) (mwS_t (W := W) htf) hB hn (a + 5) bk (op + 1) (by omega) 91 (by omega) (by omega) hr5031) vv_X11_sign dX11_readTwo_8 wg_1467 ((mwS_M hM W).K0) rfl rfl rfl rfl (by omega) (Nat.le_of_ble_eq_true rfl) (Nat.le_of_ble_eq_true rfl) (Nat.le_of_ble_eq_true rfl) ?_
    refine ww_aload_n dX11_readTwo_11 rfl rfl ?_
    refine ww_cV0 (M := m_X11_readTwo) (pc := 12) (h1 := mrS (mwS h m W) m n (sk T n (a + 5)) (nI q5031) (nI k5031) (op + 1)) (st := []) (d := (d + 3)) (bc := 0) (bs := 0) (c_Mw_sum_f hst hM htf hB hn W (sk T n (a + 5)) (nI k5031) (op + 1) q5031 (by omega)) vv_X11_readSum dX11_readTwo_12 wg_1479 ((mwS_M hM W).K0) rfl rfl rfl rfl (by omega) (Nat.le_of_ble_eq_true rfl) (Nat.le_of_ble_eq_true rfl) (Nat.le_of_ble_eq_true rfl) ?_
    refine ww_aload_n dX11_readTwo_15 rfl rfl ?_
    refine ww_bipush (v := nI 44) dX11_readTwo_16 (by decide) ?_
    refine ww_cV0 (M := m_X11_readTwo) (pc := 18) (h1 := mrS (mwS h m W) m n (sk T n (a + 5)) (nI q5031) (nI k5031) (op + 1)) (st := []) (d := (d + 3)) (bc := 0) (bs := 0) (c_MR_sign_f hst (mwS_M hM W) (mwS_t (W := W) htf) hB hn (sk T n (a + 5)) (nI k5031) (op + 1) q5031 (by omega) 44) vv_X11_sign dX11_readTwo_18 wg_1467 ((mwS_M hM W).K0) rfl rfl rfl rfl (by omega) (Nat.le_of_ble_eq_true rfl) (Nat.le_of_ble_eq_true rfl) (Nat.le_of_ble_eq_true rfl) ?_
    refine ww_aload_n dX11_readTwo_21 rfl rfl ?_
    refine ww_cV0 (M := m_X11_readTwo) (pc := 22) (h1 := mrS (mwS h m W) m n (sk T n (a + 5)) (nI q5031) (nI k5031) (op + 1)) (st := []) (d := (d + 3)) (bc := 0) (bs := 0) (c_Mw_sum_f hst hM htf hB hn W (sk T n (a + 5)) (nI k5031) (op + 1) q5031 (by omega)) vv_X11_readSum dX11_readTwo_22 wg_1479 ((mwS_M hM W).K0) rfl rfl rfl rfl (by omega) (Nat.le_of_ble_eq_true rfl) (Nat.le_of_ble_eq_true rfl) (Nat.le_of_ble_eq_true rfl) ?_
    refine ww_aload_n dX11_readTwo_25 rfl rfl ?_
    refine ww_bipush (v := nI 93) dX11_readTwo_26 (by decide) ?_
    refine ww_cV0 (M := m_X11_readTwo) (pc := 28) (h1 := mrS (mwS h m W) m n (sk T n (a + 5)) (nI q5031) (nI k5031) (op + 1)) (st := []) (d := (d + 3)) (bc := 0) (bs := 0) (c_MR_sign_f hst (mwS_M hM W) (mwS_t (W := W) htf) hB hn (sk T n (a + 5)) (nI k5031) (op + 1) q5031 (by omega) 93) vv_X11_sign dX11_readTwo_28 wg_1467 ((mwS_M hM W).K0) rfl rfl rfl rfl (by omega) (Nat.le_of_ble_eq_true rfl) (Nat.le_of_ble_eq_true rfl) (Nat.le_of_ble_eq_true rfl) ?_
    refine ww_aload_n dX11_readTwo_31 rfl rfl ?_
    refine ww_dup dX11_readTwo_32 rfl ?_
    refine ww_get 7 dX11_readTwo_33 ((mwS_M hM W).K0) rfl (by decide) inX11 wg_1247 (mrS_7 _ _ _ _ _ _ _) ?_
    refine ww_iconst (v := nI 1) dX11_readTwo_36 (by decide) ?_
    refine ww_isubN dX11_readTwo_37 (by omega) ?_
    refine ww_pfI tyX11 7 dX11_readTwo_38 ((mwS_M hM W).K0) rfl (by decide) inX11 tyX11_ok nmX11 wg_1247 rfl rfl ?_
    refine ww_hp (h2 := mrS (mwS h m W) m n (sk T n (a + 5)) (nI q5031) (nI k5031) op) (mrS_s7 _ _ _ _ _ _ _ _) ?_
    refine ww_aload_n dX11_readTwo_41 rfl rfl ?_
    refine ww_iload_n dX11_readTwo_42 rfl rfl ?_
    refine ww_iconst (v := nI 0) dX11_readTwo_43 (by decide) ?_
    refine ww_cV0 (M := m_X11_readTwo) (pc := 44) (h1 := mrS (mwS h m W) m n (sk T n (a + 5)) (nI q5031) (nI k5031) op) (st := []) (d := (d + 3)) (bc := 0) (bs := 0) (c_Mw_emit_f hst hM htf hB hn W (sk T n (a + 5)) (nI k5031) op q5031 (by omega) (nI 6) (nI 0)) vv_X11_emit dX11_readTwo_44 wg_1495 ((mwS_M hM W).K0) rfl rfl rfl rfl (by omega) (Nat.le_of_ble_eq_true rfl) (Nat.le_of_ble_eq_true rfl) (Nat.le_of_ble_eq_true rfl) ?_
    exact ww_vret dX11_readTwo_47 rfl ⟨rfl, (by show MwO h m n bk op (bS (parS S T n (a + 5) L) _) _; unfold parS; rw [hr5031, bS_l]; rw [bS_l]; exact ⟨_, _, (by omega), rfl⟩)⟩
  · have hf5031 := sgnS_r hr5031
    have hg5031 := sk_ge (T := T) (show a + 5 ≤ n by omega)
    refine ww_cV0 (M := m_X11_readTwo) (pc := 8) (h1 := mrS (mwS h m W) m n a5031 (-1) bk (op + 1)) (st := []) (d := (d + 3)) (bc := 0) (bs := 0) (c_MR_sign_r hst (mwS_M hM W) (mwS_t (W := W) htf) hB hn (a + 5) bk (op + 1) (by omega) 91 (by omega) (by omega) hr5031) vv_X11_sign dX11_readTwo_8 wg_1467 ((mwS_M hM W).K0) rfl rfl rfl rfl (by omega) (Nat.le_of_ble_eq_true rfl) (Nat.le_of_ble_eq_true rfl) (Nat.le_of_ble_eq_true rfl) ?_
    refine ww_aload_n dX11_readTwo_11 rfl rfl ?_
    have hg5032 := hG a5031 L (by omega)
    refine ww_cVq0 (M := m_X11_readTwo) (pc := 12) (st := []) (d := (d + 3)) (bc := 0) (bs := 0) (hS a5031 L W (by omega) (by omega) hw) vv_X11_readSum dX11_readTwo_12 wg_1479 ((mwS_M hM W).K0) rfl rfl rfl rfl (by omega) (Nat.le_of_ble_eq_true rfl) (Nat.le_of_ble_eq_true rfl) (Nat.le_of_ble_eq_true rfl) (fun ho5032 qo5032 => ?_)
    rcases hr5032 : S a5031 L with ⟨k5032, q5032⟩ | ⟨a5032, L5032⟩
    · rw [hr5032] at qo5032
      obtain ⟨x5032, W5032, hx5032, rfl⟩ := qo5032
      have hf5032 := (hg5032).l hr5032
      refine ww_aload_n dX11_readTwo_15 rfl rfl ?_
      refine ww_bipush (v := nI 44) dX11_readTwo_16 (by decide) ?_
      refine ww_cV0 (M := m_X11_readTwo) (pc := 18) (h1 := mrS (mwS h m W5032) m n x5032 (nI q5032) (nI k5032) (op + 1)) (st := []) (d := (d + 3)) (bc := 0) (bs := 0) (c_MR_sign_f hst (mwS_M hM W5032) (mwS_t (W := W5032) htf) hB hn x5032 (nI k5032) (op + 1) q5032 (by omega) 44) vv_X11_sign dX11_readTwo_18 wg_1467 ((mwS_M hM W5032).K0) rfl rfl rfl rfl (by omega) (Nat.le_of_ble_eq_true rfl) (Nat.le_of_ble_eq_true rfl) (Nat.le_of_ble_eq_true rfl) ?_
      refine ww_aload_n dX11_readTwo_21 rfl rfl ?_
      refine ww_cV0 (M := m_X11_readTwo) (pc := 22) (h1 := mrS (mwS h m W5032) m n x5032 (nI q5032) (nI k5032) (op + 1)) (st := []) (d := (d + 3)) (bc := 0) (bs := 0) (c_Mw_sum_f hst hM htf hB hn W5032 x5032 (nI k5032) (op + 1) q5032 (by omega)) vv_X11_readSum dX11_readTwo_22 wg_1479 ((mwS_M hM W5032).K0) rfl rfl rfl rfl (by omega) (Nat.le_of_ble_eq_true rfl) (Nat.le_of_ble_eq_true rfl) (Nat.le_of_ble_eq_true rfl) ?_
      refine ww_aload_n dX11_readTwo_25 rfl rfl ?_
      refine ww_bipush (v := nI 93) dX11_readTwo_26 (by decide) ?_
      refine ww_cV0 (M := m_X11_readTwo) (pc := 28) (h1 := mrS (mwS h m W5032) m n x5032 (nI q5032) (nI k5032) (op + 1)) (st := []) (d := (d + 3)) (bc := 0) (bs := 0) (c_MR_sign_f hst (mwS_M hM W5032) (mwS_t (W := W5032) htf) hB hn x5032 (nI k5032) (op + 1) q5032 (by omega) 93) vv_X11_sign dX11_readTwo_28 wg_1467 ((mwS_M hM W5032).K0) rfl rfl rfl rfl (by omega) (Nat.le_of_ble_eq_true rfl) (Nat.le_of_ble_eq_true rfl) (Nat.le_of_ble_eq_true rfl) ?_
      refine ww_aload_n dX11_readTwo_31 rfl rfl ?_
      refine ww_dup dX11_readTwo_32 rfl ?_
      refine ww_get 7 dX11_readTwo_33 ((mwS_M hM W5032).K0) rfl (by decide) inX11 wg_1247 (mrS_7 _ _ _ _ _ _ _) ?_
      refine ww_iconst (v := nI 1) dX11_readTwo_36 (by decide) ?_
      refine ww_isubN dX11_readTwo_37 (by omega) ?_
      refine ww_pfI tyX11 7 dX11_readTwo_38 ((mwS_M hM W5032).K0) rfl (by decide) inX11 tyX11_ok nmX11 wg_1247 rfl rfl ?_
      refine ww_hp (h2 := mrS (mwS h m W5032) m n x5032 (nI q5032) (nI k5032) op) (mrS_s7 _ _ _ _ _ _ _ _) ?_
      refine ww_aload_n dX11_readTwo_41 rfl rfl ?_
      refine ww_iload_n dX11_readTwo_42 rfl rfl ?_
      refine ww_iconst (v := nI 0) dX11_readTwo_43 (by decide) ?_
      refine ww_cV0 (M := m_X11_readTwo) (pc := 44) (h1 := mrS (mwS h m W5032) m n x5032 (nI q5032) (nI k5032) op) (st := []) (d := (d + 3)) (bc := 0) (bs := 0) (c_Mw_emit_f hst hM htf hB hn W5032 x5032 (nI k5032) op q5032 (by omega) (nI 6) (nI 0)) vv_X11_emit dX11_readTwo_44 wg_1495 ((mwS_M hM W5032).K0) rfl rfl rfl rfl (by omega) (Nat.le_of_ble_eq_true rfl) (Nat.le_of_ble_eq_true rfl) (Nat.le_of_ble_eq_true rfl) ?_
      exact ww_vret dX11_readTwo_47 rfl ⟨rfl, (by show MwO h m n bk op (bS (parS S T n (a + 5) L) _) _; unfold parS; rw [hr5031, bS_r, hr5032, bS_l]; rw [bS_l]; exact ⟨_, _, (by omega), rfl⟩)⟩
    · rw [hr5032] at qo5032
      obtain ⟨W5032, hw5032, rfl⟩ := qo5032
      have hf5032 := (hg5032).r hr5032
      refine ww_aload_n dX11_readTwo_15 rfl rfl ?_
      refine ww_bipush (v := nI 44) dX11_readTwo_16 (by decide) ?_
      rcases hr5033 : sgnS T n 44 a5032 with ⟨k5033, q5033⟩ | ⟨a5033, u5033⟩
      · have hf5033 := (sgnS_l hr5033).1
        have hq5033 := sgnS_lq (by omega) hr5033
        have hsl5033 := sk_le (T := T) (show a5032 ≤ n by omega)
        refine ww_cV0 (M := m_X11_readTwo) (pc := 18) (h1 := mrS (mwS h m W5032) m n (sk T n a5032) (nI q5033) (nI k5033) (op + 1)) (st := []) (d := (d + 3)) (bc := 0) (bs := 0) (c_MR_sign_l hst (mwS_M hM W5032) (mwS_t (W := W5032) htf) hB hn a5032 bk (op + 1) (by omega) 44 (by omega) (by omega) hr5033) vv_X11_sign dX11_readTwo_18 wg_1467 ((mwS_M hM W5032).K0) rfl rfl rfl rfl (by omega) (Nat.le_of_ble_eq_true rfl) (Nat.le_of_ble_eq_true rfl) (Nat.le_of_ble_eq_true rfl) ?_
        refine ww_aload_n dX11_readTwo_21 rfl rfl ?_
        refine ww_cV0 (M := m_X11_readTwo) (pc := 22) (h1 := mrS (mwS h m W5032) m n (sk T n a5032) (nI q5033) (nI k5033) (op + 1)) (st := []) (d := (d + 3)) (bc := 0) (bs := 0) (c_Mw_sum_f hst hM htf hB hn W5032 (sk T n a5032) (nI k5033) (op + 1) q5033 (by omega)) vv_X11_readSum dX11_readTwo_22 wg_1479 ((mwS_M hM W5032).K0) rfl rfl rfl rfl (by omega) (Nat.le_of_ble_eq_true rfl) (Nat.le_of_ble_eq_true rfl) (Nat.le_of_ble_eq_true rfl) ?_
        refine ww_aload_n dX11_readTwo_25 rfl rfl ?_
        refine ww_bipush (v := nI 93) dX11_readTwo_26 (by decide) ?_
        refine ww_cV0 (M := m_X11_readTwo) (pc := 28) (h1 := mrS (mwS h m W5032) m n (sk T n a5032) (nI q5033) (nI k5033) (op + 1)) (st := []) (d := (d + 3)) (bc := 0) (bs := 0) (c_MR_sign_f hst (mwS_M hM W5032) (mwS_t (W := W5032) htf) hB hn (sk T n a5032) (nI k5033) (op + 1) q5033 (by omega) 93) vv_X11_sign dX11_readTwo_28 wg_1467 ((mwS_M hM W5032).K0) rfl rfl rfl rfl (by omega) (Nat.le_of_ble_eq_true rfl) (Nat.le_of_ble_eq_true rfl) (Nat.le_of_ble_eq_true rfl) ?_
        refine ww_aload_n dX11_readTwo_31 rfl rfl ?_
        refine ww_dup dX11_readTwo_32 rfl ?_
        refine ww_get 7 dX11_readTwo_33 ((mwS_M hM W5032).K0) rfl (by decide) inX11 wg_1247 (mrS_7 _ _ _ _ _ _ _) ?_
        refine ww_iconst (v := nI 1) dX11_readTwo_36 (by decide) ?_
        refine ww_isubN dX11_readTwo_37 (by omega) ?_
        refine ww_pfI tyX11 7 dX11_readTwo_38 ((mwS_M hM W5032).K0) rfl (by decide) inX11 tyX11_ok nmX11 wg_1247 rfl rfl ?_
        refine ww_hp (h2 := mrS (mwS h m W5032) m n (sk T n a5032) (nI q5033) (nI k5033) op) (mrS_s7 _ _ _ _ _ _ _ _) ?_
        refine ww_aload_n dX11_readTwo_41 rfl rfl ?_
        refine ww_iload_n dX11_readTwo_42 rfl rfl ?_
        refine ww_iconst (v := nI 0) dX11_readTwo_43 (by decide) ?_
        refine ww_cV0 (M := m_X11_readTwo) (pc := 44) (h1 := mrS (mwS h m W5032) m n (sk T n a5032) (nI q5033) (nI k5033) op) (st := []) (d := (d + 3)) (bc := 0) (bs := 0) (c_Mw_emit_f hst hM htf hB hn W5032 (sk T n a5032) (nI k5033) op q5033 (by omega) (nI 6) (nI 0)) vv_X11_emit dX11_readTwo_44 wg_1495 ((mwS_M hM W5032).K0) rfl rfl rfl rfl (by omega) (Nat.le_of_ble_eq_true rfl) (Nat.le_of_ble_eq_true rfl) (Nat.le_of_ble_eq_true rfl) ?_
        exact ww_vret dX11_readTwo_47 rfl ⟨rfl, (by show MwO h m n bk op (bS (parS S T n (a + 5) L) _) _; unfold parS; rw [hr5031, bS_r, hr5032, bS_r, hr5033, bS_l]; rw [bS_l]; exact ⟨_, _, (by omega), rfl⟩)⟩
      · have hf5033 := sgnS_r hr5033
        have hg5033 := sk_ge (T := T) (show a5032 ≤ n by omega)
        refine ww_cV0 (M := m_X11_readTwo) (pc := 18) (h1 := mrS (mwS h m W5032) m n a5033 (-1) bk (op + 1)) (st := []) (d := (d + 3)) (bc := 0) (bs := 0) (c_MR_sign_r hst (mwS_M hM W5032) (mwS_t (W := W5032) htf) hB hn a5032 bk (op + 1) (by omega) 44 (by omega) (by omega) hr5033) vv_X11_sign dX11_readTwo_18 wg_1467 ((mwS_M hM W5032).K0) rfl rfl rfl rfl (by omega) (Nat.le_of_ble_eq_true rfl) (Nat.le_of_ble_eq_true rfl) (Nat.le_of_ble_eq_true rfl) ?_
        refine ww_aload_n dX11_readTwo_21 rfl rfl ?_
        have hg5034 := hG a5033 L5032 (by omega)
        refine ww_cVq0 (M := m_X11_readTwo) (pc := 22) (st := []) (d := (d + 3)) (bc := 0) (bs := 0) (hS a5033 L5032 W5032 (by omega) (by omega) hw5032) vv_X11_readSum dX11_readTwo_22 wg_1479 ((mwS_M hM W5032).K0) rfl rfl rfl rfl (by omega) (Nat.le_of_ble_eq_true rfl) (Nat.le_of_ble_eq_true rfl) (Nat.le_of_ble_eq_true rfl) (fun ho5034 qo5034 => ?_)
        rcases hr5034 : S a5033 L5032 with ⟨k5034, q5034⟩ | ⟨a5034, L5034⟩
        · rw [hr5034] at qo5034
          obtain ⟨x5034, W5034, hx5034, rfl⟩ := qo5034
          have hf5034 := (hg5034).l hr5034
          refine ww_aload_n dX11_readTwo_25 rfl rfl ?_
          refine ww_bipush (v := nI 93) dX11_readTwo_26 (by decide) ?_
          refine ww_cV0 (M := m_X11_readTwo) (pc := 28) (h1 := mrS (mwS h m W5034) m n x5034 (nI q5034) (nI k5034) (op + 1)) (st := []) (d := (d + 3)) (bc := 0) (bs := 0) (c_MR_sign_f hst (mwS_M hM W5034) (mwS_t (W := W5034) htf) hB hn x5034 (nI k5034) (op + 1) q5034 (by omega) 93) vv_X11_sign dX11_readTwo_28 wg_1467 ((mwS_M hM W5034).K0) rfl rfl rfl rfl (by omega) (Nat.le_of_ble_eq_true rfl) (Nat.le_of_ble_eq_true rfl) (Nat.le_of_ble_eq_true rfl) ?_
          refine ww_aload_n dX11_readTwo_31 rfl rfl ?_
          refine ww_dup dX11_readTwo_32 rfl ?_
          refine ww_get 7 dX11_readTwo_33 ((mwS_M hM W5034).K0) rfl (by decide) inX11 wg_1247 (mrS_7 _ _ _ _ _ _ _) ?_
          refine ww_iconst (v := nI 1) dX11_readTwo_36 (by decide) ?_
          refine ww_isubN dX11_readTwo_37 (by omega) ?_
          refine ww_pfI tyX11 7 dX11_readTwo_38 ((mwS_M hM W5034).K0) rfl (by decide) inX11 tyX11_ok nmX11 wg_1247 rfl rfl ?_
          refine ww_hp (h2 := mrS (mwS h m W5034) m n x5034 (nI q5034) (nI k5034) op) (mrS_s7 _ _ _ _ _ _ _ _) ?_
          refine ww_aload_n dX11_readTwo_41 rfl rfl ?_
          refine ww_iload_n dX11_readTwo_42 rfl rfl ?_
          refine ww_iconst (v := nI 0) dX11_readTwo_43 (by decide) ?_
          refine ww_cV0 (M := m_X11_readTwo) (pc := 44) (h1 := mrS (mwS h m W5034) m n x5034 (nI q5034) (nI k5034) op) (st := []) (d := (d + 3)) (bc := 0) (bs := 0) (c_Mw_emit_f hst hM htf hB hn W5034 x5034 (nI k5034) op q5034 (by omega) (nI 6) (nI 0)) vv_X11_emit dX11_readTwo_44 wg_1495 ((mwS_M hM W5034).K0) rfl rfl rfl rfl (by omega) (Nat.le_of_ble_eq_true rfl) (Nat.le_of_ble_eq_true rfl) (Nat.le_of_ble_eq_true rfl) ?_
          exact ww_vret dX11_readTwo_47 rfl ⟨rfl, (by show MwO h m n bk op (bS (parS S T n (a + 5) L) _) _; unfold parS; rw [hr5031, bS_r, hr5032, bS_r, hr5033, bS_r, hr5034, bS_l]; rw [bS_l]; exact ⟨_, _, (by omega), rfl⟩)⟩
        · rw [hr5034] at qo5034
          obtain ⟨W5034, hw5034, rfl⟩ := qo5034
          have hf5034 := (hg5034).r hr5034
          refine ww_aload_n dX11_readTwo_25 rfl rfl ?_
          refine ww_bipush (v := nI 93) dX11_readTwo_26 (by decide) ?_
          rcases hr5035 : sgnS T n 93 a5034 with ⟨k5035, q5035⟩ | ⟨a5035, u5035⟩
          · have hf5035 := (sgnS_l hr5035).1
            have hq5035 := sgnS_lq (by omega) hr5035
            have hsl5035 := sk_le (T := T) (show a5034 ≤ n by omega)
            refine ww_cV0 (M := m_X11_readTwo) (pc := 28) (h1 := mrS (mwS h m W5034) m n (sk T n a5034) (nI q5035) (nI k5035) (op + 1)) (st := []) (d := (d + 3)) (bc := 0) (bs := 0) (c_MR_sign_l hst (mwS_M hM W5034) (mwS_t (W := W5034) htf) hB hn a5034 bk (op + 1) (by omega) 93 (by omega) (by omega) hr5035) vv_X11_sign dX11_readTwo_28 wg_1467 ((mwS_M hM W5034).K0) rfl rfl rfl rfl (by omega) (Nat.le_of_ble_eq_true rfl) (Nat.le_of_ble_eq_true rfl) (Nat.le_of_ble_eq_true rfl) ?_
            refine ww_aload_n dX11_readTwo_31 rfl rfl ?_
            refine ww_dup dX11_readTwo_32 rfl ?_
            refine ww_get 7 dX11_readTwo_33 ((mwS_M hM W5034).K0) rfl (by decide) inX11 wg_1247 (mrS_7 _ _ _ _ _ _ _) ?_
            refine ww_iconst (v := nI 1) dX11_readTwo_36 (by decide) ?_
            refine ww_isubN dX11_readTwo_37 (by omega) ?_
            refine ww_pfI tyX11 7 dX11_readTwo_38 ((mwS_M hM W5034).K0) rfl (by decide) inX11 tyX11_ok nmX11 wg_1247 rfl rfl ?_
            refine ww_hp (h2 := mrS (mwS h m W5034) m n (sk T n a5034) (nI q5035) (nI k5035) op) (mrS_s7 _ _ _ _ _ _ _ _) ?_
            refine ww_aload_n dX11_readTwo_41 rfl rfl ?_
            refine ww_iload_n dX11_readTwo_42 rfl rfl ?_
            refine ww_iconst (v := nI 0) dX11_readTwo_43 (by decide) ?_
            refine ww_cV0 (M := m_X11_readTwo) (pc := 44) (h1 := mrS (mwS h m W5034) m n (sk T n a5034) (nI q5035) (nI k5035) op) (st := []) (d := (d + 3)) (bc := 0) (bs := 0) (c_Mw_emit_f hst hM htf hB hn W5034 (sk T n a5034) (nI k5035) op q5035 (by omega) (nI 6) (nI 0)) vv_X11_emit dX11_readTwo_44 wg_1495 ((mwS_M hM W5034).K0) rfl rfl rfl rfl (by omega) (Nat.le_of_ble_eq_true rfl) (Nat.le_of_ble_eq_true rfl) (Nat.le_of_ble_eq_true rfl) ?_
            exact ww_vret dX11_readTwo_47 rfl ⟨rfl, (by show MwO h m n bk op (bS (parS S T n (a + 5) L) _) _; unfold parS; rw [hr5031, bS_r, hr5032, bS_r, hr5033, bS_r, hr5034, bS_r, hr5035, bS_l]; rw [bS_l]; exact ⟨_, _, (by omega), rfl⟩)⟩
          · have hf5035 := sgnS_r hr5035
            have hg5035 := sk_ge (T := T) (show a5034 ≤ n by omega)
            refine ww_cV0 (M := m_X11_readTwo) (pc := 28) (h1 := mrS (mwS h m W5034) m n a5035 (-1) bk (op + 1)) (st := []) (d := (d + 3)) (bc := 0) (bs := 0) (c_MR_sign_r hst (mwS_M hM W5034) (mwS_t (W := W5034) htf) hB hn a5034 bk (op + 1) (by omega) 93 (by omega) (by omega) hr5035) vv_X11_sign dX11_readTwo_28 wg_1467 ((mwS_M hM W5034).K0) rfl rfl rfl rfl (by omega) (Nat.le_of_ble_eq_true rfl) (Nat.le_of_ble_eq_true rfl) (Nat.le_of_ble_eq_true rfl) ?_
            refine ww_aload_n dX11_readTwo_31 rfl rfl ?_
            refine ww_dup dX11_readTwo_32 rfl ?_
            refine ww_get 7 dX11_readTwo_33 ((mwS_M hM W5034).K0) rfl (by decide) inX11 wg_1247 (mrS_7 _ _ _ _ _ _ _) ?_
            refine ww_iconst (v := nI 1) dX11_readTwo_36 (by decide) ?_
            refine ww_isubN dX11_readTwo_37 (by omega) ?_
            refine ww_pfI tyX11 7 dX11_readTwo_38 ((mwS_M hM W5034).K0) rfl (by decide) inX11 tyX11_ok nmX11 wg_1247 rfl rfl ?_
            refine ww_hp (h2 := mrS (mwS h m W5034) m n a5035 (-1) bk op) (mrS_s7 _ _ _ _ _ _ _ _) ?_
            refine ww_aload_n dX11_readTwo_41 rfl rfl ?_
            refine ww_iload_n dX11_readTwo_42 rfl rfl ?_
            refine ww_iconst (v := nI 0) dX11_readTwo_43 (by decide) ?_
            have hW5036 : W5034.1 = L5034.1 := hw5034.1
            have he5036 : (eL 7 0 L5034).1 = L5034.1 + 1 := rfl
            refine ww_cV0 (M := m_X11_readTwo) (pc := 44) (h1 := mrS (mwS h m (eL 6 0 W5034)) m n a5035 (-1) bk op) (st := []) (d := (d + 3)) (bc := 0) (bs := 0) (c_Mw_emit_t hst hM htf hB hn W5034 (by omega) a5035 bk op 6 0) vv_X11_emit dX11_readTwo_44 wg_1495 ((mwS_M hM W5034).K0) rfl rfl rfl rfl (by omega) (Nat.le_of_ble_eq_true rfl) (Nat.le_of_ble_eq_true rfl) (Nat.le_of_ble_eq_true rfl) ?_
            exact ww_vret dX11_readTwo_47 rfl ⟨rfl, (by show MwO h m n bk op (bS (parS S T n (a + 5) L) _) _; unfold parS; rw [hr5031, bS_r, hr5032, bS_r, hr5033, bS_r, hr5034, bS_r, hr5035, bS_r]; rw [bS_r]; exact ⟨_, (MwR.e hw5034 (k := 7) (by decide) 0), rfl⟩)⟩
set_option maxHeartbeats 4000000 in
set_option maxRecDepth 100000 in
theorem c_Mw_two0_7 {l : Launch} {Z : EE} (hst : l.stackTraces = false) {h : PH} {m : Nat} (hM : ModS h m) {tf : Nat → Int32} (htf : hp_I h (m + 2) = tf) {T : Nat → Nat} (hB : BT tf T) {n : Nat} (hn : n ≤ 600) (bk : Int32) (op : Nat) (ho : op = 6) (a : Nat) (L W : LWt) (ha : a ≤ n) (hL : L.1 ≤ a) (hw : MwR L W) : CC l Z m_X11_readTwo 4 0 0 [.ref m, .int (nI 4), .int (nI 7)] (mrS (mwS h m W) m n a (-1) bk op) (RQ none (MwO h m n bk op (.inl (3, a)))) := by
  refine ee_entry hst (by decide +kernel) rfl rfl (by simp [Value.category]) (Nat.le_of_ble_eq_true rfl) ?_
  refine ww_lv (lv2 := [.ref m, .int (nI 4), .int (nI 7)]) rfl ?_
  refine ww_aload_n dX11_readTwo_0 rfl rfl ?_
  refine ww_iload_n dX11_readTwo_1 rfl rfl ?_
  refine ww_cV0 (M := m_X11_readTwo) (pc := 2) (h1 := mrS (mwS h m W) m n a (nI a) (nI 3) (op + 1)) (st := []) (d := 4) (bc := 0) (bs := 0) (c_MR_opens_x hst (mwS_M hM W) (mwS_t (W := W) htf) hB hn a bk op (by omega) (by omega) 4) vv_X11_opensOne dX11_readTwo_2 wg_1491 ((mwS_M hM W).K0) rfl rfl rfl rfl (Nat.le_of_ble_eq_true rfl) (Nat.le_of_ble_eq_true rfl) (Nat.le_of_ble_eq_true rfl) (Nat.le_of_ble_eq_true rfl) ?_
  refine ww_aload_n dX11_readTwo_5 rfl rfl ?_
  refine ww_bipush (v := nI 91) dX11_readTwo_6 (by decide) ?_
  refine ww_cV0 (M := m_X11_readTwo) (pc := 8) (h1 := mrS (mwS h m W) m n a (nI a) (nI 3) (op + 1)) (st := []) (d := 4) (bc := 0) (bs := 0) (c_MR_sign_f hst (mwS_M hM W) (mwS_t (W := W) htf) hB hn a (nI 3) (op + 1) a (by omega) 91) vv_X11_sign dX11_readTwo_8 wg_1467 ((mwS_M hM W).K0) rfl rfl rfl rfl (Nat.le_of_ble_eq_true rfl) (Nat.le_of_ble_eq_true rfl) (Nat.le_of_ble_eq_true rfl) (Nat.le_of_ble_eq_true rfl) ?_
  refine ww_aload_n dX11_readTwo_11 rfl rfl ?_
  refine ww_cV0 (M := m_X11_readTwo) (pc := 12) (h1 := mrS (mwS h m W) m n a (nI a) (nI 3) (op + 1)) (st := []) (d := 4) (bc := 0) (bs := 0) (c_Mw_sum_f hst hM htf hB hn W a (nI 3) (op + 1) a (by omega)) vv_X11_readSum dX11_readTwo_12 wg_1479 ((mwS_M hM W).K0) rfl rfl rfl rfl (Nat.le_of_ble_eq_true rfl) (Nat.le_of_ble_eq_true rfl) (Nat.le_of_ble_eq_true rfl) (Nat.le_of_ble_eq_true rfl) ?_
  refine ww_aload_n dX11_readTwo_15 rfl rfl ?_
  refine ww_bipush (v := nI 44) dX11_readTwo_16 (by decide) ?_
  refine ww_cV0 (M := m_X11_readTwo) (pc := 18) (h1 := mrS (mwS h m W) m n a (nI a) (nI 3) (op + 1)) (st := []) (d := 4) (bc := 0) (bs := 0) (c_MR_sign_f hst (mwS_M hM W) (mwS_t (W := W) htf) hB hn a (nI 3) (op + 1) a (by omega) 44) vv_X11_sign dX11_readTwo_18 wg_1467 ((mwS_M hM W).K0) rfl rfl rfl rfl (Nat.le_of_ble_eq_true rfl) (Nat.le_of_ble_eq_true rfl) (Nat.le_of_ble_eq_true rfl) (Nat.le_of_ble_eq_true rfl) ?_
  refine ww_aload_n dX11_readTwo_21 rfl rfl ?_
  refine ww_cV0 (M := m_X11_readTwo) (pc := 22) (h1 := mrS (mwS h m W) m n a (nI a) (nI 3) (op + 1)) (st := []) (d := 4) (bc := 0) (bs := 0) (c_Mw_sum_f hst hM htf hB hn W a (nI 3) (op + 1) a (by omega)) vv_X11_readSum dX11_readTwo_22 wg_1479 ((mwS_M hM W).K0) rfl rfl rfl rfl (Nat.le_of_ble_eq_true rfl) (Nat.le_of_ble_eq_true rfl) (Nat.le_of_ble_eq_true rfl) (Nat.le_of_ble_eq_true rfl) ?_
  refine ww_aload_n dX11_readTwo_25 rfl rfl ?_
  refine ww_bipush (v := nI 93) dX11_readTwo_26 (by decide) ?_
  refine ww_cV0 (M := m_X11_readTwo) (pc := 28) (h1 := mrS (mwS h m W) m n a (nI a) (nI 3) (op + 1)) (st := []) (d := 4) (bc := 0) (bs := 0) (c_MR_sign_f hst (mwS_M hM W) (mwS_t (W := W) htf) hB hn a (nI 3) (op + 1) a (by omega) 93) vv_X11_sign dX11_readTwo_28 wg_1467 ((mwS_M hM W).K0) rfl rfl rfl rfl (Nat.le_of_ble_eq_true rfl) (Nat.le_of_ble_eq_true rfl) (Nat.le_of_ble_eq_true rfl) (Nat.le_of_ble_eq_true rfl) ?_
  refine ww_aload_n dX11_readTwo_31 rfl rfl ?_
  refine ww_dup dX11_readTwo_32 rfl ?_
  refine ww_get 7 dX11_readTwo_33 ((mwS_M hM W).K0) rfl (by decide) inX11 wg_1247 (mrS_7 _ _ _ _ _ _ _) ?_
  refine ww_iconst (v := nI 1) dX11_readTwo_36 (by decide) ?_
  refine ww_isubN dX11_readTwo_37 (by omega) ?_
  refine ww_pfI tyX11 7 dX11_readTwo_38 ((mwS_M hM W).K0) rfl (by decide) inX11 tyX11_ok nmX11 wg_1247 rfl rfl ?_
  refine ww_hp (h2 := mrS (mwS h m W) m n a (nI a) (nI 3) op) (mrS_s7 _ _ _ _ _ _ _ _) ?_
  refine ww_aload_n dX11_readTwo_41 rfl rfl ?_
  refine ww_iload_n dX11_readTwo_42 rfl rfl ?_
  refine ww_iconst (v := nI 0) dX11_readTwo_43 (by decide) ?_
  refine ww_cV0 (M := m_X11_readTwo) (pc := 44) (h1 := mrS (mwS h m W) m n a (nI a) (nI 3) op) (st := []) (d := 4) (bc := 0) (bs := 0) (c_Mw_emit_f hst hM htf hB hn W a (nI 3) op a (by omega) (nI 7) (nI 0)) vv_X11_emit dX11_readTwo_44 wg_1495 ((mwS_M hM W).K0) rfl rfl rfl rfl (Nat.le_of_ble_eq_true rfl) (Nat.le_of_ble_eq_true rfl) (Nat.le_of_ble_eq_true rfl) (Nat.le_of_ble_eq_true rfl) ?_
  exact ww_vret dX11_readTwo_47 rfl ⟨rfl, ⟨a, W, ha, rfl⟩⟩
set_option maxHeartbeats 4000000 in
set_option maxRecDepth 100000 in
theorem c_Mw_two1_7 {l : Launch} {Z : EE} (hst : l.stackTraces = false) {h : PH} {m : Nat} (hM : ModS h m) {tf : Nat → Int32} (htf : hp_I h (m + 2) = tf) {T : Nat → Nat} (hB : BT tf T) {n : Nat} (hn : n ≤ 600) (bk : Int32) (op : Nat) (hn5 : n ≤ 150) {d : Nat} (hd6 : 6 ≤ d) (ho : op < 6) {U : Nat} {S : Nat → LWt → PR LWt} (hG : GoodU n U S) (hS : ∀ (a : Nat) (L W : LWt), a ≤ n → L.1 ≤ a → MwR L W → CC l Z m_X11_readSum (d + 2) 0 0 [.ref m] (mrS (mwS h m W) m n a (-1) bk (op + 1)) (RQ none (MwO h m n bk (op + 1) (S a L)))) (a : Nat) (L W : LWt) (ha : a ≤ n) (hL : L.1 ≤ a) (hw : MwR L W) (hab : a + 4 ≤ n) : CC l Z m_X11_readTwo (d + 3) 0 0 [.ref m, .int (nI 4), .int (nI 7)] (mrS (mwS h m W) m n a (-1) bk op) (RQ none (MwO h m n bk op (bS (parS S T n (a + 4) L) (fun a6 L5 => .inr (a6, eL 8 0 L5))))) := by
  refine ee_entry hst (by decide +kernel) rfl rfl (by simp [Value.category]) (Nat.le_of_ble_eq_true rfl) ?_
  refine ww_lv (lv2 := [.ref m, .int (nI 4), .int (nI 7)]) rfl ?_
  refine ww_aload_n dX11_readTwo_0 rfl rfl ?_
  refine ww_iload_n dX11_readTwo_1 rfl rfl ?_
  refine ww_cV0 (M := m_X11_readTwo) (pc := 2) (h1 := mrS (mwS h m W) m n (a + 4) (-1) bk (op + 1)) (st := []) (d := (d + 3)) (bc := 0) (bs := 0) (c_MR_opens_t hst (mwS_M hM W) (mwS_t (W := W) htf) hB hn a bk op (by omega) 4) vv_X11_opensOne dX11_readTwo_2 wg_1491 ((mwS_M hM W).K0) rfl rfl rfl rfl (by omega) (Nat.le_of_ble_eq_true rfl) (Nat.le_of_ble_eq_true rfl) (Nat.le_of_ble_eq_true rfl) ?_
  refine ww_aload_n dX11_readTwo_5 rfl rfl ?_
  refine ww_bipush (v := nI 91) dX11_readTwo_6 (by decide) ?_
  rcases hr5037 : sgnS T n 91 (a + 4) with ⟨k5037, q5037⟩ | ⟨a5037, u5037⟩
  · have hf5037 := (sgnS_l hr5037).1
    have hq5037 := sgnS_lq (by omega) hr5037
    have hsl5037 := sk_le (T := T) (show a + 4 ≤ n by omega)
    refine ww_cV0 (M := m_X11_readTwo) (pc := 8) (h1 := mrS (mwS h m W) m n (sk T n (a + 4)) (nI q5037) (nI k5037) (op + 1)) (st := []) (d := (d + 3)) (bc := 0) (bs := 0) (c_MR_sign_l hst (mwS_M hM W) (mwS_t (W := W) htf) hB hn (a + 4) bk (op + 1) (by omega) 91 (by omega) (by omega) hr5037) vv_X11_sign dX11_readTwo_8 wg_1467 ((mwS_M hM W).K0) rfl rfl rfl rfl (by omega) (Nat.le_of_ble_eq_true rfl) (Nat.le_of_ble_eq_true rfl) (Nat.le_of_ble_eq_true rfl) ?_
    refine ww_aload_n dX11_readTwo_11 rfl rfl ?_
    refine ww_cV0 (M := m_X11_readTwo) (pc := 12) (h1 := mrS (mwS h m W) m n (sk T n (a + 4)) (nI q5037) (nI k5037) (op + 1)) (st := []) (d := (d + 3)) (bc := 0) (bs := 0) (c_Mw_sum_f hst hM htf hB hn W (sk T n (a + 4)) (nI k5037) (op + 1) q5037 (by omega)) vv_X11_readSum dX11_readTwo_12 wg_1479 ((mwS_M hM W).K0) rfl rfl rfl rfl (by omega) (Nat.le_of_ble_eq_true rfl) (Nat.le_of_ble_eq_true rfl) (Nat.le_of_ble_eq_true rfl) ?_
    refine ww_aload_n dX11_readTwo_15 rfl rfl ?_
    refine ww_bipush (v := nI 44) dX11_readTwo_16 (by decide) ?_
    refine ww_cV0 (M := m_X11_readTwo) (pc := 18) (h1 := mrS (mwS h m W) m n (sk T n (a + 4)) (nI q5037) (nI k5037) (op + 1)) (st := []) (d := (d + 3)) (bc := 0) (bs := 0) (c_MR_sign_f hst (mwS_M hM W) (mwS_t (W := W) htf) hB hn (sk T n (a + 4)) (nI k5037) (op + 1) q5037 (by omega) 44) vv_X11_sign dX11_readTwo_18 wg_1467 ((mwS_M hM W).K0) rfl rfl rfl rfl (by omega) (Nat.le_of_ble_eq_true rfl) (Nat.le_of_ble_eq_true rfl) (Nat.le_of_ble_eq_true rfl) ?_
    refine ww_aload_n dX11_readTwo_21 rfl rfl ?_
    refine ww_cV0 (M := m_X11_readTwo) (pc := 22) (h1 := mrS (mwS h m W) m n (sk T n (a + 4)) (nI q5037) (nI k5037) (op + 1)) (st := []) (d := (d + 3)) (bc := 0) (bs := 0) (c_Mw_sum_f hst hM htf hB hn W (sk T n (a + 4)) (nI k5037) (op + 1) q5037 (by omega)) vv_X11_readSum dX11_readTwo_22 wg_1479 ((mwS_M hM W).K0) rfl rfl rfl rfl (by omega) (Nat.le_of_ble_eq_true rfl) (Nat.le_of_ble_eq_true rfl) (Nat.le_of_ble_eq_true rfl) ?_
    refine ww_aload_n dX11_readTwo_25 rfl rfl ?_
    refine ww_bipush (v := nI 93) dX11_readTwo_26 (by decide) ?_
    refine ww_cV0 (M := m_X11_readTwo) (pc := 28) (h1 := mrS (mwS h m W) m n (sk T n (a + 4)) (nI q5037) (nI k5037) (op + 1)) (st := []) (d := (d + 3)) (bc := 0) (bs := 0) (c_MR_sign_f hst (mwS_M hM W) (mwS_t (W := W) htf) hB hn (sk T n (a + 4)) (nI k5037) (op + 1) q5037 (by omega) 93) vv_X11_sign dX11_readTwo_28 wg_1467 ((mwS_M hM W).K0) rfl rfl rfl rfl (by omega) (Nat.le_of_ble_eq_true rfl) (Nat.le_of_ble_eq_true rfl) (Nat.le_of_ble_eq_true rfl) ?_
    refine ww_aload_n dX11_readTwo_31 rfl rfl ?_
    refine ww_dup dX11_readTwo_32 rfl ?_
    refine ww_get 7 dX11_readTwo_33 ((mwS_M hM W).K0) rfl (by decide) inX11 wg_1247 (mrS_7 _ _ _ _ _ _ _) ?_
    refine ww_iconst (v := nI 1) dX11_readTwo_36 (by decide) ?_
    refine ww_isubN dX11_readTwo_37 (by omega) ?_
    refine ww_pfI tyX11 7 dX11_readTwo_38 ((mwS_M hM W).K0) rfl (by decide) inX11 tyX11_ok nmX11 wg_1247 rfl rfl ?_
    refine ww_hp (h2 := mrS (mwS h m W) m n (sk T n (a + 4)) (nI q5037) (nI k5037) op) (mrS_s7 _ _ _ _ _ _ _ _) ?_
    refine ww_aload_n dX11_readTwo_41 rfl rfl ?_
    refine ww_iload_n dX11_readTwo_42 rfl rfl ?_
    refine ww_iconst (v := nI 0) dX11_readTwo_43 (by decide) ?_
    refine ww_cV0 (M := m_X11_readTwo) (pc := 44) (h1 := mrS (mwS h m W) m n (sk T n (a + 4)) (nI q5037) (nI k5037) op) (st := []) (d := (d + 3)) (bc := 0) (bs := 0) (c_Mw_emit_f hst hM htf hB hn W (sk T n (a + 4)) (nI k5037) op q5037 (by omega) (nI 7) (nI 0)) vv_X11_emit dX11_readTwo_44 wg_1495 ((mwS_M hM W).K0) rfl rfl rfl rfl (by omega) (Nat.le_of_ble_eq_true rfl) (Nat.le_of_ble_eq_true rfl) (Nat.le_of_ble_eq_true rfl) ?_
    exact ww_vret dX11_readTwo_47 rfl ⟨rfl, (by show MwO h m n bk op (bS (parS S T n (a + 4) L) _) _; unfold parS; rw [hr5037, bS_l]; rw [bS_l]; exact ⟨_, _, (by omega), rfl⟩)⟩
  · have hf5037 := sgnS_r hr5037
    have hg5037 := sk_ge (T := T) (show a + 4 ≤ n by omega)
    refine ww_cV0 (M := m_X11_readTwo) (pc := 8) (h1 := mrS (mwS h m W) m n a5037 (-1) bk (op + 1)) (st := []) (d := (d + 3)) (bc := 0) (bs := 0) (c_MR_sign_r hst (mwS_M hM W) (mwS_t (W := W) htf) hB hn (a + 4) bk (op + 1) (by omega) 91 (by omega) (by omega) hr5037) vv_X11_sign dX11_readTwo_8 wg_1467 ((mwS_M hM W).K0) rfl rfl rfl rfl (by omega) (Nat.le_of_ble_eq_true rfl) (Nat.le_of_ble_eq_true rfl) (Nat.le_of_ble_eq_true rfl) ?_
    refine ww_aload_n dX11_readTwo_11 rfl rfl ?_
    have hg5038 := hG a5037 L (by omega)
    refine ww_cVq0 (M := m_X11_readTwo) (pc := 12) (st := []) (d := (d + 3)) (bc := 0) (bs := 0) (hS a5037 L W (by omega) (by omega) hw) vv_X11_readSum dX11_readTwo_12 wg_1479 ((mwS_M hM W).K0) rfl rfl rfl rfl (by omega) (Nat.le_of_ble_eq_true rfl) (Nat.le_of_ble_eq_true rfl) (Nat.le_of_ble_eq_true rfl) (fun ho5038 qo5038 => ?_)
    rcases hr5038 : S a5037 L with ⟨k5038, q5038⟩ | ⟨a5038, L5038⟩
    · rw [hr5038] at qo5038
      obtain ⟨x5038, W5038, hx5038, rfl⟩ := qo5038
      have hf5038 := (hg5038).l hr5038
      refine ww_aload_n dX11_readTwo_15 rfl rfl ?_
      refine ww_bipush (v := nI 44) dX11_readTwo_16 (by decide) ?_
      refine ww_cV0 (M := m_X11_readTwo) (pc := 18) (h1 := mrS (mwS h m W5038) m n x5038 (nI q5038) (nI k5038) (op + 1)) (st := []) (d := (d + 3)) (bc := 0) (bs := 0) (c_MR_sign_f hst (mwS_M hM W5038) (mwS_t (W := W5038) htf) hB hn x5038 (nI k5038) (op + 1) q5038 (by omega) 44) vv_X11_sign dX11_readTwo_18 wg_1467 ((mwS_M hM W5038).K0) rfl rfl rfl rfl (by omega) (Nat.le_of_ble_eq_true rfl) (Nat.le_of_ble_eq_true rfl) (Nat.le_of_ble_eq_true rfl) ?_
      refine ww_aload_n dX11_readTwo_21 rfl rfl ?_
      refine ww_cV0 (M := m_X11_readTwo) (pc := 22) (h1 := mrS (mwS h m W5038) m n x5038 (nI q5038) (nI k5038) (op + 1)) (st := []) (d := (d + 3)) (bc := 0) (bs := 0) (c_Mw_sum_f hst hM htf hB hn W5038 x5038 (nI k5038) (op + 1) q5038 (by omega)) vv_X11_readSum dX11_readTwo_22 wg_1479 ((mwS_M hM W5038).K0) rfl rfl rfl rfl (by omega) (Nat.le_of_ble_eq_true rfl) (Nat.le_of_ble_eq_true rfl) (Nat.le_of_ble_eq_true rfl) ?_
      refine ww_aload_n dX11_readTwo_25 rfl rfl ?_
      refine ww_bipush (v := nI 93) dX11_readTwo_26 (by decide) ?_
      refine ww_cV0 (M := m_X11_readTwo) (pc := 28) (h1 := mrS (mwS h m W5038) m n x5038 (nI q5038) (nI k5038) (op + 1)) (st := []) (d := (d + 3)) (bc := 0) (bs := 0) (c_MR_sign_f hst (mwS_M hM W5038) (mwS_t (W := W5038) htf) hB hn x5038 (nI k5038) (op + 1) q5038 (by omega) 93) vv_X11_sign dX11_readTwo_28 wg_1467 ((mwS_M hM W5038).K0) rfl rfl rfl rfl (by omega) (Nat.le_of_ble_eq_true rfl) (Nat.le_of_ble_eq_true rfl) (Nat.le_of_ble_eq_true rfl) ?_
      refine ww_aload_n dX11_readTwo_31 rfl rfl ?_
      refine ww_dup dX11_readTwo_32 rfl ?_
      refine ww_get 7 dX11_readTwo_33 ((mwS_M hM W5038).K0) rfl (by decide) inX11 wg_1247 (mrS_7 _ _ _ _ _ _ _) ?_
      refine ww_iconst (v := nI 1) dX11_readTwo_36 (by decide) ?_
      refine ww_isubN dX11_readTwo_37 (by omega) ?_
      refine ww_pfI tyX11 7 dX11_readTwo_38 ((mwS_M hM W5038).K0) rfl (by decide) inX11 tyX11_ok nmX11 wg_1247 rfl rfl ?_
      refine ww_hp (h2 := mrS (mwS h m W5038) m n x5038 (nI q5038) (nI k5038) op) (mrS_s7 _ _ _ _ _ _ _ _) ?_
      refine ww_aload_n dX11_readTwo_41 rfl rfl ?_
      refine ww_iload_n dX11_readTwo_42 rfl rfl ?_
      refine ww_iconst (v := nI 0) dX11_readTwo_43 (by decide) ?_
      refine ww_cV0 (M := m_X11_readTwo) (pc := 44) (h1 := mrS (mwS h m W5038) m n x5038 (nI q5038) (nI k5038) op) (st := []) (d := (d + 3)) (bc := 0) (bs := 0) (c_Mw_emit_f hst hM htf hB hn W5038 x5038 (nI k5038) op q5038 (by omega) (nI 7) (nI 0)) vv_X11_emit dX11_readTwo_44 wg_1495 ((mwS_M hM W5038).K0) rfl rfl rfl rfl (by omega) (Nat.le_of_ble_eq_true rfl) (Nat.le_of_ble_eq_true rfl) (Nat.le_of_ble_eq_true rfl) ?_
      exact ww_vret dX11_readTwo_47 rfl ⟨rfl, (by show MwO h m n bk op (bS (parS S T n (a + 4) L) _) _; unfold parS; rw [hr5037, bS_r, hr5038, bS_l]; rw [bS_l]; exact ⟨_, _, (by omega), rfl⟩)⟩
    · rw [hr5038] at qo5038
      obtain ⟨W5038, hw5038, rfl⟩ := qo5038
      have hf5038 := (hg5038).r hr5038
      refine ww_aload_n dX11_readTwo_15 rfl rfl ?_
      refine ww_bipush (v := nI 44) dX11_readTwo_16 (by decide) ?_
      rcases hr5039 : sgnS T n 44 a5038 with ⟨k5039, q5039⟩ | ⟨a5039, u5039⟩
      · have hf5039 := (sgnS_l hr5039).1
        have hq5039 := sgnS_lq (by omega) hr5039
        have hsl5039 := sk_le (T := T) (show a5038 ≤ n by omega)
        refine ww_cV0 (M := m_X11_readTwo) (pc := 18) (h1 := mrS (mwS h m W5038) m n (sk T n a5038) (nI q5039) (nI k5039) (op + 1)) (st := []) (d := (d + 3)) (bc := 0) (bs := 0) (c_MR_sign_l hst (mwS_M hM W5038) (mwS_t (W := W5038) htf) hB hn a5038 bk (op + 1) (by omega) 44 (by omega) (by omega) hr5039) vv_X11_sign dX11_readTwo_18 wg_1467 ((mwS_M hM W5038).K0) rfl rfl rfl rfl (by omega) (Nat.le_of_ble_eq_true rfl) (Nat.le_of_ble_eq_true rfl) (Nat.le_of_ble_eq_true rfl) ?_
        refine ww_aload_n dX11_readTwo_21 rfl rfl ?_
        refine ww_cV0 (M := m_X11_readTwo) (pc := 22) (h1 := mrS (mwS h m W5038) m n (sk T n a5038) (nI q5039) (nI k5039) (op + 1)) (st := []) (d := (d + 3)) (bc := 0) (bs := 0) (c_Mw_sum_f hst hM htf hB hn W5038 (sk T n a5038) (nI k5039) (op + 1) q5039 (by omega)) vv_X11_readSum dX11_readTwo_22 wg_1479 ((mwS_M hM W5038).K0) rfl rfl rfl rfl (by omega) (Nat.le_of_ble_eq_true rfl) (Nat.le_of_ble_eq_true rfl) (Nat.le_of_ble_eq_true rfl) ?_
        refine ww_aload_n dX11_readTwo_25 rfl rfl ?_
        refine ww_bipush (v := nI 93) dX11_readTwo_26 (by decide) ?_
        refine ww_cV0 (M := m_X11_readTwo) (pc := 28) (h1 := mrS (mwS h m W5038) m n (sk T n a5038) (nI q5039) (nI k5039) (op + 1)) (st := []) (d := (d + 3)) (bc := 0) (bs := 0) (c_MR_sign_f hst (mwS_M hM W5038) (mwS_t (W := W5038) htf) hB hn (sk T n a5038) (nI k5039) (op + 1) q5039 (by omega) 93) vv_X11_sign dX11_readTwo_28 wg_1467 ((mwS_M hM W5038).K0) rfl rfl rfl rfl (by omega) (Nat.le_of_ble_eq_true rfl) (Nat.le_of_ble_eq_true rfl) (Nat.le_of_ble_eq_true rfl) ?_
        refine ww_aload_n dX11_readTwo_31 rfl rfl ?_
        refine ww_dup dX11_readTwo_32 rfl ?_
        refine ww_get 7 dX11_readTwo_33 ((mwS_M hM W5038).K0) rfl (by decide) inX11 wg_1247 (mrS_7 _ _ _ _ _ _ _) ?_
        refine ww_iconst (v := nI 1) dX11_readTwo_36 (by decide) ?_
        refine ww_isubN dX11_readTwo_37 (by omega) ?_
        refine ww_pfI tyX11 7 dX11_readTwo_38 ((mwS_M hM W5038).K0) rfl (by decide) inX11 tyX11_ok nmX11 wg_1247 rfl rfl ?_
        refine ww_hp (h2 := mrS (mwS h m W5038) m n (sk T n a5038) (nI q5039) (nI k5039) op) (mrS_s7 _ _ _ _ _ _ _ _) ?_
        refine ww_aload_n dX11_readTwo_41 rfl rfl ?_
        refine ww_iload_n dX11_readTwo_42 rfl rfl ?_
        refine ww_iconst (v := nI 0) dX11_readTwo_43 (by decide) ?_
        refine ww_cV0 (M := m_X11_readTwo) (pc := 44) (h1 := mrS (mwS h m W5038) m n (sk T n a5038) (nI q5039) (nI k5039) op) (st := []) (d := (d + 3)) (bc := 0) (bs := 0) (c_Mw_emit_f hst hM htf hB hn W5038 (sk T n a5038) (nI k5039) op q5039 (by omega) (nI 7) (nI 0)) vv_X11_emit dX11_readTwo_44 wg_1495 ((mwS_M hM W5038).K0) rfl rfl rfl rfl (by omega) (Nat.le_of_ble_eq_true rfl) (Nat.le_of_ble_eq_true rfl) (Nat.le_of_ble_eq_true rfl) ?_
        exact ww_vret dX11_readTwo_47 rfl ⟨rfl, (by show MwO h m n bk op (bS (parS S T n (a + 4) L) _) _; unfold parS; rw [hr5037, bS_r, hr5038, bS_r, hr5039, bS_l]; rw [bS_l]; exact ⟨_, _, (by omega), rfl⟩)⟩
      · have hf5039 := sgnS_r hr5039
        have hg5039 := sk_ge (T := T) (show a5038 ≤ n by omega)
        refine ww_cV0 (M := m_X11_readTwo) (pc := 18) (h1 := mrS (mwS h m W5038) m n a5039 (-1) bk (op + 1)) (st := []) (d := (d + 3)) (bc := 0) (bs := 0) (c_MR_sign_r hst (mwS_M hM W5038) (mwS_t (W := W5038) htf) hB hn a5038 bk (op + 1) (by omega) 44 (by omega) (by omega) hr5039) vv_X11_sign dX11_readTwo_18 wg_1467 ((mwS_M hM W5038).K0) rfl rfl rfl rfl (by omega) (Nat.le_of_ble_eq_true rfl) (Nat.le_of_ble_eq_true rfl) (Nat.le_of_ble_eq_true rfl) ?_
        refine ww_aload_n dX11_readTwo_21 rfl rfl ?_
        have hg5040 := hG a5039 L5038 (by omega)
        refine ww_cVq0 (M := m_X11_readTwo) (pc := 22) (st := []) (d := (d + 3)) (bc := 0) (bs := 0) (hS a5039 L5038 W5038 (by omega) (by omega) hw5038) vv_X11_readSum dX11_readTwo_22 wg_1479 ((mwS_M hM W5038).K0) rfl rfl rfl rfl (by omega) (Nat.le_of_ble_eq_true rfl) (Nat.le_of_ble_eq_true rfl) (Nat.le_of_ble_eq_true rfl) (fun ho5040 qo5040 => ?_)
        rcases hr5040 : S a5039 L5038 with ⟨k5040, q5040⟩ | ⟨a5040, L5040⟩
        · rw [hr5040] at qo5040
          obtain ⟨x5040, W5040, hx5040, rfl⟩ := qo5040
          have hf5040 := (hg5040).l hr5040
          refine ww_aload_n dX11_readTwo_25 rfl rfl ?_
          refine ww_bipush (v := nI 93) dX11_readTwo_26 (by decide) ?_
          refine ww_cV0 (M := m_X11_readTwo) (pc := 28) (h1 := mrS (mwS h m W5040) m n x5040 (nI q5040) (nI k5040) (op + 1)) (st := []) (d := (d + 3)) (bc := 0) (bs := 0) (c_MR_sign_f hst (mwS_M hM W5040) (mwS_t (W := W5040) htf) hB hn x5040 (nI k5040) (op + 1) q5040 (by omega) 93) vv_X11_sign dX11_readTwo_28 wg_1467 ((mwS_M hM W5040).K0) rfl rfl rfl rfl (by omega) (Nat.le_of_ble_eq_true rfl) (Nat.le_of_ble_eq_true rfl) (Nat.le_of_ble_eq_true rfl) ?_
          refine ww_aload_n dX11_readTwo_31 rfl rfl ?_
          refine ww_dup dX11_readTwo_32 rfl ?_
          refine ww_get 7 dX11_readTwo_33 ((mwS_M hM W5040).K0) rfl (by decide) inX11 wg_1247 (mrS_7 _ _ _ _ _ _ _) ?_
          refine ww_iconst (v := nI 1) dX11_readTwo_36 (by decide) ?_
          refine ww_isubN dX11_readTwo_37 (by omega) ?_
          refine ww_pfI tyX11 7 dX11_readTwo_38 ((mwS_M hM W5040).K0) rfl (by decide) inX11 tyX11_ok nmX11 wg_1247 rfl rfl ?_
          refine ww_hp (h2 := mrS (mwS h m W5040) m n x5040 (nI q5040) (nI k5040) op) (mrS_s7 _ _ _ _ _ _ _ _) ?_
          refine ww_aload_n dX11_readTwo_41 rfl rfl ?_
          refine ww_iload_n dX11_readTwo_42 rfl rfl ?_
          refine ww_iconst (v := nI 0) dX11_readTwo_43 (by decide) ?_
          refine ww_cV0 (M := m_X11_readTwo) (pc := 44) (h1 := mrS (mwS h m W5040) m n x5040 (nI q5040) (nI k5040) op) (st := []) (d := (d + 3)) (bc := 0) (bs := 0) (c_Mw_emit_f hst hM htf hB hn W5040 x5040 (nI k5040) op q5040 (by omega) (nI 7) (nI 0)) vv_X11_emit dX11_readTwo_44 wg_1495 ((mwS_M hM W5040).K0) rfl rfl rfl rfl (by omega) (Nat.le_of_ble_eq_true rfl) (Nat.le_of_ble_eq_true rfl) (Nat.le_of_ble_eq_true rfl) ?_
          exact ww_vret dX11_readTwo_47 rfl ⟨rfl, (by show MwO h m n bk op (bS (parS S T n (a + 4) L) _) _; unfold parS; rw [hr5037, bS_r, hr5038, bS_r, hr5039, bS_r, hr5040, bS_l]; rw [bS_l]; exact ⟨_, _, (by omega), rfl⟩)⟩
        · rw [hr5040] at qo5040
          obtain ⟨W5040, hw5040, rfl⟩ := qo5040
          have hf5040 := (hg5040).r hr5040
          refine ww_aload_n dX11_readTwo_25 rfl rfl ?_
          refine ww_bipush (v := nI 93) dX11_readTwo_26 (by decide) ?_
          rcases hr5041 : sgnS T n 93 a5040 with ⟨k5041, q5041⟩ | ⟨a5041, u5041⟩
          · have hf5041 := (sgnS_l hr5041).1
            have hq5041 := sgnS_lq (by omega) hr5041
            have hsl5041 := sk_le (T := T) (show a5040 ≤ n by omega)
            refine ww_cV0 (M := m_X11_readTwo) (pc := 28) (h1 := mrS (mwS h m W5040) m n (sk T n a5040) (nI q5041) (nI k5041) (op + 1)) (st := []) (d := (d + 3)) (bc := 0) (bs := 0) (c_MR_sign_l hst (mwS_M hM W5040) (mwS_t (W := W5040) htf) hB hn a5040 bk (op + 1) (by omega) 93 (by omega) (by omega) hr5041) vv_X11_sign dX11_readTwo_28 wg_1467 ((mwS_M hM W5040).K0) rfl rfl rfl rfl (by omega) (Nat.le_of_ble_eq_true rfl) (Nat.le_of_ble_eq_true rfl) (Nat.le_of_ble_eq_true rfl) ?_
            refine ww_aload_n dX11_readTwo_31 rfl rfl ?_
            refine ww_dup dX11_readTwo_32 rfl ?_
            refine ww_get 7 dX11_readTwo_33 ((mwS_M hM W5040).K0) rfl (by decide) inX11 wg_1247 (mrS_7 _ _ _ _ _ _ _) ?_
            refine ww_iconst (v := nI 1) dX11_readTwo_36 (by decide) ?_
            refine ww_isubN dX11_readTwo_37 (by omega) ?_
            refine ww_pfI tyX11 7 dX11_readTwo_38 ((mwS_M hM W5040).K0) rfl (by decide) inX11 tyX11_ok nmX11 wg_1247 rfl rfl ?_
            refine ww_hp (h2 := mrS (mwS h m W5040) m n (sk T n a5040) (nI q5041) (nI k5041) op) (mrS_s7 _ _ _ _ _ _ _ _) ?_
            refine ww_aload_n dX11_readTwo_41 rfl rfl ?_
            refine ww_iload_n dX11_readTwo_42 rfl rfl ?_
            refine ww_iconst (v := nI 0) dX11_readTwo_43 (by decide) ?_
            refine ww_cV0 (M := m_X11_readTwo) (pc := 44) (h1 := mrS (mwS h m W5040) m n (sk T n a5040) (nI q5041) (nI k5041) op) (st := []) (d := (d + 3)) (bc := 0) (bs := 0) (c_Mw_emit_f hst hM htf hB hn W5040 (sk T n a5040) (nI k5041) op q5041 (by omega) (nI 7) (nI 0)) vv_X11_emit dX11_readTwo_44 wg_1495 ((mwS_M hM W5040).K0) rfl rfl rfl rfl (by omega) (Nat.le_of_ble_eq_true rfl) (Nat.le_of_ble_eq_true rfl) (Nat.le_of_ble_eq_true rfl) ?_
            exact ww_vret dX11_readTwo_47 rfl ⟨rfl, (by show MwO h m n bk op (bS (parS S T n (a + 4) L) _) _; unfold parS; rw [hr5037, bS_r, hr5038, bS_r, hr5039, bS_r, hr5040, bS_r, hr5041, bS_l]; rw [bS_l]; exact ⟨_, _, (by omega), rfl⟩)⟩
          · have hf5041 := sgnS_r hr5041
            have hg5041 := sk_ge (T := T) (show a5040 ≤ n by omega)
            refine ww_cV0 (M := m_X11_readTwo) (pc := 28) (h1 := mrS (mwS h m W5040) m n a5041 (-1) bk (op + 1)) (st := []) (d := (d + 3)) (bc := 0) (bs := 0) (c_MR_sign_r hst (mwS_M hM W5040) (mwS_t (W := W5040) htf) hB hn a5040 bk (op + 1) (by omega) 93 (by omega) (by omega) hr5041) vv_X11_sign dX11_readTwo_28 wg_1467 ((mwS_M hM W5040).K0) rfl rfl rfl rfl (by omega) (Nat.le_of_ble_eq_true rfl) (Nat.le_of_ble_eq_true rfl) (Nat.le_of_ble_eq_true rfl) ?_
            refine ww_aload_n dX11_readTwo_31 rfl rfl ?_
            refine ww_dup dX11_readTwo_32 rfl ?_
            refine ww_get 7 dX11_readTwo_33 ((mwS_M hM W5040).K0) rfl (by decide) inX11 wg_1247 (mrS_7 _ _ _ _ _ _ _) ?_
            refine ww_iconst (v := nI 1) dX11_readTwo_36 (by decide) ?_
            refine ww_isubN dX11_readTwo_37 (by omega) ?_
            refine ww_pfI tyX11 7 dX11_readTwo_38 ((mwS_M hM W5040).K0) rfl (by decide) inX11 tyX11_ok nmX11 wg_1247 rfl rfl ?_
            refine ww_hp (h2 := mrS (mwS h m W5040) m n a5041 (-1) bk op) (mrS_s7 _ _ _ _ _ _ _ _) ?_
            refine ww_aload_n dX11_readTwo_41 rfl rfl ?_
            refine ww_iload_n dX11_readTwo_42 rfl rfl ?_
            refine ww_iconst (v := nI 0) dX11_readTwo_43 (by decide) ?_
            have hW5042 : W5040.1 = L5040.1 := hw5040.1
            have he5042 : (eL 8 0 L5040).1 = L5040.1 + 1 := rfl
            refine ww_cV0 (M := m_X11_readTwo) (pc := 44) (h1 := mrS (mwS h m (eL 7 0 W5040)) m n a5041 (-1) bk op) (st := []) (d := (d + 3)) (bc := 0) (bs := 0) (c_Mw_emit_t hst hM htf hB hn W5040 (by omega) a5041 bk op 7 0) vv_X11_emit dX11_readTwo_44 wg_1495 ((mwS_M hM W5040).K0) rfl rfl rfl rfl (by omega) (Nat.le_of_ble_eq_true rfl) (Nat.le_of_ble_eq_true rfl) (Nat.le_of_ble_eq_true rfl) ?_
            exact ww_vret dX11_readTwo_47 rfl ⟨rfl, (by show MwO h m n bk op (bS (parS S T n (a + 4) L) _) _; unfold parS; rw [hr5037, bS_r, hr5038, bS_r, hr5039, bS_r, hr5040, bS_r, hr5041, bS_r]; rw [bS_r]; exact ⟨_, (MwR.e hw5040 (k := 8) (by decide) 0), rfl⟩)⟩
