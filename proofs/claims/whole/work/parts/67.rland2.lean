theorem c_Rd_ahead_i {l : Launch} {Z : EE} (hst : l.stackTraces = false) {h : PH} {tf : Nat → Int32} (hR : RdK h tf) {T : Nat → Nat} (hB : BT tf T) {n : Nat} (hn : n ≤ 600) (k : Nat) (pl : Int32) (a : Nat) (ha : a ≤ n) (hl : sk T n a < n) : CC l Z m_X5_ahead 0 0 0 [.ref 1] (rdS h n a k pl) (RT (some (.int (nI (T (sk T n a))))) (rdS h n (sk T n a) k pl)) := by
  have h9 := c_Rd_ahead (Z := Z) hst hR hB hn k pl a ha
  rw [chI_in hl] at h9
  exact h9
theorem c_Rd_ahead_e {l : Launch} {Z : EE} (hst : l.stackTraces = false) {h : PH} {tf : Nat → Int32} (hR : RdK h tf) {T : Nat → Nat} (hB : BT tf T) {n : Nat} (hn : n ≤ 600) (k : Nat) (pl : Int32) (a : Nat) (ha : a ≤ n) (hl : ¬ sk T n a < n) : CC l Z m_X5_ahead 0 0 0 [.ref 1] (rdS h n a k pl) (RT (some (.int (-1))) (rdS h n n k pl)) := by
  have h9 := c_Rd_ahead (Z := Z) hst hR hB hn k pl a ha
  have h8 := sk_le (T := T) ha
  rw [chI_out hl, show sk T n a = n by omega] at h9
  exact h9
theorem ldS_i {T : Nat → Nat} {n c t : Nat} {s : LSt} {a : Nat} (hl : sk T n a < n) : ldS T n (c + 1) t s a = bS (clS T n t s (sk T n a)) (fun a1 s1 => ldS T n c (t + 1) s1 a1) := if_pos hl
theorem ldS_e {T : Nat → Nat} {n c t : Nat} {s : LSt} {a : Nat} (hl : ¬ sk T n a < n) : ldS T n (c + 1) t s a = .inr (sk T n a, s) := if_neg hl
set_option maxHeartbeats 4000000 in
set_option maxRecDepth 100000 in
theorem l_Ln_read_r {l : Launch} {Z : EE} (hst : l.stackTraces = false) {h : PH} {tf : Nat → Int32} (hR : RdK h tf) {T : Nat → Nat} (hB : BT tf T) {n : Nat} (hn : n ≤ 600) {b : Nat} (hb : LnK h b) {a9 : Nat} {s9 : LSt} : ∀ (c t : Nat) (s : LSt) (a : Nat), t + c = 61 → LsG s → a ≤ n → t ≤ 60 → ldS T n c t s a = .inr (a9, s9) → WW l Z m_X2_read 7 0 0 6 [.ref b, .ref 1, .int (nI t)] [] (rdS (lnS h b s.1 s.2.1 s.2.2) n a 0 (-1)) (RT (some (.int (nI 1))) (rdS (lnS h b s9.1 s9.2.1 s9.2.2) n n 0 (-1))) := by
  have hb3 := hb.2.2.2
  intro c
  induction c with
  | zero =>
    intro t s a ht hs ha htt hr
    omega
  | succ c ih =>
    intro t s a ht hs ha htt hr
    refine ww_iload_n dX2_read_6 rfl rfl ?_
    refine ww_bipush (v := nI 60) dX2_read_7 (by decide) ?_
    refine ww_icmp_gtN (tgt := 32) dX2_read_9 (by decide) (by omega) (by omega) (fun c9 => ?_) (fun c9 => ?_)
    · exfalso; omega
    · refine ww_aload_n dX2_read_12 rfl rfl ?_
      have hsl1 := sk_le (T := T) (show a ≤ n by omega)
      have hsg1 := sk_ge (T := T) (show a ≤ n by omega)
      have hsT1 := (hB (sk T n a)).2
      by_cases hl1 : sk T n a < n
      · refine ww_cVr (M := m_X2_read) (pc := 13) (v := .int (nI (T (sk T n a)))) (h1 := rdS (lnS h b s.1 s.2.1 s.2.2) n (sk T n a) 0 (-1)) (st := []) (d := 7) (bc := 0) (bs := 0) (c_Rd_ahead_i hst (hR.ln hb3 s.1 s.2.1 s.2.2) hB hn 0 (-1) a (by omega) hl1) vv_X5_ahead dX2_read_13 wg_489 ((hR.ln hb3 s.1 s.2.1 s.2.2).1) rfl rfl rfl rfl (Nat.le_of_ble_eq_true rfl) (Nat.le_of_ble_eq_true rfl) (Nat.le_of_ble_eq_true rfl) (Nat.le_of_ble_eq_true rfl) ?_
        refine ww_iconst (v := -1) dX2_read_16 (by decide) ?_
        refine ww_icmp_eq (tgt := 32) dX2_read_17 (by decide) (fun c17 => ?_) (fun c17 => ?_)
        · exact absurd c17 (nI_m1 (by omega))
        · refine ww_aload_n dX2_read_20 rfl rfl ?_
          refine ww_aload_n dX2_read_21 rfl rfl ?_
          refine ww_iload_n dX2_read_22 rfl rfl ?_
          refine ww_cVq0 (M := m_X2_read) (pc := 23) (st := []) (d := 7) (bc := 0) (bs := 0) (c_Ln_clause hst hR hB hn hb (sk T n a) (by omega) (sk_id (by omega)) t (by omega) (np := s.1) (du := s.2.1) (f := s.2.2) hs.1) vv_X2_readClause dX2_read_23 wg_493 hb.1 rfl rfl rfl rfl (Nat.le_of_ble_eq_true rfl) (Nat.le_of_ble_eq_true rfl) (Nat.le_of_ble_eq_true rfl) (Nat.le_of_ble_eq_true rfl) (fun ho2 qo2 => ?_)
          have e2 : (s.1, s.2.1, s.2.2) = s := rfl
          rw [e2] at qo2
          rcases hr2 : clS T n t s (sk T n a) with ⟨k2, q2⟩ | ⟨a2, s2⟩
          · rw [hr2] at qo2
            obtain ⟨s2, hz2, rfl⟩ := qo2
            have hf2 := clS_k hr2
            refine ww_incN (c := 1) (lv2 := [.ref b, .ref 1, .int (nI (t + 1))]) dX2_read_26 rfl rfl rfl (by decide) rfl ?_
            refine ww_goto (tgt := 6) dX2_read_29 (by decide) ?_
            refine ww_iload_n dX2_read_6 rfl rfl ?_
            refine ww_bipush (v := nI 60) dX2_read_7 (by decide) ?_
            refine ww_icmp_gtN (tgt := 32) dX2_read_9 (by decide) (by omega) (by omega) (fun c9 => ?_) (fun c9 => ?_)
            · refine ww_aload_n dX2_read_32 rfl rfl ?_
              refine ww_cVr (M := m_X2_read) (pc := 33) (v := .int (nI 0)) (h1 := rdS (lnS h b s2.1 s2.2.1 s2.2.2) n n k2 (nI q2)) (st := []) (d := 7) (bc := 0) (bs := 0) (c_Rd_finish_f hst (hR.ln hb3 s2.1 s2.2.1 s2.2.2) hB hn k2 (by omega) (by omega) (nI q2)) vv_X5_finish dX2_read_33 wg_580 ((hR.ln hb3 s2.1 s2.2.1 s2.2.2).1) rfl rfl rfl rfl (Nat.le_of_ble_eq_true rfl) (Nat.le_of_ble_eq_true rfl) (Nat.le_of_ble_eq_true rfl) (Nat.le_of_ble_eq_true rfl) ?_
              exact ww_zret dX2_read_36 rfl (by first | rfl | exact nar_bI _) (by exfalso; rw [ldS_i (by assumption), hr2, bS_l] at hr; cases hr)
            · refine ww_aload_n dX2_read_12 rfl rfl ?_
              refine ww_cVr (M := m_X2_read) (pc := 13) (v := .int (-1)) (h1 := rdS (lnS h b s2.1 s2.2.1 s2.2.2) n n k2 (nI q2)) (st := []) (d := 7) (bc := 0) (bs := 0) (c_Rd_ahead_f hst (hR.ln hb3 s2.1 s2.2.1 s2.2.2) hB hn k2 (by omega) (by omega) (nI q2)) vv_X5_ahead dX2_read_13 wg_489 ((hR.ln hb3 s2.1 s2.2.1 s2.2.2).1) rfl rfl rfl rfl (Nat.le_of_ble_eq_true rfl) (Nat.le_of_ble_eq_true rfl) (Nat.le_of_ble_eq_true rfl) (Nat.le_of_ble_eq_true rfl) ?_
              refine ww_iconst (v := -1) dX2_read_16 (by decide) ?_
              refine ww_icmp_eq (tgt := 32) dX2_read_17 (by decide) (fun c17 => ?_) (fun c17 => ?_)
              · refine ww_aload_n dX2_read_32 rfl rfl ?_
                refine ww_cVr (M := m_X2_read) (pc := 33) (v := .int (nI 0)) (h1 := rdS (lnS h b s2.1 s2.2.1 s2.2.2) n n k2 (nI q2)) (st := []) (d := 7) (bc := 0) (bs := 0) (c_Rd_finish_f hst (hR.ln hb3 s2.1 s2.2.1 s2.2.2) hB hn k2 (by omega) (by omega) (nI q2)) vv_X5_finish dX2_read_33 wg_580 ((hR.ln hb3 s2.1 s2.2.1 s2.2.2).1) rfl rfl rfl rfl (Nat.le_of_ble_eq_true rfl) (Nat.le_of_ble_eq_true rfl) (Nat.le_of_ble_eq_true rfl) (Nat.le_of_ble_eq_true rfl) ?_
                exact ww_zret dX2_read_36 rfl (by first | rfl | exact nar_bI _) (by exfalso; rw [ldS_i (by assumption), hr2, bS_l] at hr; cases hr)
              · exact absurd c17 (by decide)
          · rw [hr2] at qo2
            have qo2 : _ = _ := qo2
            subst qo2
            have hf2 := clS_G hs (by omega) hr2
            refine ww_incN (c := 1) (lv2 := [.ref b, .ref 1, .int (nI (t + 1))]) dX2_read_26 rfl rfl rfl (by decide) rfl ?_
            refine ww_goto (tgt := 6) dX2_read_29 (by decide) ?_
            rw [ldS_i (by assumption), hr2, bS_r] at hr
            exact ih (t + 1) s2 a2 (by omega) hf2.1 (by omega) (by omega) hr
      · refine ww_cVr (M := m_X2_read) (pc := 13) (v := .int (-1)) (h1 := rdS (lnS h b s.1 s.2.1 s.2.2) n n 0 (-1)) (st := []) (d := 7) (bc := 0) (bs := 0) (c_Rd_ahead_e hst (hR.ln hb3 s.1 s.2.1 s.2.2) hB hn 0 (-1) a (by omega) hl1) vv_X5_ahead dX2_read_13 wg_489 ((hR.ln hb3 s.1 s.2.1 s.2.2).1) rfl rfl rfl rfl (Nat.le_of_ble_eq_true rfl) (Nat.le_of_ble_eq_true rfl) (Nat.le_of_ble_eq_true rfl) (Nat.le_of_ble_eq_true rfl) ?_
        refine ww_iconst (v := -1) dX2_read_16 (by decide) ?_
        refine ww_icmp_eq (tgt := 32) dX2_read_17 (by decide) (fun c17 => ?_) (fun c17 => ?_)
        · refine ww_aload_n dX2_read_32 rfl rfl ?_
          refine ww_cVr (M := m_X2_read) (pc := 33) (v := .int (nI 1)) (h1 := rdS (lnS h b s.1 s.2.1 s.2.2) n n 0 (-1)) (st := []) (d := 7) (bc := 0) (bs := 0) (c_Rd_finish_t hst (hR.ln hb3 s.1 s.2.1 s.2.2) hB hn n (Nat.le_refl _) (sk_n T n)) vv_X5_finish dX2_read_33 wg_580 ((hR.ln hb3 s.1 s.2.1 s.2.2).1) rfl rfl rfl rfl (Nat.le_of_ble_eq_true rfl) (Nat.le_of_ble_eq_true rfl) (Nat.le_of_ble_eq_true rfl) (Nat.le_of_ble_eq_true rfl) ?_
          exact ww_zret dX2_read_36 rfl (by first | rfl | exact nar_bI _) ⟨rfl, (by rw [ldS_e (by assumption)] at hr; cases hr; rfl)⟩
        · exact absurd c17 (by decide)
set_option maxHeartbeats 4000000 in
set_option maxRecDepth 100000 in
theorem c_Ln_read_r {l : Launch} {Z : EE} (hst : l.stackTraces = false) {h : PH} {tf : Nat → Int32} (hR : RdK h tf) {T : Nat → Nat} (hB : BT tf T) {n : Nat} (hn : n ≤ 600) {b : Nat} (hb : LnK h b) {np du : Nat} {f : Nat → Int32} (hz : RowZ f) {a9 : Nat} {s9 : LSt} (hr : ldS T n 61 0 em0 0 = .inr (a9, s9)) : CC l Z m_X2_read 7 0 0 [.ref b, .ref 1] (rdS (lnS h b np du f) n 0 0 (-1)) (RT (some (.int (nI 1))) (rdS (lnS h b s9.1 s9.2.1 s9.2.2) n n 0 (-1))) := by
  refine ee_entry hst (by decide +kernel) rfl rfl (by simp [Value.category]) (Nat.le_of_ble_eq_true rfl) ?_
  refine ww_lv (lv2 := [.ref b, .ref 1, UU]) rfl ?_
  have hb3 := hb.2.2.2
  refine ww_aload_n dX2_read_0 rfl rfl ?_
  refine ww_cV0 (M := m_X2_read) (pc := 1) (h1 := rdS (lnS h b 0 2 emF) n 0 0 (-1)) (st := []) (d := 7) (bc := 0) (bs := 0) (c_Ln_empty hst hR hB hn hb hz 0 0 (-1)) vv_X2_empty dX2_read_1 wg_70 hb.1 rfl rfl rfl rfl (Nat.le_of_ble_eq_true rfl) (Nat.le_of_ble_eq_true rfl) (Nat.le_of_ble_eq_true rfl) (Nat.le_of_ble_eq_true rfl) ?_
  refine ww_iconst (v := nI 0) dX2_read_4 (by decide) ?_
  refine ww_sti_n (lv2 := [.ref b, .ref 1, .int (nI 0)]) dX2_read_5 rfl rfl (by decide) rfl ?_
  exact l_Ln_read_r hst hR hB hn hb 61 0 em0 0 (by omega) em0_G (by omega) (by omega) hr
set_option maxHeartbeats 4000000 in
set_option maxRecDepth 100000 in
theorem l_Ln_read_l {l : Launch} {Z : EE} (hst : l.stackTraces = false) {h : PH} {tf : Nat → Int32} (hR : RdK h tf) {T : Nat → Nat} (hB : BT tf T) {n : Nat} (hn : n ≤ 600) {b : Nat} (hb : LnK h b) {k9 q9 : Nat} : ∀ (c t : Nat) (s : LSt) (a : Nat), t + c = 61 → LsG s → a ≤ n → t ≤ 60 → ldS T n c t s a = .inl (k9, q9) → WW l Z m_X2_read 7 0 0 6 [.ref b, .ref 1, .int (nI t)] [] (rdS (lnS h b s.1 s.2.1 s.2.2) n a 0 (-1)) (RQ (some (.int (nI 0))) (fun h9 => ∃ s9 : LSt, LsI s9 ∧ h9 = rdS (lnS h b s9.1 s9.2.1 s9.2.2) n n k9 (nI q9))) := by
  have hb3 := hb.2.2.2
  intro c
  induction c with
  | zero =>
    intro t s a ht hs ha htt hr
    omega
  | succ c ih =>
    intro t s a ht hs ha htt hr
    refine ww_iload_n dX2_read_6 rfl rfl ?_
    refine ww_bipush (v := nI 60) dX2_read_7 (by decide) ?_
    refine ww_icmp_gtN (tgt := 32) dX2_read_9 (by decide) (by omega) (by omega) (fun c9 => ?_) (fun c9 => ?_)
    · exfalso; omega
    · refine ww_aload_n dX2_read_12 rfl rfl ?_
      have hsl3 := sk_le (T := T) (show a ≤ n by omega)
      have hsg3 := sk_ge (T := T) (show a ≤ n by omega)
      have hsT3 := (hB (sk T n a)).2
      by_cases hl3 : sk T n a < n
      · refine ww_cVr (M := m_X2_read) (pc := 13) (v := .int (nI (T (sk T n a)))) (h1 := rdS (lnS h b s.1 s.2.1 s.2.2) n (sk T n a) 0 (-1)) (st := []) (d := 7) (bc := 0) (bs := 0) (c_Rd_ahead_i hst (hR.ln hb3 s.1 s.2.1 s.2.2) hB hn 0 (-1) a (by omega) hl3) vv_X5_ahead dX2_read_13 wg_489 ((hR.ln hb3 s.1 s.2.1 s.2.2).1) rfl rfl rfl rfl (Nat.le_of_ble_eq_true rfl) (Nat.le_of_ble_eq_true rfl) (Nat.le_of_ble_eq_true rfl) (Nat.le_of_ble_eq_true rfl) ?_
        refine ww_iconst (v := -1) dX2_read_16 (by decide) ?_
        refine ww_icmp_eq (tgt := 32) dX2_read_17 (by decide) (fun c17 => ?_) (fun c17 => ?_)
        · exact absurd c17 (nI_m1 (by omega))
        · refine ww_aload_n dX2_read_20 rfl rfl ?_
          refine ww_aload_n dX2_read_21 rfl rfl ?_
          refine ww_iload_n dX2_read_22 rfl rfl ?_
          refine ww_cVq0 (M := m_X2_read) (pc := 23) (st := []) (d := 7) (bc := 0) (bs := 0) (c_Ln_clause hst hR hB hn hb (sk T n a) (by omega) (sk_id (by omega)) t (by omega) (np := s.1) (du := s.2.1) (f := s.2.2) hs.1) vv_X2_readClause dX2_read_23 wg_493 hb.1 rfl rfl rfl rfl (Nat.le_of_ble_eq_true rfl) (Nat.le_of_ble_eq_true rfl) (Nat.le_of_ble_eq_true rfl) (Nat.le_of_ble_eq_true rfl) (fun ho4 qo4 => ?_)
          have e4 : (s.1, s.2.1, s.2.2) = s := rfl
          rw [e4] at qo4
          rcases hr4 : clS T n t s (sk T n a) with ⟨k4, q4⟩ | ⟨a4, s4⟩
          · rw [hr4] at qo4
            obtain ⟨s4, hz4, rfl⟩ := qo4
            have hf4 := clS_k hr4
            refine ww_incN (c := 1) (lv2 := [.ref b, .ref 1, .int (nI (t + 1))]) dX2_read_26 rfl rfl rfl (by decide) rfl ?_
            refine ww_goto (tgt := 6) dX2_read_29 (by decide) ?_
            refine ww_iload_n dX2_read_6 rfl rfl ?_
            refine ww_bipush (v := nI 60) dX2_read_7 (by decide) ?_
            refine ww_icmp_gtN (tgt := 32) dX2_read_9 (by decide) (by omega) (by omega) (fun c9 => ?_) (fun c9 => ?_)
            · refine ww_aload_n dX2_read_32 rfl rfl ?_
              refine ww_cVr (M := m_X2_read) (pc := 33) (v := .int (nI 0)) (h1 := rdS (lnS h b s4.1 s4.2.1 s4.2.2) n n k4 (nI q4)) (st := []) (d := 7) (bc := 0) (bs := 0) (c_Rd_finish_f hst (hR.ln hb3 s4.1 s4.2.1 s4.2.2) hB hn k4 (by omega) (by omega) (nI q4)) vv_X5_finish dX2_read_33 wg_580 ((hR.ln hb3 s4.1 s4.2.1 s4.2.2).1) rfl rfl rfl rfl (Nat.le_of_ble_eq_true rfl) (Nat.le_of_ble_eq_true rfl) (Nat.le_of_ble_eq_true rfl) (Nat.le_of_ble_eq_true rfl) ?_
              exact ww_zret dX2_read_36 rfl (by first | rfl | exact nar_bI _) ⟨rfl, (by rw [ldS_i (by assumption), hr4, bS_l] at hr; cases hr; exact ⟨s4, hz4, rfl⟩)⟩
            · refine ww_aload_n dX2_read_12 rfl rfl ?_
              refine ww_cVr (M := m_X2_read) (pc := 13) (v := .int (-1)) (h1 := rdS (lnS h b s4.1 s4.2.1 s4.2.2) n n k4 (nI q4)) (st := []) (d := 7) (bc := 0) (bs := 0) (c_Rd_ahead_f hst (hR.ln hb3 s4.1 s4.2.1 s4.2.2) hB hn k4 (by omega) (by omega) (nI q4)) vv_X5_ahead dX2_read_13 wg_489 ((hR.ln hb3 s4.1 s4.2.1 s4.2.2).1) rfl rfl rfl rfl (Nat.le_of_ble_eq_true rfl) (Nat.le_of_ble_eq_true rfl) (Nat.le_of_ble_eq_true rfl) (Nat.le_of_ble_eq_true rfl) ?_
              refine ww_iconst (v := -1) dX2_read_16 (by decide) ?_
              refine ww_icmp_eq (tgt := 32) dX2_read_17 (by decide) (fun c17 => ?_) (fun c17 => ?_)
              · refine ww_aload_n dX2_read_32 rfl rfl ?_
                refine ww_cVr (M := m_X2_read) (pc := 33) (v := .int (nI 0)) (h1 := rdS (lnS h b s4.1 s4.2.1 s4.2.2) n n k4 (nI q4)) (st := []) (d := 7) (bc := 0) (bs := 0) (c_Rd_finish_f hst (hR.ln hb3 s4.1 s4.2.1 s4.2.2) hB hn k4 (by omega) (by omega) (nI q4)) vv_X5_finish dX2_read_33 wg_580 ((hR.ln hb3 s4.1 s4.2.1 s4.2.2).1) rfl rfl rfl rfl (Nat.le_of_ble_eq_true rfl) (Nat.le_of_ble_eq_true rfl) (Nat.le_of_ble_eq_true rfl) (Nat.le_of_ble_eq_true rfl) ?_
                exact ww_zret dX2_read_36 rfl (by first | rfl | exact nar_bI _) ⟨rfl, (by rw [ldS_i (by assumption), hr4, bS_l] at hr; cases hr; exact ⟨s4, hz4, rfl⟩)⟩
              · exact absurd c17 (by decide)
          · rw [hr4] at qo4
            have qo4 : _ = _ := qo4
            subst qo4
            have hf4 := clS_G hs (by omega) hr4
            refine ww_incN (c := 1) (lv2 := [.ref b, .ref 1, .int (nI (t + 1))]) dX2_read_26 rfl rfl rfl (by decide) rfl ?_
            refine ww_goto (tgt := 6) dX2_read_29 (by decide) ?_
            rw [ldS_i (by assumption), hr4, bS_r] at hr
            exact ih (t + 1) s4 a4 (by omega) hf4.1 (by omega) (by omega) hr
      · refine ww_cVr (M := m_X2_read) (pc := 13) (v := .int (-1)) (h1 := rdS (lnS h b s.1 s.2.1 s.2.2) n n 0 (-1)) (st := []) (d := 7) (bc := 0) (bs := 0) (c_Rd_ahead_e hst (hR.ln hb3 s.1 s.2.1 s.2.2) hB hn 0 (-1) a (by omega) hl3) vv_X5_ahead dX2_read_13 wg_489 ((hR.ln hb3 s.1 s.2.1 s.2.2).1) rfl rfl rfl rfl (Nat.le_of_ble_eq_true rfl) (Nat.le_of_ble_eq_true rfl) (Nat.le_of_ble_eq_true rfl) (Nat.le_of_ble_eq_true rfl) ?_
        refine ww_iconst (v := -1) dX2_read_16 (by decide) ?_
        refine ww_icmp_eq (tgt := 32) dX2_read_17 (by decide) (fun c17 => ?_) (fun c17 => ?_)
        · refine ww_aload_n dX2_read_32 rfl rfl ?_
          refine ww_cVr (M := m_X2_read) (pc := 33) (v := .int (nI 1)) (h1 := rdS (lnS h b s.1 s.2.1 s.2.2) n n 0 (-1)) (st := []) (d := 7) (bc := 0) (bs := 0) (c_Rd_finish_t hst (hR.ln hb3 s.1 s.2.1 s.2.2) hB hn n (Nat.le_refl _) (sk_n T n)) vv_X5_finish dX2_read_33 wg_580 ((hR.ln hb3 s.1 s.2.1 s.2.2).1) rfl rfl rfl rfl (Nat.le_of_ble_eq_true rfl) (Nat.le_of_ble_eq_true rfl) (Nat.le_of_ble_eq_true rfl) (Nat.le_of_ble_eq_true rfl) ?_
          exact ww_zret dX2_read_36 rfl (by first | rfl | exact nar_bI _) (by exfalso; rw [ldS_e (by assumption)] at hr; cases hr)
        · exact absurd c17 (by decide)
set_option maxHeartbeats 4000000 in
set_option maxRecDepth 100000 in
theorem c_Ln_read_l {l : Launch} {Z : EE} (hst : l.stackTraces = false) {h : PH} {tf : Nat → Int32} (hR : RdK h tf) {T : Nat → Nat} (hB : BT tf T) {n : Nat} (hn : n ≤ 600) {b : Nat} (hb : LnK h b) {np du : Nat} {f : Nat → Int32} (hz : RowZ f) {k9 q9 : Nat} (hr : ldS T n 61 0 em0 0 = .inl (k9, q9)) : CC l Z m_X2_read 7 0 0 [.ref b, .ref 1] (rdS (lnS h b np du f) n 0 0 (-1)) (RQ (some (.int (nI 0))) (fun h9 => ∃ s9 : LSt, LsI s9 ∧ h9 = rdS (lnS h b s9.1 s9.2.1 s9.2.2) n n k9 (nI q9))) := by
  refine ee_entry hst (by decide +kernel) rfl rfl (by simp [Value.category]) (Nat.le_of_ble_eq_true rfl) ?_
  refine ww_lv (lv2 := [.ref b, .ref 1, UU]) rfl ?_
  have hb3 := hb.2.2.2
  refine ww_aload_n dX2_read_0 rfl rfl ?_
  refine ww_cV0 (M := m_X2_read) (pc := 1) (h1 := rdS (lnS h b 0 2 emF) n 0 0 (-1)) (st := []) (d := 7) (bc := 0) (bs := 0) (c_Ln_empty hst hR hB hn hb hz 0 0 (-1)) vv_X2_empty dX2_read_1 wg_70 hb.1 rfl rfl rfl rfl (Nat.le_of_ble_eq_true rfl) (Nat.le_of_ble_eq_true rfl) (Nat.le_of_ble_eq_true rfl) (Nat.le_of_ble_eq_true rfl) ?_
  refine ww_iconst (v := nI 0) dX2_read_4 (by decide) ?_
  refine ww_sti_n (lv2 := [.ref b, .ref 1, .int (nI 0)]) dX2_read_5 rfl rfl (by decide) rfl ?_
  exact l_Ln_read_l hst hR hB hn hb 61 0 em0 0 (by omega) em0_G (by omega) (by omega) hr
