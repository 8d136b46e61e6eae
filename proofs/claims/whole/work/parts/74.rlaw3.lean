theorem fdW_end {T : Nat → Nat} {a : Nat} : ∀ (W : List (List Nat)) (k : Nat), (∀ w ∈ W, w ≠ []) → fdW T a a W k = none
  | [], _, _ => rfl
  | w :: ws, k, h => by
    have hw : ¬ eqW w T a a = true := fun e => by
      have e1 := eqW_le e
      have e2 := List.length_pos_iff.mpr (h w List.mem_cons_self)
      omega
    show (if eqW w T a a = true then some k else fdW T a a ws (k + 1)) = none
    rw [if_neg hw]
    exact fdW_end ws (k + 1) (fun x hx => h x (List.mem_cons_of_mem _ hx))
theorem wrd_end {W : List (List Nat)} (hW : ∀ w ∈ W, w ≠ []) (T : Nat → Nat) (n : Nat) : wrdS W T n n = .inl (1, n) := by
  unfold wrdS
  rw [sk_n, sc_stop (by omega), fdW_end W 0 hW]
theorem sgn_at {T : Nat → Nat} {n a c : Nat} (ha : a ≤ n) (h : sk T n a < n) (hc : T (sk T n a) = c) : sgnS T n c (sk T n a) = .inr (sk T n a + 1, ()) := by unfold sgnS; rw [sk_id ha, if_pos ⟨h, hc⟩]
theorem unitF_d {o : Option (Nat → LWt → PR LWt)} {T : Nat → Nat} {n a : Nat} {L : LWt} (h1 : sk T n a < n) (h2 : 48 ≤ T (sk T n a)) (h3 : T (sk T n a) ≤ 57) : unitF o T n a L = bS (figS T n 0 1000 (sk T n a)) (fun a1 v => .inr (a1, eL 0 v L)) := if_pos ⟨h1, dgB_t.mpr ⟨h2, h3⟩⟩
theorem unitF_p {o : Option (Nat → LWt → PR LWt)} {T : Nat → Nat} {n a : Nat} {L : LWt} (h1 : sk T n a < n) (h2 : T (sk T n a) = 40) : unitF o T n a L = (match o with
    | none => .inl (3, sk T n a)
    | some S => bS (S (sk T n a + 1) L) (fun a1 L1 => bS (sgnS T n 41 a1) (fun a2 _ => .inr (a2, L1)))) := by
  unfold unitF
  rw [if_neg (fun e => by have e9 := dgB_t.mp e.2; omega), if_pos ⟨h1, h2⟩]
  cases o <;> rfl
theorem unitF_w {o : Option (Nat → LWt → PR LWt)} {T : Nat → Nat} {n a : Nat} {L : LWt} (h : sk T n a < n → ¬ (48 ≤ T (sk T n a) ∧ T (sk T n a) ≤ 57) ∧ ¬ T (sk T n a) = 40) : unitF o T n a L = bS (wrdS wLaw T n (sk T n a)) (fun a1 w => if 7 ≤ w then (match o with
    | none => .inl (3, sk T n a)
    | some S => bS (parS S T n a1 L) (fun a6 L5 => .inr (a6, eL w 0 L5))) else .inr (a1, eL 1 w L)) := by
  unfold unitF
  rw [if_neg (fun e => (h e.1).1 (dgB_t.mp e.2)), if_neg (fun e => (h e.1).2 e.2)]
  cases o <;> rfl
set_option maxHeartbeats 4000000 in
set_option maxRecDepth 100000 in
theorem l_Lw_prod {l : Launch} {Z : EE} (hst : l.stackTraces = false) {h : PH} {tf : Nat → Int32} (hR : RdK h tf) {T : Nat → Nat} (hB : BT tf T) {n : Nat} (hn : n ≤ 600) {b : Nat} (hb : LwK h b) (hn5 : n ≤ 150) {d : Nat} (hd6 : 6 ≤ d) (o : Nat) {U : Nat} {unit : Nat → LWt → PR LWt} (hG : GoodU n U unit) (hU : ∀ (a : Nat) (L : LWt), a ≤ n → L.1 ≤ a → CC l Z m_X3_readUnit d 0 0 [.ref b, .ref 1, .int (nI o)] (rdS (lwS h b L) n a 0 (-1)) (RQ none (LwO h b n (unit a L)))) : ∀ (j i a : Nat) (L : LWt), i + j = 150 → a ≤ n → L.1 ≤ a → WW l Z m_X3_readProduct (d + 1) 0 0 8 [.ref b, .ref 1, .int (nI o), .int (nI i), UU] [] (rdS (lwS h b L) n a 0 (-1)) (RQ none (LwO h b n (prdL isP opP unit T n j a L))) := by
  have hb3 := hb.2.2.2.2.2
  intro j
  induction j with
  | zero =>
    intro i a L hi ha hL
    refine ww_iload_n dX3_readProduct_8 rfl rfl ?_
    refine ww_sipush (v := nI 150) dX3_readProduct_9 (by decide) ?_
    refine ww_icmp_geN (tgt := 90) dX3_readProduct_12 (by decide) (by omega) (by omega) (fun c12 => ?_) (fun c12 => ?_)
    · exact ww_vret dX3_readProduct_90 rfl ⟨rfl, rfl⟩
    · exfalso; omega
  | succ j ih =>
    intro i a L hi ha hL
    refine ww_iload_n dX3_readProduct_8 rfl rfl ?_
    refine ww_sipush (v := nI 150) dX3_readProduct_9 (by decide) ?_
    refine ww_icmp_geN (tgt := 90) dX3_readProduct_12 (by decide) (by omega) (by omega) (fun c12 => ?_) (fun c12 => ?_)
    · exfalso; omega
    · refine ww_aload_n dX3_readProduct_15 rfl rfl ?_
      have hsl1 := sk_le (T := T) (show a ≤ n by omega)
      have hsg1 := sk_ge (T := T) (show a ≤ n by omega)
      have hsT1 := (hB (sk T n a)).2
      by_cases hl1 : sk T n a < n
      · refine ww_cVr (M := m_X3_readProduct) (pc := 16) (v := .int (nI (T (sk T n a)))) (h1 := rdS (lwS h b L) n (sk T n a) 0 (-1)) (st := []) (d := d + 1) (bc := 0) (bs := 0) (c_Rd_ahead_i hst (hR.lw hb3 L) hB hn 0 (-1) a (by omega) hl1) vv_X5_ahead dX3_readProduct_16 wg_620 ((hR.lw hb3 L).1) rfl rfl rfl rfl (by omega) (Nat.le_of_ble_eq_true rfl) (Nat.le_of_ble_eq_true rfl) (Nat.le_of_ble_eq_true rfl) ?_
        refine ww_sti (lv2 := [.ref b, .ref 1, .int (nI o), .int (nI i), .int (nI (T (sk T n a)))]) dX3_readProduct_19 rfl (by decide) rfl ?_
        refine ww_iload dX3_readProduct_21 rfl ?_
        refine ww_bipush (v := nI 42) dX3_readProduct_23 (by decide) ?_
        refine ww_icmp_eqN (tgt := 43) dX3_readProduct_25 (by decide) (by omega) (by omega) (fun c25 => ?_) (fun c25 => ?_)
        · refine ww_aload_n dX3_readProduct_43 rfl rfl ?_
          refine ww_iload dX3_readProduct_44 rfl ?_
          refine ww_cV0 (M := m_X3_readProduct) (pc := 46) (h1 := rdS (lwS h b L) n (sk T n a + 1) 0 (-1)) (st := []) (d := d + 1) (bc := 0) (bs := 0) (c_Rd_sign_r hst (hR.lw hb3 L) hB hn (sk T n a) (by omega) (T (sk T n a)) (by omega) (sgn_here (a := a) (by omega) (by assumption))) vv_X5_sign dX3_readProduct_46 wg_630 ((hR.lw hb3 L).1) rfl rfl rfl rfl (by omega) (Nat.le_of_ble_eq_true rfl) (Nat.le_of_ble_eq_true rfl) (Nat.le_of_ble_eq_true rfl) ?_
          refine ww_aload_n dX3_readProduct_49 rfl rfl ?_
          refine ww_aload_n dX3_readProduct_50 rfl rfl ?_
          refine ww_iload_n dX3_readProduct_51 rfl rfl ?_
          have hg2 := hG (sk T n a + 1) L (by omega)
          refine ww_cVq0 (M := m_X3_readProduct) (pc := 52) (st := []) (d := d + 1) (bc := 0) (bs := 0) (hU (sk T n a + 1) L (by omega) (by omega)) vv_X3_readUnit dX3_readProduct_52 wg_616 hb.1 rfl rfl rfl rfl (by omega) (Nat.le_of_ble_eq_true rfl) (Nat.le_of_ble_eq_true rfl) (Nat.le_of_ble_eq_true rfl) (fun ho2 qo2 => ?_)
          rcases hr2 : unit (sk T n a + 1) L with ⟨k2, q2⟩ | ⟨a2, L2⟩
          · rw [hr2] at qo2
            obtain ⟨L2, hL2, rfl⟩ := qo2
            have hf2 := (hg2).l hr2
            refine ww_aload_n dX3_readProduct_55 rfl rfl ?_
            refine ww_iload dX3_readProduct_56 rfl ?_
            refine ww_bipush (v := nI 42) dX3_readProduct_58 (by decide) ?_
            refine ww_icmp_neN (tgt := 67) dX3_readProduct_60 (by decide) (by omega) (by omega) (fun c60 => ?_) (fun c60 => ?_)
            · refine ww_iload dX3_readProduct_67 rfl ?_
              refine ww_bipush (v := nI 47) dX3_readProduct_69 (by decide) ?_
              refine ww_icmp_neN (tgt := 78) dX3_readProduct_71 (by decide) (by omega) (by omega) (fun c71 => ?_) (fun c71 => ?_)
              · refine ww_bipush (v := nI 6) dX3_readProduct_78 (by decide) ?_
                refine ww_iconst (v := nI 0) dX3_readProduct_80 (by decide) ?_
                refine ww_cVq0 (M := m_X3_readProduct) (pc := 81) (st := []) (d := d + 1) (bc := 0) (bs := 0) (c_Lw_add_f hst hR hB hn hb n k2 (nI q2) L2 (by omega) 6 0) vv_X3_add dX3_readProduct_81 wg_622 hb.1 rfl rfl rfl rfl (by omega) (Nat.le_of_ble_eq_true rfl) (Nat.le_of_ble_eq_true rfl) (Nat.le_of_ble_eq_true rfl) (fun ha3 qa3 => ?_)
                obtain ⟨M3, hM3, rfl⟩ := qa3
                refine ww_incN (c := 1) (lv2 := [.ref b, .ref 1, .int (nI o), .int (nI (i + 1)), .int (nI (T (sk T n a)))]) dX3_readProduct_84 rfl rfl rfl (by decide) rfl ?_
                refine ww_goto (tgt := 8) dX3_readProduct_87 (by decide) ?_
                refine ww_iload_n dX3_readProduct_8 rfl rfl ?_
                refine ww_sipush (v := nI 150) dX3_readProduct_9 (by decide) ?_
                refine ww_icmp_geN (tgt := 90) dX3_readProduct_12 (by decide) (by omega) (by omega) (fun c12 => ?_) (fun c12 => ?_)
                · exact ww_vret dX3_readProduct_90 rfl ⟨rfl, (by rw [prdL_i (by assumption) (isP_t.mpr (by omega)), hr2, bS_l]; exact ⟨_, (by assumption), rfl⟩)⟩
                · refine ww_aload_n dX3_readProduct_15 rfl rfl ?_
                  refine ww_cVr (M := m_X3_readProduct) (pc := 16) (v := .int (-1)) (h1 := rdS (lwS h b M3) n n k2 (nI q2)) (st := []) (d := d + 1) (bc := 0) (bs := 0) (c_Rd_ahead_f hst (hR.lw hb3 M3) hB hn k2 (by omega) (by omega) (nI q2)) vv_X5_ahead dX3_readProduct_16 wg_620 ((hR.lw hb3 M3).1) rfl rfl rfl rfl (by omega) (Nat.le_of_ble_eq_true rfl) (Nat.le_of_ble_eq_true rfl) (Nat.le_of_ble_eq_true rfl) ?_
                  refine ww_sti (lv2 := [.ref b, .ref 1, .int (nI o), .int (nI (i + 1)), .int (-1)]) dX3_readProduct_19 rfl (by decide) rfl ?_
                  refine ww_iload dX3_readProduct_21 rfl ?_
                  refine ww_bipush (v := nI 42) dX3_readProduct_23 (by decide) ?_
                  refine ww_icmp_eq (tgt := 43) dX3_readProduct_25 (by decide) (fun c25 => ?_) (fun c25 => ?_)
                  · exact absurd c25 (by decide)
                  · refine ww_iload dX3_readProduct_28 rfl ?_
                    refine ww_bipush (v := nI 47) dX3_readProduct_30 (by decide) ?_
                    refine ww_icmp_eq (tgt := 43) dX3_readProduct_32 (by decide) (fun c32 => ?_) (fun c32 => ?_)
                    · exact absurd c32 (by decide)
                    · refine ww_iload dX3_readProduct_35 rfl ?_
                      refine ww_bipush (v := nI 37) dX3_readProduct_37 (by decide) ?_
                      refine ww_icmp_eq (tgt := 43) dX3_readProduct_39 (by decide) (fun c39 => ?_) (fun c39 => ?_)
                      · exact absurd c39 (by decide)
                      · exact ww_vret dX3_readProduct_42 rfl ⟨rfl, (by rw [prdL_i (by assumption) (isP_t.mpr (by omega)), hr2, bS_l]; exact ⟨_, (by assumption), rfl⟩)⟩
              · refine ww_iconst (v := nI 5) dX3_readProduct_74 (by decide) ?_
                refine ww_goto (tgt := 80) dX3_readProduct_75 (by decide) ?_
                refine ww_iconst (v := nI 0) dX3_readProduct_80 (by decide) ?_
                refine ww_cVq0 (M := m_X3_readProduct) (pc := 81) (st := []) (d := d + 1) (bc := 0) (bs := 0) (c_Lw_add_f hst hR hB hn hb n k2 (nI q2) L2 (by omega) 5 0) vv_X3_add dX3_readProduct_81 wg_622 hb.1 rfl rfl rfl rfl (by omega) (Nat.le_of_ble_eq_true rfl) (Nat.le_of_ble_eq_true rfl) (Nat.le_of_ble_eq_true rfl) (fun ha4 qa4 => ?_)
                obtain ⟨M4, hM4, rfl⟩ := qa4
                refine ww_incN (c := 1) (lv2 := [.ref b, .ref 1, .int (nI o), .int (nI (i + 1)), .int (nI (T (sk T n a)))]) dX3_readProduct_84 rfl rfl rfl (by decide) rfl ?_
                refine ww_goto (tgt := 8) dX3_readProduct_87 (by decide) ?_
                refine ww_iload_n dX3_readProduct_8 rfl rfl ?_
                refine ww_sipush (v := nI 150) dX3_readProduct_9 (by decide) ?_
                refine ww_icmp_geN (tgt := 90) dX3_readProduct_12 (by decide) (by omega) (by omega) (fun c12 => ?_) (fun c12 => ?_)
                · exact ww_vret dX3_readProduct_90 rfl ⟨rfl, (by rw [prdL_i (by assumption) (isP_t.mpr (by omega)), hr2, bS_l]; exact ⟨_, (by assumption), rfl⟩)⟩
                · refine ww_aload_n dX3_readProduct_15 rfl rfl ?_
                  refine ww_cVr (M := m_X3_readProduct) (pc := 16) (v := .int (-1)) (h1 := rdS (lwS h b M4) n n k2 (nI q2)) (st := []) (d := d + 1) (bc := 0) (bs := 0) (c_Rd_ahead_f hst (hR.lw hb3 M4) hB hn k2 (by omega) (by omega) (nI q2)) vv_X5_ahead dX3_readProduct_16 wg_620 ((hR.lw hb3 M4).1) rfl rfl rfl rfl (by omega) (Nat.le_of_ble_eq_true rfl) (Nat.le_of_ble_eq_true rfl) (Nat.le_of_ble_eq_true rfl) ?_
                  refine ww_sti (lv2 := [.ref b, .ref 1, .int (nI o), .int (nI (i + 1)), .int (-1)]) dX3_readProduct_19 rfl (by decide) rfl ?_
                  refine ww_iload dX3_readProduct_21 rfl ?_
                  refine ww_bipush (v := nI 42) dX3_readProduct_23 (by decide) ?_
                  refine ww_icmp_eq (tgt := 43) dX3_readProduct_25 (by decide) (fun c25 => ?_) (fun c25 => ?_)
                  · exact absurd c25 (by decide)
                  · refine ww_iload dX3_readProduct_28 rfl ?_
                    refine ww_bipush (v := nI 47) dX3_readProduct_30 (by decide) ?_
                    refine ww_icmp_eq (tgt := 43) dX3_readProduct_32 (by decide) (fun c32 => ?_) (fun c32 => ?_)
                    · exact absurd c32 (by decide)
                    · refine ww_iload dX3_readProduct_35 rfl ?_
                      refine ww_bipush (v := nI 37) dX3_readProduct_37 (by decide) ?_
                      refine ww_icmp_eq (tgt := 43) dX3_readProduct_39 (by decide) (fun c39 => ?_) (fun c39 => ?_)
                      · exact absurd c39 (by decide)
                      · exact ww_vret dX3_readProduct_42 rfl ⟨rfl, (by rw [prdL_i (by assumption) (isP_t.mpr (by omega)), hr2, bS_l]; exact ⟨_, (by assumption), rfl⟩)⟩
            · refine ww_iconst (v := nI 4) dX3_readProduct_63 (by decide) ?_
              refine ww_goto (tgt := 80) dX3_readProduct_64 (by decide) ?_
              refine ww_iconst (v := nI 0) dX3_readProduct_80 (by decide) ?_
              refine ww_cVq0 (M := m_X3_readProduct) (pc := 81) (st := []) (d := d + 1) (bc := 0) (bs := 0) (c_Lw_add_f hst hR hB hn hb n k2 (nI q2) L2 (by omega) 4 0) vv_X3_add dX3_readProduct_81 wg_622 hb.1 rfl rfl rfl rfl (by omega) (Nat.le_of_ble_eq_true rfl) (Nat.le_of_ble_eq_true rfl) (Nat.le_of_ble_eq_true rfl) (fun ha5 qa5 => ?_)
              obtain ⟨M5, hM5, rfl⟩ := qa5
              refine ww_incN (c := 1) (lv2 := [.ref b, .ref 1, .int (nI o), .int (nI (i + 1)), .int (nI (T (sk T n a)))]) dX3_readProduct_84 rfl rfl rfl (by decide) rfl ?_
              refine ww_goto (tgt := 8) dX3_readProduct_87 (by decide) ?_
              refine ww_iload_n dX3_readProduct_8 rfl rfl ?_
              refine ww_sipush (v := nI 150) dX3_readProduct_9 (by decide) ?_
              refine ww_icmp_geN (tgt := 90) dX3_readProduct_12 (by decide) (by omega) (by omega) (fun c12 => ?_) (fun c12 => ?_)
              · exact ww_vret dX3_readProduct_90 rfl ⟨rfl, (by rw [prdL_i (by assumption) (isP_t.mpr (by omega)), hr2, bS_l]; exact ⟨_, (by assumption), rfl⟩)⟩
              · refine ww_aload_n dX3_readProduct_15 rfl rfl ?_
                refine ww_cVr (M := m_X3_readProduct) (pc := 16) (v := .int (-1)) (h1 := rdS (lwS h b M5) n n k2 (nI q2)) (st := []) (d := d + 1) (bc := 0) (bs := 0) (c_Rd_ahead_f hst (hR.lw hb3 M5) hB hn k2 (by omega) (by omega) (nI q2)) vv_X5_ahead dX3_readProduct_16 wg_620 ((hR.lw hb3 M5).1) rfl rfl rfl rfl (by omega) (Nat.le_of_ble_eq_true rfl) (Nat.le_of_ble_eq_true rfl) (Nat.le_of_ble_eq_true rfl) ?_
                refine ww_sti (lv2 := [.ref b, .ref 1, .int (nI o), .int (nI (i + 1)), .int (-1)]) dX3_readProduct_19 rfl (by decide) rfl ?_
                refine ww_iload dX3_readProduct_21 rfl ?_
                refine ww_bipush (v := nI 42) dX3_readProduct_23 (by decide) ?_
                refine ww_icmp_eq (tgt := 43) dX3_readProduct_25 (by decide) (fun c25 => ?_) (fun c25 => ?_)
                · exact absurd c25 (by decide)
                · refine ww_iload dX3_readProduct_28 rfl ?_
                  refine ww_bipush (v := nI 47) dX3_readProduct_30 (by decide) ?_
                  refine ww_icmp_eq (tgt := 43) dX3_readProduct_32 (by decide) (fun c32 => ?_) (fun c32 => ?_)
                  · exact absurd c32 (by decide)
                  · refine ww_iload dX3_readProduct_35 rfl ?_
                    refine ww_bipush (v := nI 37) dX3_readProduct_37 (by decide) ?_
                    refine ww_icmp_eq (tgt := 43) dX3_readProduct_39 (by decide) (fun c39 => ?_) (fun c39 => ?_)
                    · exact absurd c39 (by decide)
                    · exact ww_vret dX3_readProduct_42 rfl ⟨rfl, (by rw [prdL_i (by assumption) (isP_t.mpr (by omega)), hr2, bS_l]; exact ⟨_, (by assumption), rfl⟩)⟩
          · rw [hr2] at qo2
            have qo2 : _ = _ := qo2
            subst qo2
            have hf2 := (hg2).r hr2
            refine ww_aload_n dX3_readProduct_55 rfl rfl ?_
            refine ww_iload dX3_readProduct_56 rfl ?_
            refine ww_bipush (v := nI 42) dX3_readProduct_58 (by decide) ?_
            refine ww_icmp_neN (tgt := 67) dX3_readProduct_60 (by decide) (by omega) (by omega) (fun c60 => ?_) (fun c60 => ?_)
            · refine ww_iload dX3_readProduct_67 rfl ?_
              refine ww_bipush (v := nI 47) dX3_readProduct_69 (by decide) ?_
              refine ww_icmp_neN (tgt := 78) dX3_readProduct_71 (by decide) (by omega) (by omega) (fun c71 => ?_) (fun c71 => ?_)
              · refine ww_bipush (v := nI 6) dX3_readProduct_78 (by decide) ?_
                refine ww_iconst (v := nI 0) dX3_readProduct_80 (by decide) ?_
                have he5 : (eL 6 0 L2).1 = L2.1 + 1 := rfl
                refine ww_cV0 (M := m_X3_readProduct) (pc := 81) (h1 := rdS (lwS h b (eL 6 0 L2)) n a2 0 (-1)) (st := []) (d := d + 1) (bc := 0) (bs := 0) (c_Lw_add hst hR hB hn hb a2 0 (-1) L2 (by omega) 6 0) vv_X3_add dX3_readProduct_81 wg_622 hb.1 rfl rfl rfl rfl (by omega) (Nat.le_of_ble_eq_true rfl) (Nat.le_of_ble_eq_true rfl) (Nat.le_of_ble_eq_true rfl) ?_
                refine ww_incN (c := 1) (lv2 := [.ref b, .ref 1, .int (nI o), .int (nI (i + 1)), .int (nI (T (sk T n a)))]) dX3_readProduct_84 rfl rfl rfl (by decide) rfl ?_
                refine ww_goto (tgt := 8) dX3_readProduct_87 (by decide) ?_
                rw [prdL_i (by assumption) (isP_t.mpr (by omega)), hr2, bS_r, show opP (T (sk T n a)) = 6 from by unfold opP; first | (exfalso; omega) | rw [if_pos (by omega)] | rw [if_neg (by omega), if_pos (by omega)] | rw [if_neg (by omega), if_neg (by omega)] | rw [if_neg (by omega)]]
                refine ww_fg (lv2 := [.ref b, .ref 1, .int (nI o), .int (nI (i + 1)), UU]) ⟨Or.inr rfl, Or.inr rfl, Or.inr rfl, Or.inr rfl, Or.inl rfl, trivial⟩ ?_
                exact ih (i + 1) a2 (eL 6 0 L2) (by omega) (by omega) (by omega)
              · refine ww_iconst (v := nI 5) dX3_readProduct_74 (by decide) ?_
                refine ww_goto (tgt := 80) dX3_readProduct_75 (by decide) ?_
                refine ww_iconst (v := nI 0) dX3_readProduct_80 (by decide) ?_
                have he6 : (eL 5 0 L2).1 = L2.1 + 1 := rfl
                refine ww_cV0 (M := m_X3_readProduct) (pc := 81) (h1 := rdS (lwS h b (eL 5 0 L2)) n a2 0 (-1)) (st := []) (d := d + 1) (bc := 0) (bs := 0) (c_Lw_add hst hR hB hn hb a2 0 (-1) L2 (by omega) 5 0) vv_X3_add dX3_readProduct_81 wg_622 hb.1 rfl rfl rfl rfl (by omega) (Nat.le_of_ble_eq_true rfl) (Nat.le_of_ble_eq_true rfl) (Nat.le_of_ble_eq_true rfl) ?_
                refine ww_incN (c := 1) (lv2 := [.ref b, .ref 1, .int (nI o), .int (nI (i + 1)), .int (nI (T (sk T n a)))]) dX3_readProduct_84 rfl rfl rfl (by decide) rfl ?_
                refine ww_goto (tgt := 8) dX3_readProduct_87 (by decide) ?_
                rw [prdL_i (by assumption) (isP_t.mpr (by omega)), hr2, bS_r, show opP (T (sk T n a)) = 5 from by unfold opP; first | (exfalso; omega) | rw [if_pos (by omega)] | rw [if_neg (by omega), if_pos (by omega)] | rw [if_neg (by omega), if_neg (by omega)] | rw [if_neg (by omega)]]
                refine ww_fg (lv2 := [.ref b, .ref 1, .int (nI o), .int (nI (i + 1)), UU]) ⟨Or.inr rfl, Or.inr rfl, Or.inr rfl, Or.inr rfl, Or.inl rfl, trivial⟩ ?_
                exact ih (i + 1) a2 (eL 5 0 L2) (by omega) (by omega) (by omega)
            · refine ww_iconst (v := nI 4) dX3_readProduct_63 (by decide) ?_
              refine ww_goto (tgt := 80) dX3_readProduct_64 (by decide) ?_
              refine ww_iconst (v := nI 0) dX3_readProduct_80 (by decide) ?_
              have he7 : (eL 4 0 L2).1 = L2.1 + 1 := rfl
              refine ww_cV0 (M := m_X3_readProduct) (pc := 81) (h1 := rdS (lwS h b (eL 4 0 L2)) n a2 0 (-1)) (st := []) (d := d + 1) (bc := 0) (bs := 0) (c_Lw_add hst hR hB hn hb a2 0 (-1) L2 (by omega) 4 0) vv_X3_add dX3_readProduct_81 wg_622 hb.1 rfl rfl rfl rfl (by omega) (Nat.le_of_ble_eq_true rfl) (Nat.le_of_ble_eq_true rfl) (Nat.le_of_ble_eq_true rfl) ?_
              refine ww_incN (c := 1) (lv2 := [.ref b, .ref 1, .int (nI o), .int (nI (i + 1)), .int (nI (T (sk T n a)))]) dX3_readProduct_84 rfl rfl rfl (by decide) rfl ?_
              refine ww_goto (tgt := 8) dX3_readProduct_87 (by decide) ?_
              rw [prdL_i (by assumption) (isP_t.mpr (by omega)), hr2, bS_r, show opP (T (sk T n a)) = 4 from by unfold opP; first | (exfalso; omega) | rw [if_pos (by omega)] | rw [if_neg (by omega), if_pos (by omega)] | rw [if_neg (by omega), if_neg (by omega)] | rw [if_neg (by omega)]]
              refine ww_fg (lv2 := [.ref b, .ref 1, .int (nI o), .int (nI (i + 1)), UU]) ⟨Or.inr rfl, Or.inr rfl, Or.inr rfl, Or.inr rfl, Or.inl rfl, trivial⟩ ?_
              exact ih (i + 1) a2 (eL 4 0 L2) (by omega) (by omega) (by omega)
        · refine ww_iload dX3_readProduct_28 rfl ?_
          refine ww_bipush (v := nI 47) dX3_readProduct_30 (by decide) ?_
          refine ww_icmp_eqN (tgt := 43) dX3_readProduct_32 (by decide) (by omega) (by omega) (fun c32 => ?_) (fun c32 => ?_)
          · refine ww_aload_n dX3_readProduct_43 rfl rfl ?_
            refine ww_iload dX3_readProduct_44 rfl ?_
            refine ww_cV0 (M := m_X3_readProduct) (pc := 46) (h1 := rdS (lwS h b L) n (sk T n a + 1) 0 (-1)) (st := []) (d := d + 1) (bc := 0) (bs := 0) (c_Rd_sign_r hst (hR.lw hb3 L) hB hn (sk T n a) (by omega) (T (sk T n a)) (by omega) (sgn_here (a := a) (by omega) (by assumption))) vv_X5_sign dX3_readProduct_46 wg_630 ((hR.lw hb3 L).1) rfl rfl rfl rfl (by omega) (Nat.le_of_ble_eq_true rfl) (Nat.le_of_ble_eq_true rfl) (Nat.le_of_ble_eq_true rfl) ?_
            refine ww_aload_n dX3_readProduct_49 rfl rfl ?_
            refine ww_aload_n dX3_readProduct_50 rfl rfl ?_
            refine ww_iload_n dX3_readProduct_51 rfl rfl ?_
            have hg9 := hG (sk T n a + 1) L (by omega)
            refine ww_cVq0 (M := m_X3_readProduct) (pc := 52) (st := []) (d := d + 1) (bc := 0) (bs := 0) (hU (sk T n a + 1) L (by omega) (by omega)) vv_X3_readUnit dX3_readProduct_52 wg_616 hb.1 rfl rfl rfl rfl (by omega) (Nat.le_of_ble_eq_true rfl) (Nat.le_of_ble_eq_true rfl) (Nat.le_of_ble_eq_true rfl) (fun ho9 qo9 => ?_)
            rcases hr9 : unit (sk T n a + 1) L with ⟨k9, q9⟩ | ⟨a9, L9⟩
            · rw [hr9] at qo9
              obtain ⟨L9, hL9, rfl⟩ := qo9
              have hf9 := (hg9).l hr9
              refine ww_aload_n dX3_readProduct_55 rfl rfl ?_
              refine ww_iload dX3_readProduct_56 rfl ?_
              refine ww_bipush (v := nI 42) dX3_readProduct_58 (by decide) ?_
              refine ww_icmp_neN (tgt := 67) dX3_readProduct_60 (by decide) (by omega) (by omega) (fun c60 => ?_) (fun c60 => ?_)
              · refine ww_iload dX3_readProduct_67 rfl ?_
                refine ww_bipush (v := nI 47) dX3_readProduct_69 (by decide) ?_
                refine ww_icmp_neN (tgt := 78) dX3_readProduct_71 (by decide) (by omega) (by omega) (fun c71 => ?_) (fun c71 => ?_)
                · refine ww_bipush (v := nI 6) dX3_readProduct_78 (by decide) ?_
                  refine ww_iconst (v := nI 0) dX3_readProduct_80 (by decide) ?_
                  refine ww_cVq0 (M := m_X3_readProduct) (pc := 81) (st := []) (d := d + 1) (bc := 0) (bs := 0) (c_Lw_add_f hst hR hB hn hb n k9 (nI q9) L9 (by omega) 6 0) vv_X3_add dX3_readProduct_81 wg_622 hb.1 rfl rfl rfl rfl (by omega) (Nat.le_of_ble_eq_true rfl) (Nat.le_of_ble_eq_true rfl) (Nat.le_of_ble_eq_true rfl) (fun ha10 qa10 => ?_)
                  obtain ⟨M10, hM10, rfl⟩ := qa10
                  refine ww_incN (c := 1) (lv2 := [.ref b, .ref 1, .int (nI o), .int (nI (i + 1)), .int (nI (T (sk T n a)))]) dX3_readProduct_84 rfl rfl rfl (by decide) rfl ?_
                  refine ww_goto (tgt := 8) dX3_readProduct_87 (by decide) ?_
                  refine ww_iload_n dX3_readProduct_8 rfl rfl ?_
                  refine ww_sipush (v := nI 150) dX3_readProduct_9 (by decide) ?_
                  refine ww_icmp_geN (tgt := 90) dX3_readProduct_12 (by decide) (by omega) (by omega) (fun c12 => ?_) (fun c12 => ?_)
                  · exact ww_vret dX3_readProduct_90 rfl ⟨rfl, (by rw [prdL_i (by assumption) (isP_t.mpr (by omega)), hr9, bS_l]; exact ⟨_, (by assumption), rfl⟩)⟩
                  · refine ww_aload_n dX3_readProduct_15 rfl rfl ?_
                    refine ww_cVr (M := m_X3_readProduct) (pc := 16) (v := .int (-1)) (h1 := rdS (lwS h b M10) n n k9 (nI q9)) (st := []) (d := d + 1) (bc := 0) (bs := 0) (c_Rd_ahead_f hst (hR.lw hb3 M10) hB hn k9 (by omega) (by omega) (nI q9)) vv_X5_ahead dX3_readProduct_16 wg_620 ((hR.lw hb3 M10).1) rfl rfl rfl rfl (by omega) (Nat.le_of_ble_eq_true rfl) (Nat.le_of_ble_eq_true rfl) (Nat.le_of_ble_eq_true rfl) ?_
                    refine ww_sti (lv2 := [.ref b, .ref 1, .int (nI o), .int (nI (i + 1)), .int (-1)]) dX3_readProduct_19 rfl (by decide) rfl ?_
                    refine ww_iload dX3_readProduct_21 rfl ?_
                    refine ww_bipush (v := nI 42) dX3_readProduct_23 (by decide) ?_
                    refine ww_icmp_eq (tgt := 43) dX3_readProduct_25 (by decide) (fun c25 => ?_) (fun c25 => ?_)
                    · exact absurd c25 (by decide)
                    · refine ww_iload dX3_readProduct_28 rfl ?_
                      refine ww_bipush (v := nI 47) dX3_readProduct_30 (by decide) ?_
                      refine ww_icmp_eq (tgt := 43) dX3_readProduct_32 (by decide) (fun c32 => ?_) (fun c32 => ?_)
                      · exact absurd c32 (by decide)
                      · refine ww_iload dX3_readProduct_35 rfl ?_
                        refine ww_bipush (v := nI 37) dX3_readProduct_37 (by decide) ?_
                        refine ww_icmp_eq (tgt := 43) dX3_readProduct_39 (by decide) (fun c39 => ?_) (fun c39 => ?_)
                        · exact absurd c39 (by decide)
                        · exact ww_vret dX3_readProduct_42 rfl ⟨rfl, (by rw [prdL_i (by assumption) (isP_t.mpr (by omega)), hr9, bS_l]; exact ⟨_, (by assumption), rfl⟩)⟩
                · refine ww_iconst (v := nI 5) dX3_readProduct_74 (by decide) ?_
                  refine ww_goto (tgt := 80) dX3_readProduct_75 (by decide) ?_
                  refine ww_iconst (v := nI 0) dX3_readProduct_80 (by decide) ?_
                  refine ww_cVq0 (M := m_X3_readProduct) (pc := 81) (st := []) (d := d + 1) (bc := 0) (bs := 0) (c_Lw_add_f hst hR hB hn hb n k9 (nI q9) L9 (by omega) 5 0) vv_X3_add dX3_readProduct_81 wg_622 hb.1 rfl rfl rfl rfl (by omega) (Nat.le_of_ble_eq_true rfl) (Nat.le_of_ble_eq_true rfl) (Nat.le_of_ble_eq_true rfl) (fun ha11 qa11 => ?_)
                  obtain ⟨M11, hM11, rfl⟩ := qa11
                  refine ww_incN (c := 1) (lv2 := [.ref b, .ref 1, .int (nI o), .int (nI (i + 1)), .int (nI (T (sk T n a)))]) dX3_readProduct_84 rfl rfl rfl (by decide) rfl ?_
                  refine ww_goto (tgt := 8) dX3_readProduct_87 (by decide) ?_
                  refine ww_iload_n dX3_readProduct_8 rfl rfl ?_
                  refine ww_sipush (v := nI 150) dX3_readProduct_9 (by decide) ?_
                  refine ww_icmp_geN (tgt := 90) dX3_readProduct_12 (by decide) (by omega) (by omega) (fun c12 => ?_) (fun c12 => ?_)
                  · exact ww_vret dX3_readProduct_90 rfl ⟨rfl, (by rw [prdL_i (by assumption) (isP_t.mpr (by omega)), hr9, bS_l]; exact ⟨_, (by assumption), rfl⟩)⟩
                  · refine ww_aload_n dX3_readProduct_15 rfl rfl ?_
                    refine ww_cVr (M := m_X3_readProduct) (pc := 16) (v := .int (-1)) (h1 := rdS (lwS h b M11) n n k9 (nI q9)) (st := []) (d := d + 1) (bc := 0) (bs := 0) (c_Rd_ahead_f hst (hR.lw hb3 M11) hB hn k9 (by omega) (by omega) (nI q9)) vv_X5_ahead dX3_readProduct_16 wg_620 ((hR.lw hb3 M11).1) rfl rfl rfl rfl (by omega) (Nat.le_of_ble_eq_true rfl) (Nat.le_of_ble_eq_true rfl) (Nat.le_of_ble_eq_true rfl) ?_
                    refine ww_sti (lv2 := [.ref b, .ref 1, .int (nI o), .int (nI (i + 1)), .int (-1)]) dX3_readProduct_19 rfl (by decide) rfl ?_
                    refine ww_iload dX3_readProduct_21 rfl ?_
                    refine ww_bipush (v := nI 42) dX3_readProduct_23 (by decide) ?_
                    refine ww_icmp_eq (tgt := 43) dX3_readProduct_25 (by decide) (fun c25 => ?_) (fun c25 => ?_)
                    · exact absurd c25 (by decide)
                    · refine ww_iload dX3_readProduct_28 rfl ?_
                      refine ww_bipush (v := nI 47) dX3_readProduct_30 (by decide) ?_
                      refine ww_icmp_eq (tgt := 43) dX3_readProduct_32 (by decide) (fun c32 => ?_) (fun c32 => ?_)
                      · exact absurd c32 (by decide)
                      · refine ww_iload dX3_readProduct_35 rfl ?_
                        refine ww_bipush (v := nI 37) dX3_readProduct_37 (by decide) ?_
                        refine ww_icmp_eq (tgt := 43) dX3_readProduct_39 (by decide) (fun c39 => ?_) (fun c39 => ?_)
                        · exact absurd c39 (by decide)
                        · exact ww_vret dX3_readProduct_42 rfl ⟨rfl, (by rw [prdL_i (by assumption) (isP_t.mpr (by omega)), hr9, bS_l]; exact ⟨_, (by assumption), rfl⟩)⟩
              · refine ww_iconst (v := nI 4) dX3_readProduct_63 (by decide) ?_
                refine ww_goto (tgt := 80) dX3_readProduct_64 (by decide) ?_
                refine ww_iconst (v := nI 0) dX3_readProduct_80 (by decide) ?_
                refine ww_cVq0 (M := m_X3_readProduct) (pc := 81) (st := []) (d := d + 1) (bc := 0) (bs := 0) (c_Lw_add_f hst hR hB hn hb n k9 (nI q9) L9 (by omega) 4 0) vv_X3_add dX3_readProduct_81 wg_622 hb.1 rfl rfl rfl rfl (by omega) (Nat.le_of_ble_eq_true rfl) (Nat.le_of_ble_eq_true rfl) (Nat.le_of_ble_eq_true rfl) (fun ha12 qa12 => ?_)
                obtain ⟨M12, hM12, rfl⟩ := qa12
                refine ww_incN (c := 1) (lv2 := [.ref b, .ref 1, .int (nI o), .int (nI (i + 1)), .int (nI (T (sk T n a)))]) dX3_readProduct_84 rfl rfl rfl (by decide) rfl ?_
                refine ww_goto (tgt := 8) dX3_readProduct_87 (by decide) ?_
                refine ww_iload_n dX3_readProduct_8 rfl rfl ?_
                refine ww_sipush (v := nI 150) dX3_readProduct_9 (by decide) ?_
                refine ww_icmp_geN (tgt := 90) dX3_readProduct_12 (by decide) (by omega) (by omega) (fun c12 => ?_) (fun c12 => ?_)
                · exact ww_vret dX3_readProduct_90 rfl ⟨rfl, (by rw [prdL_i (by assumption) (isP_t.mpr (by omega)), hr9, bS_l]; exact ⟨_, (by assumption), rfl⟩)⟩
                · refine ww_aload_n dX3_readProduct_15 rfl rfl ?_
                  refine ww_cVr (M := m_X3_readProduct) (pc := 16) (v := .int (-1)) (h1 := rdS (lwS h b M12) n n k9 (nI q9)) (st := []) (d := d + 1) (bc := 0) (bs := 0) (c_Rd_ahead_f hst (hR.lw hb3 M12) hB hn k9 (by omega) (by omega) (nI q9)) vv_X5_ahead dX3_readProduct_16 wg_620 ((hR.lw hb3 M12).1) rfl rfl rfl rfl (by omega) (Nat.le_of_ble_eq_true rfl) (Nat.le_of_ble_eq_true rfl) (Nat.le_of_ble_eq_true rfl) ?_
                  refine ww_sti (lv2 := [.ref b, .ref 1, .int (nI o), .int (nI (i + 1)), .int (-1)]) dX3_readProduct_19 rfl (by decide) rfl ?_
                  refine ww_iload dX3_readProduct_21 rfl ?_
                  refine ww_bipush (v := nI 42) dX3_readProduct_23 (by decide) ?_
                  refine ww_icmp_eq (tgt := 43) dX3_readProduct_25 (by decide) (fun c25 => ?_) (fun c25 => ?_)
                  · exact absurd c25 (by decide)
                  · refine ww_iload dX3_readProduct_28 rfl ?_
                    refine ww_bipush (v := nI 47) dX3_readProduct_30 (by decide) ?_
                    refine ww_icmp_eq (tgt := 43) dX3_readProduct_32 (by decide) (fun c32 => ?_) (fun c32 => ?_)
                    · exact absurd c32 (by decide)
                    · refine ww_iload dX3_readProduct_35 rfl ?_
                      refine ww_bipush (v := nI 37) dX3_readProduct_37 (by decide) ?_
                      refine ww_icmp_eq (tgt := 43) dX3_readProduct_39 (by decide) (fun c39 => ?_) (fun c39 => ?_)
                      · exact absurd c39 (by decide)
                      · exact ww_vret dX3_readProduct_42 rfl ⟨rfl, (by rw [prdL_i (by assumption) (isP_t.mpr (by omega)), hr9, bS_l]; exact ⟨_, (by assumption), rfl⟩)⟩
            · rw [hr9] at qo9
              have qo9 : _ = _ := qo9
              subst qo9
              have hf9 := (hg9).r hr9
              refine ww_aload_n dX3_readProduct_55 rfl rfl ?_
              refine ww_iload dX3_readProduct_56 rfl ?_
              refine ww_bipush (v := nI 42) dX3_readProduct_58 (by decide) ?_
              refine ww_icmp_neN (tgt := 67) dX3_readProduct_60 (by decide) (by omega) (by omega) (fun c60 => ?_) (fun c60 => ?_)
              · refine ww_iload dX3_readProduct_67 rfl ?_
                refine ww_bipush (v := nI 47) dX3_readProduct_69 (by decide) ?_
                refine ww_icmp_neN (tgt := 78) dX3_readProduct_71 (by decide) (by omega) (by omega) (fun c71 => ?_) (fun c71 => ?_)
                · refine ww_bipush (v := nI 6) dX3_readProduct_78 (by decide) ?_
                  refine ww_iconst (v := nI 0) dX3_readProduct_80 (by decide) ?_
                  have he12 : (eL 6 0 L9).1 = L9.1 + 1 := rfl
                  refine ww_cV0 (M := m_X3_readProduct) (pc := 81) (h1 := rdS (lwS h b (eL 6 0 L9)) n a9 0 (-1)) (st := []) (d := d + 1) (bc := 0) (bs := 0) (c_Lw_add hst hR hB hn hb a9 0 (-1) L9 (by omega) 6 0) vv_X3_add dX3_readProduct_81 wg_622 hb.1 rfl rfl rfl rfl (by omega) (Nat.le_of_ble_eq_true rfl) (Nat.le_of_ble_eq_true rfl) (Nat.le_of_ble_eq_true rfl) ?_
                  refine ww_incN (c := 1) (lv2 := [.ref b, .ref 1, .int (nI o), .int (nI (i + 1)), .int (nI (T (sk T n a)))]) dX3_readProduct_84 rfl rfl rfl (by decide) rfl ?_
                  refine ww_goto (tgt := 8) dX3_readProduct_87 (by decide) ?_
                  rw [prdL_i (by assumption) (isP_t.mpr (by omega)), hr9, bS_r, show opP (T (sk T n a)) = 6 from by unfold opP; first | (exfalso; omega) | rw [if_pos (by omega)] | rw [if_neg (by omega), if_pos (by omega)] | rw [if_neg (by omega), if_neg (by omega)] | rw [if_neg (by omega)]]
                  refine ww_fg (lv2 := [.ref b, .ref 1, .int (nI o), .int (nI (i + 1)), UU]) ⟨Or.inr rfl, Or.inr rfl, Or.inr rfl, Or.inr rfl, Or.inl rfl, trivial⟩ ?_
                  exact ih (i + 1) a9 (eL 6 0 L9) (by omega) (by omega) (by omega)
                · refine ww_iconst (v := nI 5) dX3_readProduct_74 (by decide) ?_
                  refine ww_goto (tgt := 80) dX3_readProduct_75 (by decide) ?_
                  refine ww_iconst (v := nI 0) dX3_readProduct_80 (by decide) ?_
                  have he13 : (eL 5 0 L9).1 = L9.1 + 1 := rfl
                  refine ww_cV0 (M := m_X3_readProduct) (pc := 81) (h1 := rdS (lwS h b (eL 5 0 L9)) n a9 0 (-1)) (st := []) (d := d + 1) (bc := 0) (bs := 0) (c_Lw_add hst hR hB hn hb a9 0 (-1) L9 (by omega) 5 0) vv_X3_add dX3_readProduct_81 wg_622 hb.1 rfl rfl rfl rfl (by omega) (Nat.le_of_ble_eq_true rfl) (Nat.le_of_ble_eq_true rfl) (Nat.le_of_ble_eq_true rfl) ?_
                  refine ww_incN (c := 1) (lv2 := [.ref b, .ref 1, .int (nI o), .int (nI (i + 1)), .int (nI (T (sk T n a)))]) dX3_readProduct_84 rfl rfl rfl (by decide) rfl ?_
                  refine ww_goto (tgt := 8) dX3_readProduct_87 (by decide) ?_
                  rw [prdL_i (by assumption) (isP_t.mpr (by omega)), hr9, bS_r, show opP (T (sk T n a)) = 5 from by unfold opP; first | (exfalso; omega) | rw [if_pos (by omega)] | rw [if_neg (by omega), if_pos (by omega)] | rw [if_neg (by omega), if_neg (by omega)] | rw [if_neg (by omega)]]
                  refine ww_fg (lv2 := [.ref b, .ref 1, .int (nI o), .int (nI (i + 1)), UU]) ⟨Or.inr rfl, Or.inr rfl, Or.inr rfl, Or.inr rfl, Or.inl rfl, trivial⟩ ?_
                  exact ih (i + 1) a9 (eL 5 0 L9) (by omega) (by omega) (by omega)
              · refine ww_iconst (v := nI 4) dX3_readProduct_63 (by decide) ?_
                refine ww_goto (tgt := 80) dX3_readProduct_64 (by decide) ?_
                refine ww_iconst (v := nI 0) dX3_readProduct_80 (by decide) ?_
                have he14 : (eL 4 0 L9).1 = L9.1 + 1 := rfl
                refine ww_cV0 (M := m_X3_readProduct) (pc := 81) (h1 := rdS (lwS h b (eL 4 0 L9)) n a9 0 (-1)) (st := []) (d := d + 1) (bc := 0) (bs := 0) (c_Lw_add hst hR hB hn hb a9 0 (-1) L9 (by omega) 4 0) vv_X3_add dX3_readProduct_81 wg_622 hb.1 rfl rfl rfl rfl (by omega) (Nat.le_of_ble_eq_true rfl) (Nat.le_of_ble_eq_true rfl) (Nat.le_of_ble_eq_true rfl) ?_
                refine ww_incN (c := 1) (lv2 := [.ref b, .ref 1, .int (nI o), .int (nI (i + 1)), .int (nI (T (sk T n a)))]) dX3_readProduct_84 rfl rfl rfl (by decide) rfl ?_
                refine ww_goto (tgt := 8) dX3_readProduct_87 (by decide) ?_
                rw [prdL_i (by assumption) (isP_t.mpr (by omega)), hr9, bS_r, show opP (T (sk T n a)) = 4 from by unfold opP; first | (exfalso; omega) | rw [if_pos (by omega)] | rw [if_neg (by omega), if_pos (by omega)] | rw [if_neg (by omega), if_neg (by omega)] | rw [if_neg (by omega)]]
                refine ww_fg (lv2 := [.ref b, .ref 1, .int (nI o), .int (nI (i + 1)), UU]) ⟨Or.inr rfl, Or.inr rfl, Or.inr rfl, Or.inr rfl, Or.inl rfl, trivial⟩ ?_
                exact ih (i + 1) a9 (eL 4 0 L9) (by omega) (by omega) (by omega)
          · refine ww_iload dX3_readProduct_35 rfl ?_
            refine ww_bipush (v := nI 37) dX3_readProduct_37 (by decide) ?_
            refine ww_icmp_eqN (tgt := 43) dX3_readProduct_39 (by decide) (by omega) (by omega) (fun c39 => ?_) (fun c39 => ?_)
            · refine ww_aload_n dX3_readProduct_43 rfl rfl ?_
              refine ww_iload dX3_readProduct_44 rfl ?_
              refine ww_cV0 (M := m_X3_readProduct) (pc := 46) (h1 := rdS (lwS h b L) n (sk T n a + 1) 0 (-1)) (st := []) (d := d + 1) (bc := 0) (bs := 0) (c_Rd_sign_r hst (hR.lw hb3 L) hB hn (sk T n a) (by omega) (T (sk T n a)) (by omega) (sgn_here (a := a) (by omega) (by assumption))) vv_X5_sign dX3_readProduct_46 wg_630 ((hR.lw hb3 L).1) rfl rfl rfl rfl (by omega) (Nat.le_of_ble_eq_true rfl) (Nat.le_of_ble_eq_true rfl) (Nat.le_of_ble_eq_true rfl) ?_
              refine ww_aload_n dX3_readProduct_49 rfl rfl ?_
              refine ww_aload_n dX3_readProduct_50 rfl rfl ?_
              refine ww_iload_n dX3_readProduct_51 rfl rfl ?_
              have hg16 := hG (sk T n a + 1) L (by omega)
              refine ww_cVq0 (M := m_X3_readProduct) (pc := 52) (st := []) (d := d + 1) (bc := 0) (bs := 0) (hU (sk T n a + 1) L (by omega) (by omega)) vv_X3_readUnit dX3_readProduct_52 wg_616 hb.1 rfl rfl rfl rfl (by omega) (Nat.le_of_ble_eq_true rfl) (Nat.le_of_ble_eq_true rfl) (Nat.le_of_ble_eq_true rfl) (fun ho16 qo16 => ?_)
              rcases hr16 : unit (sk T n a + 1) L with ⟨k16, q16⟩ | ⟨a16, L16⟩
              · rw [hr16] at qo16
                obtain ⟨L16, hL16, rfl⟩ := qo16
                have hf16 := (hg16).l hr16
                refine ww_aload_n dX3_readProduct_55 rfl rfl ?_
                refine ww_iload dX3_readProduct_56 rfl ?_
                refine ww_bipush (v := nI 42) dX3_readProduct_58 (by decide) ?_
                refine ww_icmp_neN (tgt := 67) dX3_readProduct_60 (by decide) (by omega) (by omega) (fun c60 => ?_) (fun c60 => ?_)
                · refine ww_iload dX3_readProduct_67 rfl ?_
                  refine ww_bipush (v := nI 47) dX3_readProduct_69 (by decide) ?_
                  refine ww_icmp_neN (tgt := 78) dX3_readProduct_71 (by decide) (by omega) (by omega) (fun c71 => ?_) (fun c71 => ?_)
                  · refine ww_bipush (v := nI 6) dX3_readProduct_78 (by decide) ?_
                    refine ww_iconst (v := nI 0) dX3_readProduct_80 (by decide) ?_
                    refine ww_cVq0 (M := m_X3_readProduct) (pc := 81) (st := []) (d := d + 1) (bc := 0) (bs := 0) (c_Lw_add_f hst hR hB hn hb n k16 (nI q16) L16 (by omega) 6 0) vv_X3_add dX3_readProduct_81 wg_622 hb.1 rfl rfl rfl rfl (by omega) (Nat.le_of_ble_eq_true rfl) (Nat.le_of_ble_eq_true rfl) (Nat.le_of_ble_eq_true rfl) (fun ha17 qa17 => ?_)
                    obtain ⟨M17, hM17, rfl⟩ := qa17
                    refine ww_incN (c := 1) (lv2 := [.ref b, .ref 1, .int (nI o), .int (nI (i + 1)), .int (nI (T (sk T n a)))]) dX3_readProduct_84 rfl rfl rfl (by decide) rfl ?_
                    refine ww_goto (tgt := 8) dX3_readProduct_87 (by decide) ?_
                    refine ww_iload_n dX3_readProduct_8 rfl rfl ?_
                    refine ww_sipush (v := nI 150) dX3_readProduct_9 (by decide) ?_
                    refine ww_icmp_geN (tgt := 90) dX3_readProduct_12 (by decide) (by omega) (by omega) (fun c12 => ?_) (fun c12 => ?_)
                    · exact ww_vret dX3_readProduct_90 rfl ⟨rfl, (by rw [prdL_i (by assumption) (isP_t.mpr (by omega)), hr16, bS_l]; exact ⟨_, (by assumption), rfl⟩)⟩
                    · refine ww_aload_n dX3_readProduct_15 rfl rfl ?_
                      refine ww_cVr (M := m_X3_readProduct) (pc := 16) (v := .int (-1)) (h1 := rdS (lwS h b M17) n n k16 (nI q16)) (st := []) (d := d + 1) (bc := 0) (bs := 0) (c_Rd_ahead_f hst (hR.lw hb3 M17) hB hn k16 (by omega) (by omega) (nI q16)) vv_X5_ahead dX3_readProduct_16 wg_620 ((hR.lw hb3 M17).1) rfl rfl rfl rfl (by omega) (Nat.le_of_ble_eq_true rfl) (Nat.le_of_ble_eq_true rfl) (Nat.le_of_ble_eq_true rfl) ?_
                      refine ww_sti (lv2 := [.ref b, .ref 1, .int (nI o), .int (nI (i + 1)), .int (-1)]) dX3_readProduct_19 rfl (by decide) rfl ?_
                      refine ww_iload dX3_readProduct_21 rfl ?_
                      refine ww_bipush (v := nI 42) dX3_readProduct_23 (by decide) ?_
                      refine ww_icmp_eq (tgt := 43) dX3_readProduct_25 (by decide) (fun c25 => ?_) (fun c25 => ?_)
                      · exact absurd c25 (by decide)
                      · refine ww_iload dX3_readProduct_28 rfl ?_
                        refine ww_bipush (v := nI 47) dX3_readProduct_30 (by decide) ?_
                        refine ww_icmp_eq (tgt := 43) dX3_readProduct_32 (by decide) (fun c32 => ?_) (fun c32 => ?_)
                        · exact absurd c32 (by decide)
                        · refine ww_iload dX3_readProduct_35 rfl ?_
                          refine ww_bipush (v := nI 37) dX3_readProduct_37 (by decide) ?_
                          refine ww_icmp_eq (tgt := 43) dX3_readProduct_39 (by decide) (fun c39 => ?_) (fun c39 => ?_)
                          · exact absurd c39 (by decide)
                          · exact ww_vret dX3_readProduct_42 rfl ⟨rfl, (by rw [prdL_i (by assumption) (isP_t.mpr (by omega)), hr16, bS_l]; exact ⟨_, (by assumption), rfl⟩)⟩
                  · refine ww_iconst (v := nI 5) dX3_readProduct_74 (by decide) ?_
                    refine ww_goto (tgt := 80) dX3_readProduct_75 (by decide) ?_
                    refine ww_iconst (v := nI 0) dX3_readProduct_80 (by decide) ?_
                    refine ww_cVq0 (M := m_X3_readProduct) (pc := 81) (st := []) (d := d + 1) (bc := 0) (bs := 0) (c_Lw_add_f hst hR hB hn hb n k16 (nI q16) L16 (by omega) 5 0) vv_X3_add dX3_readProduct_81 wg_622 hb.1 rfl rfl rfl rfl (by omega) (Nat.le_of_ble_eq_true rfl) (Nat.le_of_ble_eq_true rfl) (Nat.le_of_ble_eq_true rfl) (fun ha18 qa18 => ?_)
                    obtain ⟨M18, hM18, rfl⟩ := qa18
                    refine ww_incN (c := 1) (lv2 := [.ref b, .ref 1, .int (nI o), .int (nI (i + 1)), .int (nI (T (sk T n a)))]) dX3_readProduct_84 rfl rfl rfl (by decide) rfl ?_
                    refine ww_goto (tgt := 8) dX3_readProduct_87 (by decide) ?_
                    refine ww_iload_n dX3_readProduct_8 rfl rfl ?_
                    refine ww_sipush (v := nI 150) dX3_readProduct_9 (by decide) ?_
                    refine ww_icmp_geN (tgt := 90) dX3_readProduct_12 (by decide) (by omega) (by omega) (fun c12 => ?_) (fun c12 => ?_)
                    · exact ww_vret dX3_readProduct_90 rfl ⟨rfl, (by rw [prdL_i (by assumption) (isP_t.mpr (by omega)), hr16, bS_l]; exact ⟨_, (by assumption), rfl⟩)⟩
                    · refine ww_aload_n dX3_readProduct_15 rfl rfl ?_
                      refine ww_cVr (M := m_X3_readProduct) (pc := 16) (v := .int (-1)) (h1 := rdS (lwS h b M18) n n k16 (nI q16)) (st := []) (d := d + 1) (bc := 0) (bs := 0) (c_Rd_ahead_f hst (hR.lw hb3 M18) hB hn k16 (by omega) (by omega) (nI q16)) vv_X5_ahead dX3_readProduct_16 wg_620 ((hR.lw hb3 M18).1) rfl rfl rfl rfl (by omega) (Nat.le_of_ble_eq_true rfl) (Nat.le_of_ble_eq_true rfl) (Nat.le_of_ble_eq_true rfl) ?_
                      refine ww_sti (lv2 := [.ref b, .ref 1, .int (nI o), .int (nI (i + 1)), .int (-1)]) dX3_readProduct_19 rfl (by decide) rfl ?_
                      refine ww_iload dX3_readProduct_21 rfl ?_
                      refine ww_bipush (v := nI 42) dX3_readProduct_23 (by decide) ?_
                      refine ww_icmp_eq (tgt := 43) dX3_readProduct_25 (by decide) (fun c25 => ?_) (fun c25 => ?_)
                      · exact absurd c25 (by decide)
                      · refine ww_iload dX3_readProduct_28 rfl ?_
                        refine ww_bipush (v := nI 47) dX3_readProduct_30 (by decide) ?_
                        refine ww_icmp_eq (tgt := 43) dX3_readProduct_32 (by decide) (fun c32 => ?_) (fun c32 => ?_)
                        · exact absurd c32 (by decide)
                        · refine ww_iload dX3_readProduct_35 rfl ?_
                          refine ww_bipush (v := nI 37) dX3_readProduct_37 (by decide) ?_
                          refine ww_icmp_eq (tgt := 43) dX3_readProduct_39 (by decide) (fun c39 => ?_) (fun c39 => ?_)
                          · exact absurd c39 (by decide)
                          · exact ww_vret dX3_readProduct_42 rfl ⟨rfl, (by rw [prdL_i (by assumption) (isP_t.mpr (by omega)), hr16, bS_l]; exact ⟨_, (by assumption), rfl⟩)⟩
                · refine ww_iconst (v := nI 4) dX3_readProduct_63 (by decide) ?_
                  refine ww_goto (tgt := 80) dX3_readProduct_64 (by decide) ?_
                  refine ww_iconst (v := nI 0) dX3_readProduct_80 (by decide) ?_
                  refine ww_cVq0 (M := m_X3_readProduct) (pc := 81) (st := []) (d := d + 1) (bc := 0) (bs := 0) (c_Lw_add_f hst hR hB hn hb n k16 (nI q16) L16 (by omega) 4 0) vv_X3_add dX3_readProduct_81 wg_622 hb.1 rfl rfl rfl rfl (by omega) (Nat.le_of_ble_eq_true rfl) (Nat.le_of_ble_eq_true rfl) (Nat.le_of_ble_eq_true rfl) (fun ha19 qa19 => ?_)
                  obtain ⟨M19, hM19, rfl⟩ := qa19
                  refine ww_incN (c := 1) (lv2 := [.ref b, .ref 1, .int (nI o), .int (nI (i + 1)), .int (nI (T (sk T n a)))]) dX3_readProduct_84 rfl rfl rfl (by decide) rfl ?_
                  refine ww_goto (tgt := 8) dX3_readProduct_87 (by decide) ?_
                  refine ww_iload_n dX3_readProduct_8 rfl rfl ?_
                  refine ww_sipush (v := nI 150) dX3_readProduct_9 (by decide) ?_
                  refine ww_icmp_geN (tgt := 90) dX3_readProduct_12 (by decide) (by omega) (by omega) (fun c12 => ?_) (fun c12 => ?_)
                  · exact ww_vret dX3_readProduct_90 rfl ⟨rfl, (by rw [prdL_i (by assumption) (isP_t.mpr (by omega)), hr16, bS_l]; exact ⟨_, (by assumption), rfl⟩)⟩
                  · refine ww_aload_n dX3_readProduct_15 rfl rfl ?_
                    refine ww_cVr (M := m_X3_readProduct) (pc := 16) (v := .int (-1)) (h1 := rdS (lwS h b M19) n n k16 (nI q16)) (st := []) (d := d + 1) (bc := 0) (bs := 0) (c_Rd_ahead_f hst (hR.lw hb3 M19) hB hn k16 (by omega) (by omega) (nI q16)) vv_X5_ahead dX3_readProduct_16 wg_620 ((hR.lw hb3 M19).1) rfl rfl rfl rfl (by omega) (Nat.le_of_ble_eq_true rfl) (Nat.le_of_ble_eq_true rfl) (Nat.le_of_ble_eq_true rfl) ?_
                    refine ww_sti (lv2 := [.ref b, .ref 1, .int (nI o), .int (nI (i + 1)), .int (-1)]) dX3_readProduct_19 rfl (by decide) rfl ?_
                    refine ww_iload dX3_readProduct_21 rfl ?_
                    refine ww_bipush (v := nI 42) dX3_readProduct_23 (by decide) ?_
                    refine ww_icmp_eq (tgt := 43) dX3_readProduct_25 (by decide) (fun c25 => ?_) (fun c25 => ?_)
                    · exact absurd c25 (by decide)
                    · refine ww_iload dX3_readProduct_28 rfl ?_
                      refine ww_bipush (v := nI 47) dX3_readProduct_30 (by decide) ?_
                      refine ww_icmp_eq (tgt := 43) dX3_readProduct_32 (by decide) (fun c32 => ?_) (fun c32 => ?_)
                      · exact absurd c32 (by decide)
                      · refine ww_iload dX3_readProduct_35 rfl ?_
                        refine ww_bipush (v := nI 37) dX3_readProduct_37 (by decide) ?_
                        refine ww_icmp_eq (tgt := 43) dX3_readProduct_39 (by decide) (fun c39 => ?_) (fun c39 => ?_)
                        · exact absurd c39 (by decide)
                        · exact ww_vret dX3_readProduct_42 rfl ⟨rfl, (by rw [prdL_i (by assumption) (isP_t.mpr (by omega)), hr16, bS_l]; exact ⟨_, (by assumption), rfl⟩)⟩
              · rw [hr16] at qo16
                have qo16 : _ = _ := qo16
                subst qo16
                have hf16 := (hg16).r hr16
                refine ww_aload_n dX3_readProduct_55 rfl rfl ?_
                refine ww_iload dX3_readProduct_56 rfl ?_
                refine ww_bipush (v := nI 42) dX3_readProduct_58 (by decide) ?_
                refine ww_icmp_neN (tgt := 67) dX3_readProduct_60 (by decide) (by omega) (by omega) (fun c60 => ?_) (fun c60 => ?_)
                · refine ww_iload dX3_readProduct_67 rfl ?_
                  refine ww_bipush (v := nI 47) dX3_readProduct_69 (by decide) ?_
                  refine ww_icmp_neN (tgt := 78) dX3_readProduct_71 (by decide) (by omega) (by omega) (fun c71 => ?_) (fun c71 => ?_)
                  · refine ww_bipush (v := nI 6) dX3_readProduct_78 (by decide) ?_
                    refine ww_iconst (v := nI 0) dX3_readProduct_80 (by decide) ?_
                    have he19 : (eL 6 0 L16).1 = L16.1 + 1 := rfl
                    refine ww_cV0 (M := m_X3_readProduct) (pc := 81) (h1 := rdS (lwS h b (eL 6 0 L16)) n a16 0 (-1)) (st := []) (d := d + 1) (bc := 0) (bs := 0) (c_Lw_add hst hR hB hn hb a16 0 (-1) L16 (by omega) 6 0) vv_X3_add dX3_readProduct_81 wg_622 hb.1 rfl rfl rfl rfl (by omega) (Nat.le_of_ble_eq_true rfl) (Nat.le_of_ble_eq_true rfl) (Nat.le_of_ble_eq_true rfl) ?_
                    refine ww_incN (c := 1) (lv2 := [.ref b, .ref 1, .int (nI o), .int (nI (i + 1)), .int (nI (T (sk T n a)))]) dX3_readProduct_84 rfl rfl rfl (by decide) rfl ?_
                    refine ww_goto (tgt := 8) dX3_readProduct_87 (by decide) ?_
                    rw [prdL_i (by assumption) (isP_t.mpr (by omega)), hr16, bS_r, show opP (T (sk T n a)) = 6 from by unfold opP; first | (exfalso; omega) | rw [if_pos (by omega)] | rw [if_neg (by omega), if_pos (by omega)] | rw [if_neg (by omega), if_neg (by omega)] | rw [if_neg (by omega)]]
                    refine ww_fg (lv2 := [.ref b, .ref 1, .int (nI o), .int (nI (i + 1)), UU]) ⟨Or.inr rfl, Or.inr rfl, Or.inr rfl, Or.inr rfl, Or.inl rfl, trivial⟩ ?_
                    exact ih (i + 1) a16 (eL 6 0 L16) (by omega) (by omega) (by omega)
                  · refine ww_iconst (v := nI 5) dX3_readProduct_74 (by decide) ?_
                    refine ww_goto (tgt := 80) dX3_readProduct_75 (by decide) ?_
                    refine ww_iconst (v := nI 0) dX3_readProduct_80 (by decide) ?_
                    have he20 : (eL 5 0 L16).1 = L16.1 + 1 := rfl
                    refine ww_cV0 (M := m_X3_readProduct) (pc := 81) (h1 := rdS (lwS h b (eL 5 0 L16)) n a16 0 (-1)) (st := []) (d := d + 1) (bc := 0) (bs := 0) (c_Lw_add hst hR hB hn hb a16 0 (-1) L16 (by omega) 5 0) vv_X3_add dX3_readProduct_81 wg_622 hb.1 rfl rfl rfl rfl (by omega) (Nat.le_of_ble_eq_true rfl) (Nat.le_of_ble_eq_true rfl) (Nat.le_of_ble_eq_true rfl) ?_
                    refine ww_incN (c := 1) (lv2 := [.ref b, .ref 1, .int (nI o), .int (nI (i + 1)), .int (nI (T (sk T n a)))]) dX3_readProduct_84 rfl rfl rfl (by decide) rfl ?_
                    refine ww_goto (tgt := 8) dX3_readProduct_87 (by decide) ?_
                    rw [prdL_i (by assumption) (isP_t.mpr (by omega)), hr16, bS_r, show opP (T (sk T n a)) = 5 from by unfold opP; first | (exfalso; omega) | rw [if_pos (by omega)] | rw [if_neg (by omega), if_pos (by omega)] | rw [if_neg (by omega), if_neg (by omega)] | rw [if_neg (by omega)]]
                    refine ww_fg (lv2 := [.ref b, .ref 1, .int (nI o), .int (nI (i + 1)), UU]) ⟨Or.inr rfl, Or.inr rfl, Or.inr rfl, Or.inr rfl, Or.inl rfl, trivial⟩ ?_
                    exact ih (i + 1) a16 (eL 5 0 L16) (by omega) (by omega) (by omega)
                · refine ww_iconst (v := nI 4) dX3_readProduct_63 (by decide) ?_
                  refine ww_goto (tgt := 80) dX3_readProduct_64 (by decide) ?_
                  refine ww_iconst (v := nI 0) dX3_readProduct_80 (by decide) ?_
                  have he21 : (eL 4 0 L16).1 = L16.1 + 1 := rfl
                  refine ww_cV0 (M := m_X3_readProduct) (pc := 81) (h1 := rdS (lwS h b (eL 4 0 L16)) n a16 0 (-1)) (st := []) (d := d + 1) (bc := 0) (bs := 0) (c_Lw_add hst hR hB hn hb a16 0 (-1) L16 (by omega) 4 0) vv_X3_add dX3_readProduct_81 wg_622 hb.1 rfl rfl rfl rfl (by omega) (Nat.le_of_ble_eq_true rfl) (Nat.le_of_ble_eq_true rfl) (Nat.le_of_ble_eq_true rfl) ?_
                  refine ww_incN (c := 1) (lv2 := [.ref b, .ref 1, .int (nI o), .int (nI (i + 1)), .int (nI (T (sk T n a)))]) dX3_readProduct_84 rfl rfl rfl (by decide) rfl ?_
                  refine ww_goto (tgt := 8) dX3_readProduct_87 (by decide) ?_
                  rw [prdL_i (by assumption) (isP_t.mpr (by omega)), hr16, bS_r, show opP (T (sk T n a)) = 4 from by unfold opP; first | (exfalso; omega) | rw [if_pos (by omega)] | rw [if_neg (by omega), if_pos (by omega)] | rw [if_neg (by omega), if_neg (by omega)] | rw [if_neg (by omega)]]
                  refine ww_fg (lv2 := [.ref b, .ref 1, .int (nI o), .int (nI (i + 1)), UU]) ⟨Or.inr rfl, Or.inr rfl, Or.inr rfl, Or.inr rfl, Or.inl rfl, trivial⟩ ?_
                  exact ih (i + 1) a16 (eL 4 0 L16) (by omega) (by omega) (by omega)
            · exact ww_vret dX3_readProduct_42 rfl ⟨rfl, (by rw [prdL_e (fun e => by have e9 := isP_t.mp e.2; omega)]; exact rfl)⟩
      · refine ww_cVr (M := m_X3_readProduct) (pc := 16) (v := .int (-1)) (h1 := rdS (lwS h b L) n n 0 (-1)) (st := []) (d := d + 1) (bc := 0) (bs := 0) (c_Rd_ahead_e hst (hR.lw hb3 L) hB hn 0 (-1) a (by omega) hl1) vv_X5_ahead dX3_readProduct_16 wg_620 ((hR.lw hb3 L).1) rfl rfl rfl rfl (by omega) (Nat.le_of_ble_eq_true rfl) (Nat.le_of_ble_eq_true rfl) (Nat.le_of_ble_eq_true rfl) ?_
        refine ww_sti (lv2 := [.ref b, .ref 1, .int (nI o), .int (nI i), .int (-1)]) dX3_readProduct_19 rfl (by decide) rfl ?_
        refine ww_iload dX3_readProduct_21 rfl ?_
        refine ww_bipush (v := nI 42) dX3_readProduct_23 (by decide) ?_
        refine ww_icmp_eq (tgt := 43) dX3_readProduct_25 (by decide) (fun c25 => ?_) (fun c25 => ?_)
        · exact absurd c25 (by decide)
        · refine ww_iload dX3_readProduct_28 rfl ?_
          refine ww_bipush (v := nI 47) dX3_readProduct_30 (by decide) ?_
          refine ww_icmp_eq (tgt := 43) dX3_readProduct_32 (by decide) (fun c32 => ?_) (fun c32 => ?_)
          · exact absurd c32 (by decide)
          · refine ww_iload dX3_readProduct_35 rfl ?_
            refine ww_bipush (v := nI 37) dX3_readProduct_37 (by decide) ?_
            refine ww_icmp_eq (tgt := 43) dX3_readProduct_39 (by decide) (fun c39 => ?_) (fun c39 => ?_)
            · exact absurd c39 (by decide)
            · exact ww_vret dX3_readProduct_42 rfl ⟨rfl, (by rw [prdL_e (fun e => by omega), show sk T n a = n by omega]; exact rfl)⟩
set_option maxHeartbeats 4000000 in
set_option maxRecDepth 100000 in
theorem l_Lw_sum {l : Launch} {Z : EE} (hst : l.stackTraces = false) {h : PH} {tf : Nat → Int32} (hR : RdK h tf) {T : Nat → Nat} (hB : BT tf T) {n : Nat} (hn : n ≤ 600) {b : Nat} (hb : LwK h b) (hn5 : n ≤ 150) {d : Nat} (hd6 : 6 ≤ d) (o : Nat) {U : Nat} {unit : Nat → LWt → PR LWt} (hG : GoodU n U unit) (hU : ∀ (a : Nat) (L : LWt), a ≤ n → L.1 ≤ a → CC l Z m_X3_readProduct (d + 1) 0 0 [.ref b, .ref 1, .int (nI o)] (rdS (lwS h b L) n a 0 (-1)) (RQ none (LwO h b n (unit a L)))) : ∀ (j i a : Nat) (L : LWt), i + j = 150 → a ≤ n → L.1 ≤ a → WW l Z m_X3_readSum (d + 2) 0 0 8 [.ref b, .ref 1, .int (nI o), .int (nI i), UU] [] (rdS (lwS h b L) n a 0 (-1)) (RQ none (LwO h b n (prdL isA opA unit T n j a L))) := by
  have hb3 := hb.2.2.2.2.2
  intro j
  induction j with
  | zero =>
    intro i a L hi ha hL
    refine ww_iload_n dX3_readSum_8 rfl rfl ?_
    refine ww_sipush (v := nI 150) dX3_readSum_9 (by decide) ?_
    refine ww_icmp_geN (tgt := 71) dX3_readSum_12 (by decide) (by omega) (by omega) (fun c12 => ?_) (fun c12 => ?_)
    · exact ww_vret dX3_readSum_71 rfl ⟨rfl, rfl⟩
    · exfalso; omega
  | succ j ih =>
    intro i a L hi ha hL
    refine ww_iload_n dX3_readSum_8 rfl rfl ?_
    refine ww_sipush (v := nI 150) dX3_readSum_9 (by decide) ?_
    refine ww_icmp_geN (tgt := 71) dX3_readSum_12 (by decide) (by omega) (by omega) (fun c12 => ?_) (fun c12 => ?_)
    · exfalso; omega
    · refine ww_aload_n dX3_readSum_15 rfl rfl ?_
      have hsl23 := sk_le (T := T) (show a ≤ n by omega)
      have hsg23 := sk_ge (T := T) (show a ≤ n by omega)
      have hsT23 := (hB (sk T n a)).2
      by_cases hl23 : sk T n a < n
      · refine ww_cVr (M := m_X3_readSum) (pc := 16) (v := .int (nI (T (sk T n a)))) (h1 := rdS (lwS h b L) n (sk T n a) 0 (-1)) (st := []) (d := d + 2) (bc := 0) (bs := 0) (c_Rd_ahead_i hst (hR.lw hb3 L) hB hn 0 (-1) a (by omega) hl23) vv_X5_ahead dX3_readSum_16 wg_620 ((hR.lw hb3 L).1) rfl rfl rfl rfl (by omega) (Nat.le_of_ble_eq_true rfl) (Nat.le_of_ble_eq_true rfl) (Nat.le_of_ble_eq_true rfl) ?_
        refine ww_sti (lv2 := [.ref b, .ref 1, .int (nI o), .int (nI i), .int (nI (T (sk T n a)))]) dX3_readSum_19 rfl (by decide) rfl ?_
        refine ww_iload dX3_readSum_21 rfl ?_
        refine ww_bipush (v := nI 43) dX3_readSum_23 (by decide) ?_
        refine ww_icmp_eqN (tgt := 36) dX3_readSum_25 (by decide) (by omega) (by omega) (fun c25 => ?_) (fun c25 => ?_)
        · refine ww_aload_n dX3_readSum_36 rfl rfl ?_
          refine ww_iload dX3_readSum_37 rfl ?_
          refine ww_cV0 (M := m_X3_readSum) (pc := 39) (h1 := rdS (lwS h b L) n (sk T n a + 1) 0 (-1)) (st := []) (d := d + 2) (bc := 0) (bs := 0) (c_Rd_sign_r hst (hR.lw hb3 L) hB hn (sk T n a) (by omega) (T (sk T n a)) (by omega) (sgn_here (a := a) (by omega) (by assumption))) vv_X5_sign dX3_readSum_39 wg_630 ((hR.lw hb3 L).1) rfl rfl rfl rfl (by omega) (Nat.le_of_ble_eq_true rfl) (Nat.le_of_ble_eq_true rfl) (Nat.le_of_ble_eq_true rfl) ?_
          refine ww_aload_n dX3_readSum_42 rfl rfl ?_
          refine ww_aload_n dX3_readSum_43 rfl rfl ?_
          refine ww_iload_n dX3_readSum_44 rfl rfl ?_
          have hg24 := hG (sk T n a + 1) L (by omega)
          refine ww_cVq0 (M := m_X3_readSum) (pc := 45) (st := []) (d := d + 2) (bc := 0) (bs := 0) (hU (sk T n a + 1) L (by omega) (by omega)) vv_X3_readProduct dX3_readSum_45 wg_612 hb.1 rfl rfl rfl rfl (by omega) (Nat.le_of_ble_eq_true rfl) (Nat.le_of_ble_eq_true rfl) (Nat.le_of_ble_eq_true rfl) (fun ho24 qo24 => ?_)
          rcases hr24 : unit (sk T n a + 1) L with ⟨k24, q24⟩ | ⟨a24, L24⟩
          · rw [hr24] at qo24
            obtain ⟨L24, hL24, rfl⟩ := qo24
            have hf24 := (hg24).l hr24
            refine ww_aload_n dX3_readSum_48 rfl rfl ?_
            refine ww_iload dX3_readSum_49 rfl ?_
            refine ww_bipush (v := nI 43) dX3_readSum_51 (by decide) ?_
            refine ww_icmp_neN (tgt := 60) dX3_readSum_53 (by decide) (by omega) (by omega) (fun c53 => ?_) (fun c53 => ?_)
            · refine ww_iconst (v := nI 3) dX3_readSum_60 (by decide) ?_
              refine ww_iconst (v := nI 0) dX3_readSum_61 (by decide) ?_
              refine ww_cVq0 (M := m_X3_readSum) (pc := 62) (st := []) (d := d + 2) (bc := 0) (bs := 0) (c_Lw_add_f hst hR hB hn hb n k24 (nI q24) L24 (by omega) 3 0) vv_X3_add dX3_readSum_62 wg_622 hb.1 rfl rfl rfl rfl (by omega) (Nat.le_of_ble_eq_true rfl) (Nat.le_of_ble_eq_true rfl) (Nat.le_of_ble_eq_true rfl) (fun ha25 qa25 => ?_)
              obtain ⟨M25, hM25, rfl⟩ := qa25
              refine ww_incN (c := 1) (lv2 := [.ref b, .ref 1, .int (nI o), .int (nI (i + 1)), .int (nI (T (sk T n a)))]) dX3_readSum_65 rfl rfl rfl (by decide) rfl ?_
              refine ww_goto (tgt := 8) dX3_readSum_68 (by decide) ?_
              refine ww_iload_n dX3_readSum_8 rfl rfl ?_
              refine ww_sipush (v := nI 150) dX3_readSum_9 (by decide) ?_
              refine ww_icmp_geN (tgt := 71) dX3_readSum_12 (by decide) (by omega) (by omega) (fun c12 => ?_) (fun c12 => ?_)
              · exact ww_vret dX3_readSum_71 rfl ⟨rfl, (by rw [prdL_i (by assumption) (isA_t.mpr (by omega)), hr24, bS_l]; exact ⟨_, (by assumption), rfl⟩)⟩
              · refine ww_aload_n dX3_readSum_15 rfl rfl ?_
                refine ww_cVr (M := m_X3_readSum) (pc := 16) (v := .int (-1)) (h1 := rdS (lwS h b M25) n n k24 (nI q24)) (st := []) (d := d + 2) (bc := 0) (bs := 0) (c_Rd_ahead_f hst (hR.lw hb3 M25) hB hn k24 (by omega) (by omega) (nI q24)) vv_X5_ahead dX3_readSum_16 wg_620 ((hR.lw hb3 M25).1) rfl rfl rfl rfl (by omega) (Nat.le_of_ble_eq_true rfl) (Nat.le_of_ble_eq_true rfl) (Nat.le_of_ble_eq_true rfl) ?_
                refine ww_sti (lv2 := [.ref b, .ref 1, .int (nI o), .int (nI (i + 1)), .int (-1)]) dX3_readSum_19 rfl (by decide) rfl ?_
                refine ww_iload dX3_readSum_21 rfl ?_
                refine ww_bipush (v := nI 43) dX3_readSum_23 (by decide) ?_
                refine ww_icmp_eq (tgt := 36) dX3_readSum_25 (by decide) (fun c25 => ?_) (fun c25 => ?_)
                · exact absurd c25 (by decide)
                · refine ww_iload dX3_readSum_28 rfl ?_
                  refine ww_bipush (v := nI 45) dX3_readSum_30 (by decide) ?_
                  refine ww_icmp_eq (tgt := 36) dX3_readSum_32 (by decide) (fun c32 => ?_) (fun c32 => ?_)
                  · exact absurd c32 (by decide)
                  · exact ww_vret dX3_readSum_35 rfl ⟨rfl, (by rw [prdL_i (by assumption) (isA_t.mpr (by omega)), hr24, bS_l]; exact ⟨_, (by assumption), rfl⟩)⟩
            · refine ww_iconst (v := nI 2) dX3_readSum_56 (by decide) ?_
              refine ww_goto (tgt := 61) dX3_readSum_57 (by decide) ?_
              refine ww_iconst (v := nI 0) dX3_readSum_61 (by decide) ?_
              refine ww_cVq0 (M := m_X3_readSum) (pc := 62) (st := []) (d := d + 2) (bc := 0) (bs := 0) (c_Lw_add_f hst hR hB hn hb n k24 (nI q24) L24 (by omega) 2 0) vv_X3_add dX3_readSum_62 wg_622 hb.1 rfl rfl rfl rfl (by omega) (Nat.le_of_ble_eq_true rfl) (Nat.le_of_ble_eq_true rfl) (Nat.le_of_ble_eq_true rfl) (fun ha26 qa26 => ?_)
              obtain ⟨M26, hM26, rfl⟩ := qa26
              refine ww_incN (c := 1) (lv2 := [.ref b, .ref 1, .int (nI o), .int (nI (i + 1)), .int (nI (T (sk T n a)))]) dX3_readSum_65 rfl rfl rfl (by decide) rfl ?_
              refine ww_goto (tgt := 8) dX3_readSum_68 (by decide) ?_
              refine ww_iload_n dX3_readSum_8 rfl rfl ?_
              refine ww_sipush (v := nI 150) dX3_readSum_9 (by decide) ?_
              refine ww_icmp_geN (tgt := 71) dX3_readSum_12 (by decide) (by omega) (by omega) (fun c12 => ?_) (fun c12 => ?_)
              · exact ww_vret dX3_readSum_71 rfl ⟨rfl, (by rw [prdL_i (by assumption) (isA_t.mpr (by omega)), hr24, bS_l]; exact ⟨_, (by assumption), rfl⟩)⟩
              · refine ww_aload_n dX3_readSum_15 rfl rfl ?_
                refine ww_cVr (M := m_X3_readSum) (pc := 16) (v := .int (-1)) (h1 := rdS (lwS h b M26) n n k24 (nI q24)) (st := []) (d := d + 2) (bc := 0) (bs := 0) (c_Rd_ahead_f hst (hR.lw hb3 M26) hB hn k24 (by omega) (by omega) (nI q24)) vv_X5_ahead dX3_readSum_16 wg_620 ((hR.lw hb3 M26).1) rfl rfl rfl rfl (by omega) (Nat.le_of_ble_eq_true rfl) (Nat.le_of_ble_eq_true rfl) (Nat.le_of_ble_eq_true rfl) ?_
                refine ww_sti (lv2 := [.ref b, .ref 1, .int (nI o), .int (nI (i + 1)), .int (-1)]) dX3_readSum_19 rfl (by decide) rfl ?_
                refine ww_iload dX3_readSum_21 rfl ?_
                refine ww_bipush (v := nI 43) dX3_readSum_23 (by decide) ?_
                refine ww_icmp_eq (tgt := 36) dX3_readSum_25 (by decide) (fun c25 => ?_) (fun c25 => ?_)
                · exact absurd c25 (by decide)
                · refine ww_iload dX3_readSum_28 rfl ?_
                  refine ww_bipush (v := nI 45) dX3_readSum_30 (by decide) ?_
                  refine ww_icmp_eq (tgt := 36) dX3_readSum_32 (by decide) (fun c32 => ?_) (fun c32 => ?_)
                  · exact absurd c32 (by decide)
                  · exact ww_vret dX3_readSum_35 rfl ⟨rfl, (by rw [prdL_i (by assumption) (isA_t.mpr (by omega)), hr24, bS_l]; exact ⟨_, (by assumption), rfl⟩)⟩
          · rw [hr24] at qo24
            have qo24 : _ = _ := qo24
            subst qo24
            have hf24 := (hg24).r hr24
            refine ww_aload_n dX3_readSum_48 rfl rfl ?_
            refine ww_iload dX3_readSum_49 rfl ?_
            refine ww_bipush (v := nI 43) dX3_readSum_51 (by decide) ?_
            refine ww_icmp_neN (tgt := 60) dX3_readSum_53 (by decide) (by omega) (by omega) (fun c53 => ?_) (fun c53 => ?_)
            · refine ww_iconst (v := nI 3) dX3_readSum_60 (by decide) ?_
              refine ww_iconst (v := nI 0) dX3_readSum_61 (by decide) ?_
              have he26 : (eL 3 0 L24).1 = L24.1 + 1 := rfl
              refine ww_cV0 (M := m_X3_readSum) (pc := 62) (h1 := rdS (lwS h b (eL 3 0 L24)) n a24 0 (-1)) (st := []) (d := d + 2) (bc := 0) (bs := 0) (c_Lw_add hst hR hB hn hb a24 0 (-1) L24 (by omega) 3 0) vv_X3_add dX3_readSum_62 wg_622 hb.1 rfl rfl rfl rfl (by omega) (Nat.le_of_ble_eq_true rfl) (Nat.le_of_ble_eq_true rfl) (Nat.le_of_ble_eq_true rfl) ?_
              refine ww_incN (c := 1) (lv2 := [.ref b, .ref 1, .int (nI o), .int (nI (i + 1)), .int (nI (T (sk T n a)))]) dX3_readSum_65 rfl rfl rfl (by decide) rfl ?_
              refine ww_goto (tgt := 8) dX3_readSum_68 (by decide) ?_
              rw [prdL_i (by assumption) (isA_t.mpr (by omega)), hr24, bS_r, show opA (T (sk T n a)) = 3 from by unfold opA; first | (exfalso; omega) | rw [if_pos (by omega)] | rw [if_neg (by omega), if_pos (by omega)] | rw [if_neg (by omega), if_neg (by omega)] | rw [if_neg (by omega)]]
              refine ww_fg (lv2 := [.ref b, .ref 1, .int (nI o), .int (nI (i + 1)), UU]) ⟨Or.inr rfl, Or.inr rfl, Or.inr rfl, Or.inr rfl, Or.inl rfl, trivial⟩ ?_
              exact ih (i + 1) a24 (eL 3 0 L24) (by omega) (by omega) (by omega)
            · refine ww_iconst (v := nI 2) dX3_readSum_56 (by decide) ?_
              refine ww_goto (tgt := 61) dX3_readSum_57 (by decide) ?_
              refine ww_iconst (v := nI 0) dX3_readSum_61 (by decide) ?_
              have he27 : (eL 2 0 L24).1 = L24.1 + 1 := rfl
              refine ww_cV0 (M := m_X3_readSum) (pc := 62) (h1 := rdS (lwS h b (eL 2 0 L24)) n a24 0 (-1)) (st := []) (d := d + 2) (bc := 0) (bs := 0) (c_Lw_add hst hR hB hn hb a24 0 (-1) L24 (by omega) 2 0) vv_X3_add dX3_readSum_62 wg_622 hb.1 rfl rfl rfl rfl (by omega) (Nat.le_of_ble_eq_true rfl) (Nat.le_of_ble_eq_true rfl) (Nat.le_of_ble_eq_true rfl) ?_
              refine ww_incN (c := 1) (lv2 := [.ref b, .ref 1, .int (nI o), .int (nI (i + 1)), .int (nI (T (sk T n a)))]) dX3_readSum_65 rfl rfl rfl (by decide) rfl ?_
              refine ww_goto (tgt := 8) dX3_readSum_68 (by decide) ?_
              rw [prdL_i (by assumption) (isA_t.mpr (by omega)), hr24, bS_r, show opA (T (sk T n a)) = 2 from by unfold opA; first | (exfalso; omega) | rw [if_pos (by omega)] | rw [if_neg (by omega), if_pos (by omega)] | rw [if_neg (by omega), if_neg (by omega)] | rw [if_neg (by omega)]]
              refine ww_fg (lv2 := [.ref b, .ref 1, .int (nI o), .int (nI (i + 1)), UU]) ⟨Or.inr rfl, Or.inr rfl, Or.inr rfl, Or.inr rfl, Or.inl rfl, trivial⟩ ?_
              exact ih (i + 1) a24 (eL 2 0 L24) (by omega) (by omega) (by omega)
        · refine ww_iload dX3_readSum_28 rfl ?_
          refine ww_bipush (v := nI 45) dX3_readSum_30 (by decide) ?_
          refine ww_icmp_eqN (tgt := 36) dX3_readSum_32 (by decide) (by omega) (by omega) (fun c32 => ?_) (fun c32 => ?_)
          · refine ww_aload_n dX3_readSum_36 rfl rfl ?_
            refine ww_iload dX3_readSum_37 rfl ?_
            refine ww_cV0 (M := m_X3_readSum) (pc := 39) (h1 := rdS (lwS h b L) n (sk T n a + 1) 0 (-1)) (st := []) (d := d + 2) (bc := 0) (bs := 0) (c_Rd_sign_r hst (hR.lw hb3 L) hB hn (sk T n a) (by omega) (T (sk T n a)) (by omega) (sgn_here (a := a) (by omega) (by assumption))) vv_X5_sign dX3_readSum_39 wg_630 ((hR.lw hb3 L).1) rfl rfl rfl rfl (by omega) (Nat.le_of_ble_eq_true rfl) (Nat.le_of_ble_eq_true rfl) (Nat.le_of_ble_eq_true rfl) ?_
            refine ww_aload_n dX3_readSum_42 rfl rfl ?_
            refine ww_aload_n dX3_readSum_43 rfl rfl ?_
            refine ww_iload_n dX3_readSum_44 rfl rfl ?_
            have hg29 := hG (sk T n a + 1) L (by omega)
            refine ww_cVq0 (M := m_X3_readSum) (pc := 45) (st := []) (d := d + 2) (bc := 0) (bs := 0) (hU (sk T n a + 1) L (by omega) (by omega)) vv_X3_readProduct dX3_readSum_45 wg_612 hb.1 rfl rfl rfl rfl (by omega) (Nat.le_of_ble_eq_true rfl) (Nat.le_of_ble_eq_true rfl) (Nat.le_of_ble_eq_true rfl) (fun ho29 qo29 => ?_)
            rcases hr29 : unit (sk T n a + 1) L with ⟨k29, q29⟩ | ⟨a29, L29⟩
            · rw [hr29] at qo29
              obtain ⟨L29, hL29, rfl⟩ := qo29
              have hf29 := (hg29).l hr29
              refine ww_aload_n dX3_readSum_48 rfl rfl ?_
              refine ww_iload dX3_readSum_49 rfl ?_
              refine ww_bipush (v := nI 43) dX3_readSum_51 (by decide) ?_
              refine ww_icmp_neN (tgt := 60) dX3_readSum_53 (by decide) (by omega) (by omega) (fun c53 => ?_) (fun c53 => ?_)
              · refine ww_iconst (v := nI 3) dX3_readSum_60 (by decide) ?_
                refine ww_iconst (v := nI 0) dX3_readSum_61 (by decide) ?_
                refine ww_cVq0 (M := m_X3_readSum) (pc := 62) (st := []) (d := d + 2) (bc := 0) (bs := 0) (c_Lw_add_f hst hR hB hn hb n k29 (nI q29) L29 (by omega) 3 0) vv_X3_add dX3_readSum_62 wg_622 hb.1 rfl rfl rfl rfl (by omega) (Nat.le_of_ble_eq_true rfl) (Nat.le_of_ble_eq_true rfl) (Nat.le_of_ble_eq_true rfl) (fun ha30 qa30 => ?_)
                obtain ⟨M30, hM30, rfl⟩ := qa30
                refine ww_incN (c := 1) (lv2 := [.ref b, .ref 1, .int (nI o), .int (nI (i + 1)), .int (nI (T (sk T n a)))]) dX3_readSum_65 rfl rfl rfl (by decide) rfl ?_
                refine ww_goto (tgt := 8) dX3_readSum_68 (by decide) ?_
                refine ww_iload_n dX3_readSum_8 rfl rfl ?_
                refine ww_sipush (v := nI 150) dX3_readSum_9 (by decide) ?_
                refine ww_icmp_geN (tgt := 71) dX3_readSum_12 (by decide) (by omega) (by omega) (fun c12 => ?_) (fun c12 => ?_)
                · exact ww_vret dX3_readSum_71 rfl ⟨rfl, (by rw [prdL_i (by assumption) (isA_t.mpr (by omega)), hr29, bS_l]; exact ⟨_, (by assumption), rfl⟩)⟩
                · refine ww_aload_n dX3_readSum_15 rfl rfl ?_
                  refine ww_cVr (M := m_X3_readSum) (pc := 16) (v := .int (-1)) (h1 := rdS (lwS h b M30) n n k29 (nI q29)) (st := []) (d := d + 2) (bc := 0) (bs := 0) (c_Rd_ahead_f hst (hR.lw hb3 M30) hB hn k29 (by omega) (by omega) (nI q29)) vv_X5_ahead dX3_readSum_16 wg_620 ((hR.lw hb3 M30).1) rfl rfl rfl rfl (by omega) (Nat.le_of_ble_eq_true rfl) (Nat.le_of_ble_eq_true rfl) (Nat.le_of_ble_eq_true rfl) ?_
                  refine ww_sti (lv2 := [.ref b, .ref 1, .int (nI o), .int (nI (i + 1)), .int (-1)]) dX3_readSum_19 rfl (by decide) rfl ?_
                  refine ww_iload dX3_readSum_21 rfl ?_
                  refine ww_bipush (v := nI 43) dX3_readSum_23 (by decide) ?_
                  refine ww_icmp_eq (tgt := 36) dX3_readSum_25 (by decide) (fun c25 => ?_) (fun c25 => ?_)
                  · exact absurd c25 (by decide)
                  · refine ww_iload dX3_readSum_28 rfl ?_
                    refine ww_bipush (v := nI 45) dX3_readSum_30 (by decide) ?_
                    refine ww_icmp_eq (tgt := 36) dX3_readSum_32 (by decide) (fun c32 => ?_) (fun c32 => ?_)
                    · exact absurd c32 (by decide)
                    · exact ww_vret dX3_readSum_35 rfl ⟨rfl, (by rw [prdL_i (by assumption) (isA_t.mpr (by omega)), hr29, bS_l]; exact ⟨_, (by assumption), rfl⟩)⟩
              · refine ww_iconst (v := nI 2) dX3_readSum_56 (by decide) ?_
                refine ww_goto (tgt := 61) dX3_readSum_57 (by decide) ?_
                refine ww_iconst (v := nI 0) dX3_readSum_61 (by decide) ?_
                refine ww_cVq0 (M := m_X3_readSum) (pc := 62) (st := []) (d := d + 2) (bc := 0) (bs := 0) (c_Lw_add_f hst hR hB hn hb n k29 (nI q29) L29 (by omega) 2 0) vv_X3_add dX3_readSum_62 wg_622 hb.1 rfl rfl rfl rfl (by omega) (Nat.le_of_ble_eq_true rfl) (Nat.le_of_ble_eq_true rfl) (Nat.le_of_ble_eq_true rfl) (fun ha31 qa31 => ?_)
                obtain ⟨M31, hM31, rfl⟩ := qa31
                refine ww_incN (c := 1) (lv2 := [.ref b, .ref 1, .int (nI o), .int (nI (i + 1)), .int (nI (T (sk T n a)))]) dX3_readSum_65 rfl rfl rfl (by decide) rfl ?_
                refine ww_goto (tgt := 8) dX3_readSum_68 (by decide) ?_
                refine ww_iload_n dX3_readSum_8 rfl rfl ?_
                refine ww_sipush (v := nI 150) dX3_readSum_9 (by decide) ?_
                refine ww_icmp_geN (tgt := 71) dX3_readSum_12 (by decide) (by omega) (by omega) (fun c12 => ?_) (fun c12 => ?_)
                · exact ww_vret dX3_readSum_71 rfl ⟨rfl, (by rw [prdL_i (by assumption) (isA_t.mpr (by omega)), hr29, bS_l]; exact ⟨_, (by assumption), rfl⟩)⟩
                · refine ww_aload_n dX3_readSum_15 rfl rfl ?_
                  refine ww_cVr (M := m_X3_readSum) (pc := 16) (v := .int (-1)) (h1 := rdS (lwS h b M31) n n k29 (nI q29)) (st := []) (d := d + 2) (bc := 0) (bs := 0) (c_Rd_ahead_f hst (hR.lw hb3 M31) hB hn k29 (by omega) (by omega) (nI q29)) vv_X5_ahead dX3_readSum_16 wg_620 ((hR.lw hb3 M31).1) rfl rfl rfl rfl (by omega) (Nat.le_of_ble_eq_true rfl) (Nat.le_of_ble_eq_true rfl) (Nat.le_of_ble_eq_true rfl) ?_
                  refine ww_sti (lv2 := [.ref b, .ref 1, .int (nI o), .int (nI (i + 1)), .int (-1)]) dX3_readSum_19 rfl (by decide) rfl ?_
                  refine ww_iload dX3_readSum_21 rfl ?_
                  refine ww_bipush (v := nI 43) dX3_readSum_23 (by decide) ?_
                  refine ww_icmp_eq (tgt := 36) dX3_readSum_25 (by decide) (fun c25 => ?_) (fun c25 => ?_)
                  · exact absurd c25 (by decide)
                  · refine ww_iload dX3_readSum_28 rfl ?_
                    refine ww_bipush (v := nI 45) dX3_readSum_30 (by decide) ?_
                    refine ww_icmp_eq (tgt := 36) dX3_readSum_32 (by decide) (fun c32 => ?_) (fun c32 => ?_)
                    · exact absurd c32 (by decide)
                    · exact ww_vret dX3_readSum_35 rfl ⟨rfl, (by rw [prdL_i (by assumption) (isA_t.mpr (by omega)), hr29, bS_l]; exact ⟨_, (by assumption), rfl⟩)⟩
            · rw [hr29] at qo29
              have qo29 : _ = _ := qo29
              subst qo29
              have hf29 := (hg29).r hr29
              refine ww_aload_n dX3_readSum_48 rfl rfl ?_
              refine ww_iload dX3_readSum_49 rfl ?_
              refine ww_bipush (v := nI 43) dX3_readSum_51 (by decide) ?_
              refine ww_icmp_neN (tgt := 60) dX3_readSum_53 (by decide) (by omega) (by omega) (fun c53 => ?_) (fun c53 => ?_)
              · refine ww_iconst (v := nI 3) dX3_readSum_60 (by decide) ?_
                refine ww_iconst (v := nI 0) dX3_readSum_61 (by decide) ?_
                have he31 : (eL 3 0 L29).1 = L29.1 + 1 := rfl
                refine ww_cV0 (M := m_X3_readSum) (pc := 62) (h1 := rdS (lwS h b (eL 3 0 L29)) n a29 0 (-1)) (st := []) (d := d + 2) (bc := 0) (bs := 0) (c_Lw_add hst hR hB hn hb a29 0 (-1) L29 (by omega) 3 0) vv_X3_add dX3_readSum_62 wg_622 hb.1 rfl rfl rfl rfl (by omega) (Nat.le_of_ble_eq_true rfl) (Nat.le_of_ble_eq_true rfl) (Nat.le_of_ble_eq_true rfl) ?_
                refine ww_incN (c := 1) (lv2 := [.ref b, .ref 1, .int (nI o), .int (nI (i + 1)), .int (nI (T (sk T n a)))]) dX3_readSum_65 rfl rfl rfl (by decide) rfl ?_
                refine ww_goto (tgt := 8) dX3_readSum_68 (by decide) ?_
                rw [prdL_i (by assumption) (isA_t.mpr (by omega)), hr29, bS_r, show opA (T (sk T n a)) = 3 from by unfold opA; first | (exfalso; omega) | rw [if_pos (by omega)] | rw [if_neg (by omega), if_pos (by omega)] | rw [if_neg (by omega), if_neg (by omega)] | rw [if_neg (by omega)]]
                refine ww_fg (lv2 := [.ref b, .ref 1, .int (nI o), .int (nI (i + 1)), UU]) ⟨Or.inr rfl, Or.inr rfl, Or.inr rfl, Or.inr rfl, Or.inl rfl, trivial⟩ ?_
                exact ih (i + 1) a29 (eL 3 0 L29) (by omega) (by omega) (by omega)
              · refine ww_iconst (v := nI 2) dX3_readSum_56 (by decide) ?_
                refine ww_goto (tgt := 61) dX3_readSum_57 (by decide) ?_
                refine ww_iconst (v := nI 0) dX3_readSum_61 (by decide) ?_
                have he32 : (eL 2 0 L29).1 = L29.1 + 1 := rfl
                refine ww_cV0 (M := m_X3_readSum) (pc := 62) (h1 := rdS (lwS h b (eL 2 0 L29)) n a29 0 (-1)) (st := []) (d := d + 2) (bc := 0) (bs := 0) (c_Lw_add hst hR hB hn hb a29 0 (-1) L29 (by omega) 2 0) vv_X3_add dX3_readSum_62 wg_622 hb.1 rfl rfl rfl rfl (by omega) (Nat.le_of_ble_eq_true rfl) (Nat.le_of_ble_eq_true rfl) (Nat.le_of_ble_eq_true rfl) ?_
                refine ww_incN (c := 1) (lv2 := [.ref b, .ref 1, .int (nI o), .int (nI (i + 1)), .int (nI (T (sk T n a)))]) dX3_readSum_65 rfl rfl rfl (by decide) rfl ?_
                refine ww_goto (tgt := 8) dX3_readSum_68 (by decide) ?_
                rw [prdL_i (by assumption) (isA_t.mpr (by omega)), hr29, bS_r, show opA (T (sk T n a)) = 2 from by unfold opA; first | (exfalso; omega) | rw [if_pos (by omega)] | rw [if_neg (by omega), if_pos (by omega)] | rw [if_neg (by omega), if_neg (by omega)] | rw [if_neg (by omega)]]
                refine ww_fg (lv2 := [.ref b, .ref 1, .int (nI o), .int (nI (i + 1)), UU]) ⟨Or.inr rfl, Or.inr rfl, Or.inr rfl, Or.inr rfl, Or.inl rfl, trivial⟩ ?_
                exact ih (i + 1) a29 (eL 2 0 L29) (by omega) (by omega) (by omega)
          · exact ww_vret dX3_readSum_35 rfl ⟨rfl, (by rw [prdL_e (fun e => by have e9 := isA_t.mp e.2; omega)]; exact rfl)⟩
      · refine ww_cVr (M := m_X3_readSum) (pc := 16) (v := .int (-1)) (h1 := rdS (lwS h b L) n n 0 (-1)) (st := []) (d := d + 2) (bc := 0) (bs := 0) (c_Rd_ahead_e hst (hR.lw hb3 L) hB hn 0 (-1) a (by omega) hl23) vv_X5_ahead dX3_readSum_16 wg_620 ((hR.lw hb3 L).1) rfl rfl rfl rfl (by omega) (Nat.le_of_ble_eq_true rfl) (Nat.le_of_ble_eq_true rfl) (Nat.le_of_ble_eq_true rfl) ?_
        refine ww_sti (lv2 := [.ref b, .ref 1, .int (nI o), .int (nI i), .int (-1)]) dX3_readSum_19 rfl (by decide) rfl ?_
        refine ww_iload dX3_readSum_21 rfl ?_
        refine ww_bipush (v := nI 43) dX3_readSum_23 (by decide) ?_
        refine ww_icmp_eq (tgt := 36) dX3_readSum_25 (by decide) (fun c25 => ?_) (fun c25 => ?_)
        · exact absurd c25 (by decide)
        · refine ww_iload dX3_readSum_28 rfl ?_
          refine ww_bipush (v := nI 45) dX3_readSum_30 (by decide) ?_
          refine ww_icmp_eq (tgt := 36) dX3_readSum_32 (by decide) (fun c32 => ?_) (fun c32 => ?_)
          · exact absurd c32 (by decide)
          · exact ww_vret dX3_readSum_35 rfl ⟨rfl, (by rw [prdL_e (fun e => by omega), show sk T n a = n by omega]; exact rfl)⟩
set_option maxHeartbeats 4000000 in
set_option maxRecDepth 100000 in
theorem c_Lw_prod {l : Launch} {Z : EE} (hst : l.stackTraces = false) {h : PH} {tf : Nat → Int32} (hR : RdK h tf) {T : Nat → Nat} (hB : BT tf T) {n : Nat} (hn : n ≤ 600) {b : Nat} (hb : LwK h b) (hn5 : n ≤ 150) {d : Nat} (hd6 : 6 ≤ d) (o : Nat) {U : Nat} {unit : Nat → LWt → PR LWt} (hG0 : GoodU n U unit) (hU : ∀ (a : Nat) (L : LWt), a ≤ n → L.1 ≤ a → CC l Z m_X3_readUnit d 0 0 [.ref b, .ref 1, .int (nI o)] (rdS (lwS h b L) n a 0 (-1)) (RQ none (LwO h b n (unit a L)))) (a : Nat) (L : LWt) (ha : a ≤ n) (hL : L.1 ≤ a) : CC l Z m_X3_readProduct (d + 1) 0 0 [.ref b, .ref 1, .int (nI o)] (rdS (lwS h b L) n a 0 (-1)) (RQ none (LwO h b n (prdS unit T n a L))) := by
  refine ee_entry hst (by decide +kernel) rfl rfl (by simp [Value.category]) (Nat.le_of_ble_eq_true rfl) ?_
  refine ww_lv (lv2 := [.ref b, .ref 1, .int (nI o), UU, UU]) rfl ?_
  have hb3 := hb.2.2.2.2.2
  have hG := hG0
  refine ww_aload_n dX3_readProduct_0 rfl rfl ?_
  refine ww_aload_n dX3_readProduct_1 rfl rfl ?_
  refine ww_iload_n dX3_readProduct_2 rfl rfl ?_
  have hg34 := hG a L (by omega)
  refine ww_cVq0 (M := m_X3_readProduct) (pc := 3) (st := []) (d := d + 1) (bc := 0) (bs := 0) (hU a L (by omega) (by omega)) vv_X3_readUnit dX3_readProduct_3 wg_616 hb.1 rfl rfl rfl rfl (by omega) (Nat.le_of_ble_eq_true rfl) (Nat.le_of_ble_eq_true rfl) (Nat.le_of_ble_eq_true rfl) (fun ho34 qo34 => ?_)
  rcases hr34 : unit a L with ⟨k34, q34⟩ | ⟨a34, L34⟩
  · rw [hr34] at qo34
    obtain ⟨L34, hL34, rfl⟩ := qo34
    have hf34 := (hg34).l hr34
    refine ww_iconst (v := nI 0) dX3_readProduct_6 (by decide) ?_
    refine ww_sti_n (lv2 := [.ref b, .ref 1, .int (nI o), .int (nI 0), UU]) dX3_readProduct_7 rfl rfl (by decide) rfl ?_
    refine ww_iload_n dX3_readProduct_8 rfl rfl ?_
    refine ww_sipush (v := nI 150) dX3_readProduct_9 (by decide) ?_
    refine ww_icmp_geN (tgt := 90) dX3_readProduct_12 (by decide) (by omega) (by omega) (fun c12 => ?_) (fun c12 => ?_)
    · exact absurd c12 (by decide)
    · refine ww_aload_n dX3_readProduct_15 rfl rfl ?_
      refine ww_cVr (M := m_X3_readProduct) (pc := 16) (v := .int (-1)) (h1 := rdS (lwS h b L34) n n k34 (nI q34)) (st := []) (d := d + 1) (bc := 0) (bs := 0) (c_Rd_ahead_f hst (hR.lw hb3 L34) hB hn k34 (by omega) (by omega) (nI q34)) vv_X5_ahead dX3_readProduct_16 wg_620 ((hR.lw hb3 L34).1) rfl rfl rfl rfl (by omega) (Nat.le_of_ble_eq_true rfl) (Nat.le_of_ble_eq_true rfl) (Nat.le_of_ble_eq_true rfl) ?_
      refine ww_sti (lv2 := [.ref b, .ref 1, .int (nI o), .int (nI 0), .int (-1)]) dX3_readProduct_19 rfl (by decide) rfl ?_
      refine ww_iload dX3_readProduct_21 rfl ?_
      refine ww_bipush (v := nI 42) dX3_readProduct_23 (by decide) ?_
      refine ww_icmp_eq (tgt := 43) dX3_readProduct_25 (by decide) (fun c25 => ?_) (fun c25 => ?_)
      · exact absurd c25 (by decide)
      · refine ww_iload dX3_readProduct_28 rfl ?_
        refine ww_bipush (v := nI 47) dX3_readProduct_30 (by decide) ?_
        refine ww_icmp_eq (tgt := 43) dX3_readProduct_32 (by decide) (fun c32 => ?_) (fun c32 => ?_)
        · exact absurd c32 (by decide)
        · refine ww_iload dX3_readProduct_35 rfl ?_
          refine ww_bipush (v := nI 37) dX3_readProduct_37 (by decide) ?_
          refine ww_icmp_eq (tgt := 43) dX3_readProduct_39 (by decide) (fun c39 => ?_) (fun c39 => ?_)
          · exact absurd c39 (by decide)
          · exact ww_vret dX3_readProduct_42 rfl ⟨rfl, (by unfold prdS; rw [hr34, bS_l]; exact ⟨_, (by assumption), rfl⟩)⟩
  · rw [hr34] at qo34
    have qo34 : _ = _ := qo34
    subst qo34
    have hf34 := (hg34).r hr34
    refine ww_iconst (v := nI 0) dX3_readProduct_6 (by decide) ?_
    refine ww_sti_n (lv2 := [.ref b, .ref 1, .int (nI o), .int (nI 0), UU]) dX3_readProduct_7 rfl rfl (by decide) rfl ?_
    unfold prdS
    rw [hr34, bS_r]
    exact l_Lw_prod hst hR hB hn hb hn5 hd6 o hG hU 150 0 a34 L34 (by omega) (by omega) (by omega)
set_option maxHeartbeats 4000000 in
set_option maxRecDepth 100000 in
theorem c_Lw_sum {l : Launch} {Z : EE} (hst : l.stackTraces = false) {h : PH} {tf : Nat → Int32} (hR : RdK h tf) {T : Nat → Nat} (hB : BT tf T) {n : Nat} (hn : n ≤ 600) {b : Nat} (hb : LwK h b) (hn5 : n ≤ 150) {d : Nat} (hd6 : 6 ≤ d) (o : Nat) {U : Nat} {unit : Nat → LWt → PR LWt} (hG0 : GoodU n U unit) (hU : ∀ (a : Nat) (L : LWt), a ≤ n → L.1 ≤ a → CC l Z m_X3_readProduct (d + 1) 0 0 [.ref b, .ref 1, .int (nI o)] (rdS (lwS h b L) n a 0 (-1)) (RQ none (LwO h b n ((prdS unit T n) a L)))) (a : Nat) (L : LWt) (ha : a ≤ n) (hL : L.1 ≤ a) : CC l Z m_X3_readSum (d + 2) 0 0 [.ref b, .ref 1, .int (nI o)] (rdS (lwS h b L) n a 0 (-1)) (RQ none (LwO h b n (sumS unit T n a L))) := by
  refine ee_entry hst (by decide +kernel) rfl rfl (by simp [Value.category]) (Nat.le_of_ble_eq_true rfl) ?_
  refine ww_lv (lv2 := [.ref b, .ref 1, .int (nI o), UU, UU]) rfl ?_
  have hb3 := hb.2.2.2.2.2
  have hG := prdS_G (T := T) hG0
  refine ww_aload_n dX3_readSum_0 rfl rfl ?_
  refine ww_aload_n dX3_readSum_1 rfl rfl ?_
  refine ww_iload_n dX3_readSum_2 rfl rfl ?_
  have hg35 := hG a L (by omega)
  refine ww_cVq0 (M := m_X3_readSum) (pc := 3) (st := []) (d := d + 2) (bc := 0) (bs := 0) (hU a L (by omega) (by omega)) vv_X3_readProduct dX3_readSum_3 wg_612 hb.1 rfl rfl rfl rfl (by omega) (Nat.le_of_ble_eq_true rfl) (Nat.le_of_ble_eq_true rfl) (Nat.le_of_ble_eq_true rfl) (fun ho35 qo35 => ?_)
  rcases hr35 : (prdS unit T n) a L with ⟨k35, q35⟩ | ⟨a35, L35⟩
  · rw [hr35] at qo35
    obtain ⟨L35, hL35, rfl⟩ := qo35
    have hf35 := (hg35).l hr35
    refine ww_iconst (v := nI 0) dX3_readSum_6 (by decide) ?_
    refine ww_sti_n (lv2 := [.ref b, .ref 1, .int (nI o), .int (nI 0), UU]) dX3_readSum_7 rfl rfl (by decide) rfl ?_
    refine ww_iload_n dX3_readSum_8 rfl rfl ?_
    refine ww_sipush (v := nI 150) dX3_readSum_9 (by decide) ?_
    refine ww_icmp_geN (tgt := 71) dX3_readSum_12 (by decide) (by omega) (by omega) (fun c12 => ?_) (fun c12 => ?_)
    · exact absurd c12 (by decide)
    · refine ww_aload_n dX3_readSum_15 rfl rfl ?_
      refine ww_cVr (M := m_X3_readSum) (pc := 16) (v := .int (-1)) (h1 := rdS (lwS h b L35) n n k35 (nI q35)) (st := []) (d := d + 2) (bc := 0) (bs := 0) (c_Rd_ahead_f hst (hR.lw hb3 L35) hB hn k35 (by omega) (by omega) (nI q35)) vv_X5_ahead dX3_readSum_16 wg_620 ((hR.lw hb3 L35).1) rfl rfl rfl rfl (by omega) (Nat.le_of_ble_eq_true rfl) (Nat.le_of_ble_eq_true rfl) (Nat.le_of_ble_eq_true rfl) ?_
      refine ww_sti (lv2 := [.ref b, .ref 1, .int (nI o), .int (nI 0), .int (-1)]) dX3_readSum_19 rfl (by decide) rfl ?_
      refine ww_iload dX3_readSum_21 rfl ?_
      refine ww_bipush (v := nI 43) dX3_readSum_23 (by decide) ?_
      refine ww_icmp_eq (tgt := 36) dX3_readSum_25 (by decide) (fun c25 => ?_) (fun c25 => ?_)
      · exact absurd c25 (by decide)
      · refine ww_iload dX3_readSum_28 rfl ?_
        refine ww_bipush (v := nI 45) dX3_readSum_30 (by decide) ?_
        refine ww_icmp_eq (tgt := 36) dX3_readSum_32 (by decide) (fun c32 => ?_) (fun c32 => ?_)
        · exact absurd c32 (by decide)
        · exact ww_vret dX3_readSum_35 rfl ⟨rfl, (by unfold sumS; rw [hr35, bS_l]; exact ⟨_, (by assumption), rfl⟩)⟩
  · rw [hr35] at qo35
    have qo35 : _ = _ := qo35
    subst qo35
    have hf35 := (hg35).r hr35
    refine ww_iconst (v := nI 0) dX3_readSum_6 (by decide) ?_
    refine ww_sti_n (lv2 := [.ref b, .ref 1, .int (nI o), .int (nI 0), UU]) dX3_readSum_7 rfl rfl (by decide) rfl ?_
    unfold sumS
    rw [hr35, bS_r]
    exact l_Lw_sum hst hR hB hn hb hn5 hd6 o hG hU 150 0 a35 L35 (by omega) (by omega) (by omega)
set_option maxHeartbeats 4000000 in
set_option maxRecDepth 100000 in
theorem c_Lw_pair {l : Launch} {Z : EE} (hst : l.stackTraces = false) {h : PH} {tf : Nat → Int32} (hR : RdK h tf) {T : Nat → Nat} (hB : BT tf T) {n : Nat} (hn : n ≤ 600) {b : Nat} (hb : LwK h b) (hn5 : n ≤ 150) {d : Nat} (hd6 : 6 ≤ d) (o : Nat) {U : Nat} {S : Nat → LWt → PR LWt} (hG : GoodU n U S) (hS : ∀ (a : Nat) (L : LWt), a ≤ n → L.1 ≤ a → CC l Z m_X3_readSum (d + 2) 0 0 [.ref b, .ref 1, .int (nI o)] (rdS (lwS h b L) n a 0 (-1)) (RQ none (LwO h b n (S a L)))) (a : Nat) (L : LWt) (ha : a ≤ n) (hL : L.1 ≤ a) : CC l Z m_X3_readPair (d + 3) 0 0 [.ref b, .ref 1, .int (nI o)] (rdS (lwS h b L) n a 0 (-1)) (RQ none (LwO h b n (parS S T n a L))) := by
  refine ee_entry hst (by decide +kernel) rfl rfl (by simp [Value.category]) (Nat.le_of_ble_eq_true rfl) ?_
  refine ww_lv (lv2 := [.ref b, .ref 1, .int (nI o)]) rfl ?_
  have hb3 := hb.2.2.2.2.2
  refine ww_aload_n dX3_readPair_0 rfl rfl ?_
  refine ww_bipush (v := nI 91) dX3_readPair_1 (by decide) ?_
  rcases hr36 : sgnS T n 91 a with ⟨k36, q36⟩ | ⟨a36, u36⟩
  · have hf36 := (sgnS_l hr36).1
    refine ww_cV0 (M := m_X3_readPair) (pc := 3) (h1 := rdS (lwS h b L) n n k36 (nI q36)) (st := []) (d := (d + 3)) (bc := 0) (bs := 0) (c_Rd_sign_l hst (hR.lw hb3 L) hB hn a (by omega) 91 (by omega) hr36) vv_X5_sign dX3_readPair_3 wg_630 ((hR.lw hb3 L).1) rfl rfl rfl rfl (by omega) (Nat.le_of_ble_eq_true rfl) (Nat.le_of_ble_eq_true rfl) (Nat.le_of_ble_eq_true rfl) ?_
    refine ww_aload_n dX3_readPair_6 rfl rfl ?_
    refine ww_aload_n dX3_readPair_7 rfl rfl ?_
    refine ww_iload_n dX3_readPair_8 rfl rfl ?_
    refine ww_cV0 (M := m_X3_readPair) (pc := 9) (h1 := rdS (lwS h b L) n n k36 (nI q36)) (st := []) (d := (d + 3)) (bc := 0) (bs := 0) (c_Lw_sum_f hst hR hB hn hb L k36 (by omega) (by omega) (nI q36) (nI o)) vv_X3_readSum dX3_readPair_9 wg_608 hb.1 rfl rfl rfl rfl (by omega) (Nat.le_of_ble_eq_true rfl) (Nat.le_of_ble_eq_true rfl) (Nat.le_of_ble_eq_true rfl) ?_
    refine ww_aload_n dX3_readPair_12 rfl rfl ?_
    refine ww_bipush (v := nI 44) dX3_readPair_13 (by decide) ?_
    refine ww_cV0 (M := m_X3_readPair) (pc := 15) (h1 := rdS (lwS h b L) n n k36 (nI q36)) (st := []) (d := (d + 3)) (bc := 0) (bs := 0) (c_Rd_sign_f hst (hR.lw hb3 L) hB hn k36 (by omega) (by omega) (nI q36) 44 (by omega)) vv_X5_sign dX3_readPair_15 wg_630 ((hR.lw hb3 L).1) rfl rfl rfl rfl (by omega) (Nat.le_of_ble_eq_true rfl) (Nat.le_of_ble_eq_true rfl) (Nat.le_of_ble_eq_true rfl) ?_
    refine ww_aload_n dX3_readPair_18 rfl rfl ?_
    refine ww_aload_n dX3_readPair_19 rfl rfl ?_
    refine ww_iload_n dX3_readPair_20 rfl rfl ?_
    refine ww_cV0 (M := m_X3_readPair) (pc := 21) (h1 := rdS (lwS h b L) n n k36 (nI q36)) (st := []) (d := (d + 3)) (bc := 0) (bs := 0) (c_Lw_sum_f hst hR hB hn hb L k36 (by omega) (by omega) (nI q36) (nI o)) vv_X3_readSum dX3_readPair_21 wg_608 hb.1 rfl rfl rfl rfl (by omega) (Nat.le_of_ble_eq_true rfl) (Nat.le_of_ble_eq_true rfl) (Nat.le_of_ble_eq_true rfl) ?_
    refine ww_aload_n dX3_readPair_24 rfl rfl ?_
    refine ww_bipush (v := nI 93) dX3_readPair_25 (by decide) ?_
    refine ww_cV0 (M := m_X3_readPair) (pc := 27) (h1 := rdS (lwS h b L) n n k36 (nI q36)) (st := []) (d := (d + 3)) (bc := 0) (bs := 0) (c_Rd_sign_f hst (hR.lw hb3 L) hB hn k36 (by omega) (by omega) (nI q36) 93 (by omega)) vv_X5_sign dX3_readPair_27 wg_630 ((hR.lw hb3 L).1) rfl rfl rfl rfl (by omega) (Nat.le_of_ble_eq_true rfl) (Nat.le_of_ble_eq_true rfl) (Nat.le_of_ble_eq_true rfl) ?_
    exact ww_vret dX3_readPair_30 rfl ⟨rfl, (by unfold parS; rw [hr36, bS_l]; exact ⟨_, (by omega), rfl⟩)⟩
  · have hf36 := sgnS_r hr36
    have hg36 := sk_ge (T := T) (show a ≤ n by omega)
    refine ww_cV0 (M := m_X3_readPair) (pc := 3) (h1 := rdS (lwS h b L) n a36 0 (-1)) (st := []) (d := (d + 3)) (bc := 0) (bs := 0) (c_Rd_sign_r hst (hR.lw hb3 L) hB hn a (by omega) 91 (by omega) hr36) vv_X5_sign dX3_readPair_3 wg_630 ((hR.lw hb3 L).1) rfl rfl rfl rfl (by omega) (Nat.le_of_ble_eq_true rfl) (Nat.le_of_ble_eq_true rfl) (Nat.le_of_ble_eq_true rfl) ?_
    refine ww_aload_n dX3_readPair_6 rfl rfl ?_
    refine ww_aload_n dX3_readPair_7 rfl rfl ?_
    refine ww_iload_n dX3_readPair_8 rfl rfl ?_
    have hg37 := hG a36 L (by omega)
    refine ww_cVq0 (M := m_X3_readPair) (pc := 9) (st := []) (d := (d + 3)) (bc := 0) (bs := 0) (hS a36 L (by omega) (by omega)) vv_X3_readSum dX3_readPair_9 wg_608 hb.1 rfl rfl rfl rfl (by omega) (Nat.le_of_ble_eq_true rfl) (Nat.le_of_ble_eq_true rfl) (Nat.le_of_ble_eq_true rfl) (fun ho37 qo37 => ?_)
    rcases hr37 : S a36 L with ⟨k37, q37⟩ | ⟨a37, L37⟩
    · rw [hr37] at qo37
      obtain ⟨L37, hL37, rfl⟩ := qo37
      have hf37 := (hg37).l hr37
      refine ww_aload_n dX3_readPair_12 rfl rfl ?_
      refine ww_bipush (v := nI 44) dX3_readPair_13 (by decide) ?_
      refine ww_cV0 (M := m_X3_readPair) (pc := 15) (h1 := rdS (lwS h b L37) n n k37 (nI q37)) (st := []) (d := (d + 3)) (bc := 0) (bs := 0) (c_Rd_sign_f hst (hR.lw hb3 L37) hB hn k37 (by omega) (by omega) (nI q37) 44 (by omega)) vv_X5_sign dX3_readPair_15 wg_630 ((hR.lw hb3 L37).1) rfl rfl rfl rfl (by omega) (Nat.le_of_ble_eq_true rfl) (Nat.le_of_ble_eq_true rfl) (Nat.le_of_ble_eq_true rfl) ?_
      refine ww_aload_n dX3_readPair_18 rfl rfl ?_
      refine ww_aload_n dX3_readPair_19 rfl rfl ?_
      refine ww_iload_n dX3_readPair_20 rfl rfl ?_
      refine ww_cV0 (M := m_X3_readPair) (pc := 21) (h1 := rdS (lwS h b L37) n n k37 (nI q37)) (st := []) (d := (d + 3)) (bc := 0) (bs := 0) (c_Lw_sum_f hst hR hB hn hb L37 k37 (by omega) (by omega) (nI q37) (nI o)) vv_X3_readSum dX3_readPair_21 wg_608 hb.1 rfl rfl rfl rfl (by omega) (Nat.le_of_ble_eq_true rfl) (Nat.le_of_ble_eq_true rfl) (Nat.le_of_ble_eq_true rfl) ?_
      refine ww_aload_n dX3_readPair_24 rfl rfl ?_
      refine ww_bipush (v := nI 93) dX3_readPair_25 (by decide) ?_
      refine ww_cV0 (M := m_X3_readPair) (pc := 27) (h1 := rdS (lwS h b L37) n n k37 (nI q37)) (st := []) (d := (d + 3)) (bc := 0) (bs := 0) (c_Rd_sign_f hst (hR.lw hb3 L37) hB hn k37 (by omega) (by omega) (nI q37) 93 (by omega)) vv_X5_sign dX3_readPair_27 wg_630 ((hR.lw hb3 L37).1) rfl rfl rfl rfl (by omega) (Nat.le_of_ble_eq_true rfl) (Nat.le_of_ble_eq_true rfl) (Nat.le_of_ble_eq_true rfl) ?_
      exact ww_vret dX3_readPair_30 rfl ⟨rfl, (by unfold parS; rw [hr36, bS_r, hr37, bS_l]; exact ⟨_, (by omega), rfl⟩)⟩
    · rw [hr37] at qo37
      have qo37 : _ = _ := qo37
      subst qo37
      have hf37 := (hg37).r hr37
      refine ww_aload_n dX3_readPair_12 rfl rfl ?_
      refine ww_bipush (v := nI 44) dX3_readPair_13 (by decide) ?_
      rcases hr38 : sgnS T n 44 a37 with ⟨k38, q38⟩ | ⟨a38, u38⟩
      · have hf38 := (sgnS_l hr38).1
        refine ww_cV0 (M := m_X3_readPair) (pc := 15) (h1 := rdS (lwS h b L37) n n k38 (nI q38)) (st := []) (d := (d + 3)) (bc := 0) (bs := 0) (c_Rd_sign_l hst (hR.lw hb3 L37) hB hn a37 (by omega) 44 (by omega) hr38) vv_X5_sign dX3_readPair_15 wg_630 ((hR.lw hb3 L37).1) rfl rfl rfl rfl (by omega) (Nat.le_of_ble_eq_true rfl) (Nat.le_of_ble_eq_true rfl) (Nat.le_of_ble_eq_true rfl) ?_
        refine ww_aload_n dX3_readPair_18 rfl rfl ?_
        refine ww_aload_n dX3_readPair_19 rfl rfl ?_
        refine ww_iload_n dX3_readPair_20 rfl rfl ?_
        refine ww_cV0 (M := m_X3_readPair) (pc := 21) (h1 := rdS (lwS h b L37) n n k38 (nI q38)) (st := []) (d := (d + 3)) (bc := 0) (bs := 0) (c_Lw_sum_f hst hR hB hn hb L37 k38 (by omega) (by omega) (nI q38) (nI o)) vv_X3_readSum dX3_readPair_21 wg_608 hb.1 rfl rfl rfl rfl (by omega) (Nat.le_of_ble_eq_true rfl) (Nat.le_of_ble_eq_true rfl) (Nat.le_of_ble_eq_true rfl) ?_
        refine ww_aload_n dX3_readPair_24 rfl rfl ?_
        refine ww_bipush (v := nI 93) dX3_readPair_25 (by decide) ?_
        refine ww_cV0 (M := m_X3_readPair) (pc := 27) (h1 := rdS (lwS h b L37) n n k38 (nI q38)) (st := []) (d := (d + 3)) (bc := 0) (bs := 0) (c_Rd_sign_f hst (hR.lw hb3 L37) hB hn k38 (by omega) (by omega) (nI q38) 93 (by omega)) vv_X5_sign dX3_readPair_27 wg_630 ((hR.lw hb3 L37).1) rfl rfl rfl rfl (by omega) (Nat.le_of_ble_eq_true rfl) (Nat.le_of_ble_eq_true rfl) (Nat.le_of_ble_eq_true rfl) ?_
        exact ww_vret dX3_readPair_30 rfl ⟨rfl, (by unfold parS; rw [hr36, bS_r, hr37, bS_r, hr38, bS_l]; exact ⟨_, (by omega), rfl⟩)⟩
      · have hf38 := sgnS_r hr38
        have hg38 := sk_ge (T := T) (show a37 ≤ n by omega)
        refine ww_cV0 (M := m_X3_readPair) (pc := 15) (h1 := rdS (lwS h b L37) n a38 0 (-1)) (st := []) (d := (d + 3)) (bc := 0) (bs := 0) (c_Rd_sign_r hst (hR.lw hb3 L37) hB hn a37 (by omega) 44 (by omega) hr38) vv_X5_sign dX3_readPair_15 wg_630 ((hR.lw hb3 L37).1) rfl rfl rfl rfl (by omega) (Nat.le_of_ble_eq_true rfl) (Nat.le_of_ble_eq_true rfl) (Nat.le_of_ble_eq_true rfl) ?_
        refine ww_aload_n dX3_readPair_18 rfl rfl ?_
        refine ww_aload_n dX3_readPair_19 rfl rfl ?_
        refine ww_iload_n dX3_readPair_20 rfl rfl ?_
        have hg39 := hG a38 L37 (by omega)
        refine ww_cVq0 (M := m_X3_readPair) (pc := 21) (st := []) (d := (d + 3)) (bc := 0) (bs := 0) (hS a38 L37 (by omega) (by omega)) vv_X3_readSum dX3_readPair_21 wg_608 hb.1 rfl rfl rfl rfl (by omega) (Nat.le_of_ble_eq_true rfl) (Nat.le_of_ble_eq_true rfl) (Nat.le_of_ble_eq_true rfl) (fun ho39 qo39 => ?_)
        rcases hr39 : S a38 L37 with ⟨k39, q39⟩ | ⟨a39, L39⟩
        · rw [hr39] at qo39
          obtain ⟨L39, hL39, rfl⟩ := qo39
          have hf39 := (hg39).l hr39
          refine ww_aload_n dX3_readPair_24 rfl rfl ?_
          refine ww_bipush (v := nI 93) dX3_readPair_25 (by decide) ?_
          refine ww_cV0 (M := m_X3_readPair) (pc := 27) (h1 := rdS (lwS h b L39) n n k39 (nI q39)) (st := []) (d := (d + 3)) (bc := 0) (bs := 0) (c_Rd_sign_f hst (hR.lw hb3 L39) hB hn k39 (by omega) (by omega) (nI q39) 93 (by omega)) vv_X5_sign dX3_readPair_27 wg_630 ((hR.lw hb3 L39).1) rfl rfl rfl rfl (by omega) (Nat.le_of_ble_eq_true rfl) (Nat.le_of_ble_eq_true rfl) (Nat.le_of_ble_eq_true rfl) ?_
          exact ww_vret dX3_readPair_30 rfl ⟨rfl, (by unfold parS; rw [hr36, bS_r, hr37, bS_r, hr38, bS_r, hr39, bS_l]; exact ⟨_, (by omega), rfl⟩)⟩
        · rw [hr39] at qo39
          have qo39 : _ = _ := qo39
          subst qo39
          have hf39 := (hg39).r hr39
          refine ww_aload_n dX3_readPair_24 rfl rfl ?_
          refine ww_bipush (v := nI 93) dX3_readPair_25 (by decide) ?_
          rcases hr40 : sgnS T n 93 a39 with ⟨k40, q40⟩ | ⟨a40, u40⟩
          · have hf40 := (sgnS_l hr40).1
            refine ww_cV0 (M := m_X3_readPair) (pc := 27) (h1 := rdS (lwS h b L39) n n k40 (nI q40)) (st := []) (d := (d + 3)) (bc := 0) (bs := 0) (c_Rd_sign_l hst (hR.lw hb3 L39) hB hn a39 (by omega) 93 (by omega) hr40) vv_X5_sign dX3_readPair_27 wg_630 ((hR.lw hb3 L39).1) rfl rfl rfl rfl (by omega) (Nat.le_of_ble_eq_true rfl) (Nat.le_of_ble_eq_true rfl) (Nat.le_of_ble_eq_true rfl) ?_
            exact ww_vret dX3_readPair_30 rfl ⟨rfl, (by unfold parS; rw [hr36, bS_r, hr37, bS_r, hr38, bS_r, hr39, bS_r, hr40, bS_l]; exact ⟨_, (by omega), rfl⟩)⟩
          · have hf40 := sgnS_r hr40
            have hg40 := sk_ge (T := T) (show a39 ≤ n by omega)
            refine ww_cV0 (M := m_X3_readPair) (pc := 27) (h1 := rdS (lwS h b L39) n a40 0 (-1)) (st := []) (d := (d + 3)) (bc := 0) (bs := 0) (c_Rd_sign_r hst (hR.lw hb3 L39) hB hn a39 (by omega) 93 (by omega) hr40) vv_X5_sign dX3_readPair_27 wg_630 ((hR.lw hb3 L39).1) rfl rfl rfl rfl (by omega) (Nat.le_of_ble_eq_true rfl) (Nat.le_of_ble_eq_true rfl) (Nat.le_of_ble_eq_true rfl) ?_
            exact ww_vret dX3_readPair_30 rfl ⟨rfl, (by unfold parS; rw [hr36, bS_r, hr37, bS_r, hr38, bS_r, hr39, bS_r, hr40, bS_r]; exact rfl)⟩
set_option maxHeartbeats 4000000 in
set_option maxRecDepth 100000 in
theorem c_Lw_unit0 {l : Launch} {Z : EE} (hst : l.stackTraces = false) {h : PH} {tf : Nat → Int32} (hR : RdK h tf) {T : Nat → Nat} (hB : BT tf T) {n : Nat} (hn : n ≤ 600) {b : Nat} (hb : LwK h b) (hn5 : n ≤ 150) {d : Nat} (hd6 : 6 ≤ d) (o : Nat) (ho : o = 6) (a : Nat) (L : LWt) (ha : a ≤ n) (hL : L.1 ≤ a) : CC l Z m_X3_readUnit (d) 0 0 [.ref b, .ref 1, .int (nI o)] (rdS (lwS h b L) n a 0 (-1)) (RQ none (LwO h b n (unitF none T n a L))) := by
  refine ee_entry hst (by decide +kernel) rfl rfl (by simp [Value.category]) (Nat.le_of_ble_eq_true rfl) ?_
  refine ww_lv (lv2 := [.ref b, .ref 1, .int (nI o), UU, UU, UU]) rfl ?_
  have hb3 := hb.2.2.2.2.2
  refine ww_aload_n dX3_readUnit_0 rfl rfl ?_
  have hsl41 := sk_le (T := T) (show a ≤ n by omega)
  have hsg41 := sk_ge (T := T) (show a ≤ n by omega)
  have hsT41 := (hB (sk T n a)).2
  by_cases hl41 : sk T n a < n
  · refine ww_cVr (M := m_X3_readUnit) (pc := 1) (v := .int (nI (T (sk T n a)))) (h1 := rdS (lwS h b L) n (sk T n a) 0 (-1)) (st := []) (d := (d)) (bc := 0) (bs := 0) (c_Rd_ahead_i hst (hR.lw hb3 L) hB hn 0 (-1) a (by omega) hl41) vv_X5_ahead dX3_readUnit_1 wg_620 ((hR.lw hb3 L).1) rfl rfl rfl rfl (by omega) (Nat.le_of_ble_eq_true rfl) (Nat.le_of_ble_eq_true rfl) (Nat.le_of_ble_eq_true rfl) ?_
    refine ww_sti_n (lv2 := [.ref b, .ref 1, .int (nI o), .int (nI (T (sk T n a))), UU, UU]) dX3_readUnit_4 rfl rfl (by decide) rfl ?_
    refine ww_aload_n dX3_readUnit_5 rfl rfl ?_
    refine ww_getN 3 dX3_readUnit_6 ((hR.lw hb3 L).1) rfl (by decide) inX5 wn_46 (rdS_3 _ _ _ _ _) ?_
    refine ww_sti (lv2 := [.ref b, .ref 1, .int (nI o), .int (nI (T (sk T n a))), .int (nI (sk T n a)), UU]) dX3_readUnit_9 rfl (by decide) rfl ?_
    refine ww_iload_n dX3_readUnit_11 rfl rfl ?_
    refine ww_bipush (v := nI 48) dX3_readUnit_12 (by decide) ?_
    refine ww_icmp_ltN (tgt := 39) dX3_readUnit_14 (by decide) (by omega) (by omega) (fun c14 => ?_) (fun c14 => ?_)
    · refine ww_iload_n dX3_readUnit_39 rfl rfl ?_
      refine ww_bipush (v := nI 40) dX3_readUnit_40 (by decide) ?_
      refine ww_icmp_neN (tgt := 78) dX3_readUnit_42 (by decide) (by omega) (by omega) (fun c42 => ?_) (fun c42 => ?_)
      · refine ww_aload_n dX3_readUnit_78 rfl rfl ?_
        refine ww_ldcS (i := 2) dX3_readUnit_79 rfl ?_
        rcases hr42 : wrdS wLaw T n (sk T n a) with ⟨k42, q42⟩ | ⟨a42, v42⟩
        · have hf42 := (wrdS_l hr42).1
          refine ww_cVr (M := m_X3_readUnit) (pc := 81) (v := .int (-1)) (h1 := rdS (lwS h b L) n n k42 (nI q42)) (st := []) (d := (d)) (bc := 0) (bs := 0) (c_Rd_word_l hst (hR.lw hb3 L) hB hn (sk T n a) (by omega) 2 (by decide) (W := wLaw) (fun ln => wfd_2 T _ ln) hr42) vv_X5_word dX3_readUnit_81 wg_632 ((hR.lw hb3 L).1) rfl rfl rfl rfl (by omega) (Nat.le_of_ble_eq_true rfl) (Nat.le_of_ble_eq_true rfl) (Nat.le_of_ble_eq_true rfl) ?_
          refine ww_sti (lv2 := [.ref b, .ref 1, .int (nI o), .int (nI (T (sk T n a))), .int (nI (sk T n a)), .int (-1)]) dX3_readUnit_84 rfl (by decide) rfl ?_
          refine ww_iload dX3_readUnit_86 rfl ?_
          refine ww_bipush (v := nI 7) dX3_readUnit_88 (by decide) ?_
          refine ww_icmp_lt (tgt := 133) dX3_readUnit_90 (by decide) (fun c90 => ?_) (fun c90 => ?_)
          · refine ww_iload dX3_readUnit_133 rfl ?_
            refine ww_if_lt (tgt := 145) dX3_readUnit_135 (by decide) (fun c135 => ?_) (fun c135 => ?_)
            · exact ww_vret dX3_readUnit_145 rfl ⟨rfl, (by rw [unitF_w (fun e => ⟨by omega, by omega⟩), hr42, bS_l]; exact ⟨_, (by omega), rfl⟩)⟩
            · exact absurd c135 (by decide)
          · exact absurd c90 (by decide)
        · have hf42 := wrdS_lt wLaw_ne (by omega) hr42
          have hg42 := sk_ge (T := T) (show sk T n a ≤ n by omega)
          rcases (show v42 = 0 ∨ v42 = 1 ∨ v42 = 2 ∨ v42 = 3 ∨ v42 = 4 ∨ v42 = 5 ∨ v42 = 6 ∨ v42 = 7 ∨ v42 = 8 by have h9 := hf42.2.2; simp only [wLaw, List.length_cons, List.length_nil] at h9; omega) with rfl | rfl | rfl | rfl | rfl | rfl | rfl | rfl | rfl
          · refine ww_cVr (M := m_X3_readUnit) (pc := 81) (v := .int (nI 0)) (h1 := rdS (lwS h b L) n a42 0 (-1)) (st := []) (d := (d)) (bc := 0) (bs := 0) (c_Rd_word_r hst (hR.lw hb3 L) hB hn (sk T n a) (by omega) 2 (by decide) (W := wLaw) (fun ln => wfd_2 T _ ln) hr42) vv_X5_word dX3_readUnit_81 wg_632 ((hR.lw hb3 L).1) rfl rfl rfl rfl (by omega) (Nat.le_of_ble_eq_true rfl) (Nat.le_of_ble_eq_true rfl) (Nat.le_of_ble_eq_true rfl) ?_
            refine ww_sti (lv2 := [.ref b, .ref 1, .int (nI o), .int (nI (T (sk T n a))), .int (nI (sk T n a)), .int (nI 0)]) dX3_readUnit_84 rfl (by decide) rfl ?_
            refine ww_iload dX3_readUnit_86 rfl ?_
            refine ww_bipush (v := nI 7) dX3_readUnit_88 (by decide) ?_
            refine ww_icmp_ltN (tgt := 133) dX3_readUnit_90 (by decide) (by omega) (by omega) (fun c90 => ?_) (fun c90 => ?_)
            · refine ww_iload dX3_readUnit_133 rfl ?_
              refine ww_if_ltN (tgt := 145) dX3_readUnit_135 (by decide) (by omega) ?_
              refine ww_aload_n dX3_readUnit_138 rfl rfl ?_
              refine ww_iconst (v := nI 1) dX3_readUnit_139 (by decide) ?_
              refine ww_iload dX3_readUnit_140 rfl ?_
              have he42 : (eL 1 0 L).1 = L.1 + 1 := rfl
              refine ww_cV0 (M := m_X3_readUnit) (pc := 142) (h1 := rdS (lwS h b (eL 1 0 L)) n a42 0 (-1)) (st := []) (d := (d)) (bc := 0) (bs := 0) (c_Lw_add hst hR hB hn hb a42 0 (-1) L (by omega) 1 0) vv_X3_add dX3_readUnit_142 wg_622 hb.1 rfl rfl rfl rfl (by omega) (Nat.le_of_ble_eq_true rfl) (Nat.le_of_ble_eq_true rfl) (Nat.le_of_ble_eq_true rfl) ?_
              exact ww_vret dX3_readUnit_145 rfl ⟨rfl, (by rw [unitF_w (fun e => ⟨by omega, by omega⟩), hr42, bS_r, if_neg (by decide)]; exact rfl)⟩
            · exact absurd c90 (by decide)
          · refine ww_cVr (M := m_X3_readUnit) (pc := 81) (v := .int (nI 1)) (h1 := rdS (lwS h b L) n a42 0 (-1)) (st := []) (d := (d)) (bc := 0) (bs := 0) (c_Rd_word_r hst (hR.lw hb3 L) hB hn (sk T n a) (by omega) 2 (by decide) (W := wLaw) (fun ln => wfd_2 T _ ln) hr42) vv_X5_word dX3_readUnit_81 wg_632 ((hR.lw hb3 L).1) rfl rfl rfl rfl (by omega) (Nat.le_of_ble_eq_true rfl) (Nat.le_of_ble_eq_true rfl) (Nat.le_of_ble_eq_true rfl) ?_
            refine ww_sti (lv2 := [.ref b, .ref 1, .int (nI o), .int (nI (T (sk T n a))), .int (nI (sk T n a)), .int (nI 1)]) dX3_readUnit_84 rfl (by decide) rfl ?_
            refine ww_iload dX3_readUnit_86 rfl ?_
            refine ww_bipush (v := nI 7) dX3_readUnit_88 (by decide) ?_
            refine ww_icmp_ltN (tgt := 133) dX3_readUnit_90 (by decide) (by omega) (by omega) (fun c90 => ?_) (fun c90 => ?_)
            · refine ww_iload dX3_readUnit_133 rfl ?_
              refine ww_if_ltN (tgt := 145) dX3_readUnit_135 (by decide) (by omega) ?_
              refine ww_aload_n dX3_readUnit_138 rfl rfl ?_
              refine ww_iconst (v := nI 1) dX3_readUnit_139 (by decide) ?_
              refine ww_iload dX3_readUnit_140 rfl ?_
              have he43 : (eL 1 1 L).1 = L.1 + 1 := rfl
              refine ww_cV0 (M := m_X3_readUnit) (pc := 142) (h1 := rdS (lwS h b (eL 1 1 L)) n a42 0 (-1)) (st := []) (d := (d)) (bc := 0) (bs := 0) (c_Lw_add hst hR hB hn hb a42 0 (-1) L (by omega) 1 1) vv_X3_add dX3_readUnit_142 wg_622 hb.1 rfl rfl rfl rfl (by omega) (Nat.le_of_ble_eq_true rfl) (Nat.le_of_ble_eq_true rfl) (Nat.le_of_ble_eq_true rfl) ?_
              exact ww_vret dX3_readUnit_145 rfl ⟨rfl, (by rw [unitF_w (fun e => ⟨by omega, by omega⟩), hr42, bS_r, if_neg (by decide)]; exact rfl)⟩
            · exact absurd c90 (by decide)
          · refine ww_cVr (M := m_X3_readUnit) (pc := 81) (v := .int (nI 2)) (h1 := rdS (lwS h b L) n a42 0 (-1)) (st := []) (d := (d)) (bc := 0) (bs := 0) (c_Rd_word_r hst (hR.lw hb3 L) hB hn (sk T n a) (by omega) 2 (by decide) (W := wLaw) (fun ln => wfd_2 T _ ln) hr42) vv_X5_word dX3_readUnit_81 wg_632 ((hR.lw hb3 L).1) rfl rfl rfl rfl (by omega) (Nat.le_of_ble_eq_true rfl) (Nat.le_of_ble_eq_true rfl) (Nat.le_of_ble_eq_true rfl) ?_
            refine ww_sti (lv2 := [.ref b, .ref 1, .int (nI o), .int (nI (T (sk T n a))), .int (nI (sk T n a)), .int (nI 2)]) dX3_readUnit_84 rfl (by decide) rfl ?_
            refine ww_iload dX3_readUnit_86 rfl ?_
            refine ww_bipush (v := nI 7) dX3_readUnit_88 (by decide) ?_
            refine ww_icmp_ltN (tgt := 133) dX3_readUnit_90 (by decide) (by omega) (by omega) (fun c90 => ?_) (fun c90 => ?_)
            · refine ww_iload dX3_readUnit_133 rfl ?_
              refine ww_if_ltN (tgt := 145) dX3_readUnit_135 (by decide) (by omega) ?_
              refine ww_aload_n dX3_readUnit_138 rfl rfl ?_
              refine ww_iconst (v := nI 1) dX3_readUnit_139 (by decide) ?_
              refine ww_iload dX3_readUnit_140 rfl ?_
              have he44 : (eL 1 2 L).1 = L.1 + 1 := rfl
              refine ww_cV0 (M := m_X3_readUnit) (pc := 142) (h1 := rdS (lwS h b (eL 1 2 L)) n a42 0 (-1)) (st := []) (d := (d)) (bc := 0) (bs := 0) (c_Lw_add hst hR hB hn hb a42 0 (-1) L (by omega) 1 2) vv_X3_add dX3_readUnit_142 wg_622 hb.1 rfl rfl rfl rfl (by omega) (Nat.le_of_ble_eq_true rfl) (Nat.le_of_ble_eq_true rfl) (Nat.le_of_ble_eq_true rfl) ?_
              exact ww_vret dX3_readUnit_145 rfl ⟨rfl, (by rw [unitF_w (fun e => ⟨by omega, by omega⟩), hr42, bS_r, if_neg (by decide)]; exact rfl)⟩
            · exact absurd c90 (by decide)
          · refine ww_cVr (M := m_X3_readUnit) (pc := 81) (v := .int (nI 3)) (h1 := rdS (lwS h b L) n a42 0 (-1)) (st := []) (d := (d)) (bc := 0) (bs := 0) (c_Rd_word_r hst (hR.lw hb3 L) hB hn (sk T n a) (by omega) 2 (by decide) (W := wLaw) (fun ln => wfd_2 T _ ln) hr42) vv_X5_word dX3_readUnit_81 wg_632 ((hR.lw hb3 L).1) rfl rfl rfl rfl (by omega) (Nat.le_of_ble_eq_true rfl) (Nat.le_of_ble_eq_true rfl) (Nat.le_of_ble_eq_true rfl) ?_
            refine ww_sti (lv2 := [.ref b, .ref 1, .int (nI o), .int (nI (T (sk T n a))), .int (nI (sk T n a)), .int (nI 3)]) dX3_readUnit_84 rfl (by decide) rfl ?_
            refine ww_iload dX3_readUnit_86 rfl ?_
            refine ww_bipush (v := nI 7) dX3_readUnit_88 (by decide) ?_
            refine ww_icmp_ltN (tgt := 133) dX3_readUnit_90 (by decide) (by omega) (by omega) (fun c90 => ?_) (fun c90 => ?_)
            · refine ww_iload dX3_readUnit_133 rfl ?_
              refine ww_if_ltN (tgt := 145) dX3_readUnit_135 (by decide) (by omega) ?_
              refine ww_aload_n dX3_readUnit_138 rfl rfl ?_
              refine ww_iconst (v := nI 1) dX3_readUnit_139 (by decide) ?_
              refine ww_iload dX3_readUnit_140 rfl ?_
              have he45 : (eL 1 3 L).1 = L.1 + 1 := rfl
              refine ww_cV0 (M := m_X3_readUnit) (pc := 142) (h1 := rdS (lwS h b (eL 1 3 L)) n a42 0 (-1)) (st := []) (d := (d)) (bc := 0) (bs := 0) (c_Lw_add hst hR hB hn hb a42 0 (-1) L (by omega) 1 3) vv_X3_add dX3_readUnit_142 wg_622 hb.1 rfl rfl rfl rfl (by omega) (Nat.le_of_ble_eq_true rfl) (Nat.le_of_ble_eq_true rfl) (Nat.le_of_ble_eq_true rfl) ?_
              exact ww_vret dX3_readUnit_145 rfl ⟨rfl, (by rw [unitF_w (fun e => ⟨by omega, by omega⟩), hr42, bS_r, if_neg (by decide)]; exact rfl)⟩
            · exact absurd c90 (by decide)
          · refine ww_cVr (M := m_X3_readUnit) (pc := 81) (v := .int (nI 4)) (h1 := rdS (lwS h b L) n a42 0 (-1)) (st := []) (d := (d)) (bc := 0) (bs := 0) (c_Rd_word_r hst (hR.lw hb3 L) hB hn (sk T n a) (by omega) 2 (by decide) (W := wLaw) (fun ln => wfd_2 T _ ln) hr42) vv_X5_word dX3_readUnit_81 wg_632 ((hR.lw hb3 L).1) rfl rfl rfl rfl (by omega) (Nat.le_of_ble_eq_true rfl) (Nat.le_of_ble_eq_true rfl) (Nat.le_of_ble_eq_true rfl) ?_
            refine ww_sti (lv2 := [.ref b, .ref 1, .int (nI o), .int (nI (T (sk T n a))), .int (nI (sk T n a)), .int (nI 4)]) dX3_readUnit_84 rfl (by decide) rfl ?_
            refine ww_iload dX3_readUnit_86 rfl ?_
            refine ww_bipush (v := nI 7) dX3_readUnit_88 (by decide) ?_
            refine ww_icmp_ltN (tgt := 133) dX3_readUnit_90 (by decide) (by omega) (by omega) (fun c90 => ?_) (fun c90 => ?_)
            · refine ww_iload dX3_readUnit_133 rfl ?_
              refine ww_if_ltN (tgt := 145) dX3_readUnit_135 (by decide) (by omega) ?_
              refine ww_aload_n dX3_readUnit_138 rfl rfl ?_
              refine ww_iconst (v := nI 1) dX3_readUnit_139 (by decide) ?_
              refine ww_iload dX3_readUnit_140 rfl ?_
              have he46 : (eL 1 4 L).1 = L.1 + 1 := rfl
              refine ww_cV0 (M := m_X3_readUnit) (pc := 142) (h1 := rdS (lwS h b (eL 1 4 L)) n a42 0 (-1)) (st := []) (d := (d)) (bc := 0) (bs := 0) (c_Lw_add hst hR hB hn hb a42 0 (-1) L (by omega) 1 4) vv_X3_add dX3_readUnit_142 wg_622 hb.1 rfl rfl rfl rfl (by omega) (Nat.le_of_ble_eq_true rfl) (Nat.le_of_ble_eq_true rfl) (Nat.le_of_ble_eq_true rfl) ?_
              exact ww_vret dX3_readUnit_145 rfl ⟨rfl, (by rw [unitF_w (fun e => ⟨by omega, by omega⟩), hr42, bS_r, if_neg (by decide)]; exact rfl)⟩
            · exact absurd c90 (by decide)
          · refine ww_cVr (M := m_X3_readUnit) (pc := 81) (v := .int (nI 5)) (h1 := rdS (lwS h b L) n a42 0 (-1)) (st := []) (d := (d)) (bc := 0) (bs := 0) (c_Rd_word_r hst (hR.lw hb3 L) hB hn (sk T n a) (by omega) 2 (by decide) (W := wLaw) (fun ln => wfd_2 T _ ln) hr42) vv_X5_word dX3_readUnit_81 wg_632 ((hR.lw hb3 L).1) rfl rfl rfl rfl (by omega) (Nat.le_of_ble_eq_true rfl) (Nat.le_of_ble_eq_true rfl) (Nat.le_of_ble_eq_true rfl) ?_
            refine ww_sti (lv2 := [.ref b, .ref 1, .int (nI o), .int (nI (T (sk T n a))), .int (nI (sk T n a)), .int (nI 5)]) dX3_readUnit_84 rfl (by decide) rfl ?_
            refine ww_iload dX3_readUnit_86 rfl ?_
            refine ww_bipush (v := nI 7) dX3_readUnit_88 (by decide) ?_
            refine ww_icmp_ltN (tgt := 133) dX3_readUnit_90 (by decide) (by omega) (by omega) (fun c90 => ?_) (fun c90 => ?_)
            · refine ww_iload dX3_readUnit_133 rfl ?_
              refine ww_if_ltN (tgt := 145) dX3_readUnit_135 (by decide) (by omega) ?_
              refine ww_aload_n dX3_readUnit_138 rfl rfl ?_
              refine ww_iconst (v := nI 1) dX3_readUnit_139 (by decide) ?_
              refine ww_iload dX3_readUnit_140 rfl ?_
              have he47 : (eL 1 5 L).1 = L.1 + 1 := rfl
              refine ww_cV0 (M := m_X3_readUnit) (pc := 142) (h1 := rdS (lwS h b (eL 1 5 L)) n a42 0 (-1)) (st := []) (d := (d)) (bc := 0) (bs := 0) (c_Lw_add hst hR hB hn hb a42 0 (-1) L (by omega) 1 5) vv_X3_add dX3_readUnit_142 wg_622 hb.1 rfl rfl rfl rfl (by omega) (Nat.le_of_ble_eq_true rfl) (Nat.le_of_ble_eq_true rfl) (Nat.le_of_ble_eq_true rfl) ?_
              exact ww_vret dX3_readUnit_145 rfl ⟨rfl, (by rw [unitF_w (fun e => ⟨by omega, by omega⟩), hr42, bS_r, if_neg (by decide)]; exact rfl)⟩
            · exact absurd c90 (by decide)
          · refine ww_cVr (M := m_X3_readUnit) (pc := 81) (v := .int (nI 6)) (h1 := rdS (lwS h b L) n a42 0 (-1)) (st := []) (d := (d)) (bc := 0) (bs := 0) (c_Rd_word_r hst (hR.lw hb3 L) hB hn (sk T n a) (by omega) 2 (by decide) (W := wLaw) (fun ln => wfd_2 T _ ln) hr42) vv_X5_word dX3_readUnit_81 wg_632 ((hR.lw hb3 L).1) rfl rfl rfl rfl (by omega) (Nat.le_of_ble_eq_true rfl) (Nat.le_of_ble_eq_true rfl) (Nat.le_of_ble_eq_true rfl) ?_
            refine ww_sti (lv2 := [.ref b, .ref 1, .int (nI o), .int (nI (T (sk T n a))), .int (nI (sk T n a)), .int (nI 6)]) dX3_readUnit_84 rfl (by decide) rfl ?_
            refine ww_iload dX3_readUnit_86 rfl ?_
            refine ww_bipush (v := nI 7) dX3_readUnit_88 (by decide) ?_
            refine ww_icmp_ltN (tgt := 133) dX3_readUnit_90 (by decide) (by omega) (by omega) (fun c90 => ?_) (fun c90 => ?_)
            · refine ww_iload dX3_readUnit_133 rfl ?_
              refine ww_if_ltN (tgt := 145) dX3_readUnit_135 (by decide) (by omega) ?_
              refine ww_aload_n dX3_readUnit_138 rfl rfl ?_
              refine ww_iconst (v := nI 1) dX3_readUnit_139 (by decide) ?_
              refine ww_iload dX3_readUnit_140 rfl ?_
              have he48 : (eL 1 6 L).1 = L.1 + 1 := rfl
              refine ww_cV0 (M := m_X3_readUnit) (pc := 142) (h1 := rdS (lwS h b (eL 1 6 L)) n a42 0 (-1)) (st := []) (d := (d)) (bc := 0) (bs := 0) (c_Lw_add hst hR hB hn hb a42 0 (-1) L (by omega) 1 6) vv_X3_add dX3_readUnit_142 wg_622 hb.1 rfl rfl rfl rfl (by omega) (Nat.le_of_ble_eq_true rfl) (Nat.le_of_ble_eq_true rfl) (Nat.le_of_ble_eq_true rfl) ?_
              exact ww_vret dX3_readUnit_145 rfl ⟨rfl, (by rw [unitF_w (fun e => ⟨by omega, by omega⟩), hr42, bS_r, if_neg (by decide)]; exact rfl)⟩
            · exact absurd c90 (by decide)
          · refine ww_cVr (M := m_X3_readUnit) (pc := 81) (v := .int (nI 7)) (h1 := rdS (lwS h b L) n a42 0 (-1)) (st := []) (d := (d)) (bc := 0) (bs := 0) (c_Rd_word_r hst (hR.lw hb3 L) hB hn (sk T n a) (by omega) 2 (by decide) (W := wLaw) (fun ln => wfd_2 T _ ln) hr42) vv_X5_word dX3_readUnit_81 wg_632 ((hR.lw hb3 L).1) rfl rfl rfl rfl (by omega) (Nat.le_of_ble_eq_true rfl) (Nat.le_of_ble_eq_true rfl) (Nat.le_of_ble_eq_true rfl) ?_
            refine ww_sti (lv2 := [.ref b, .ref 1, .int (nI o), .int (nI (T (sk T n a))), .int (nI (sk T n a)), .int (nI 7)]) dX3_readUnit_84 rfl (by decide) rfl ?_
            refine ww_iload dX3_readUnit_86 rfl ?_
            refine ww_bipush (v := nI 7) dX3_readUnit_88 (by decide) ?_
            refine ww_icmp_ltN (tgt := 133) dX3_readUnit_90 (by decide) (by omega) (by omega) (fun c90 => ?_) (fun c90 => ?_)
            · exact absurd c90 (by decide)
            · refine ww_aload_n dX3_readUnit_93 rfl rfl ?_
              refine ww_iload_n dX3_readUnit_94 rfl rfl ?_
              refine ww_iload dX3_readUnit_95 rfl ?_
              refine ww_cSr (M := m_X3_readUnit) (pc := 97) (v := .int (nI 0)) (h1 := rdS (lwS h b L) n n 3 (nI (sk T n a))) (st := []) (d := (d)) (bc := 0) (bs := 0) (c_Lw_may_f hst (hR.lw hb3 L) hB hn a42 o (sk T n a) (by omega)) vv_X3_mayOpen dX3_readUnit_97 wg_626 rfl rfl rfl (by omega) (Nat.le_of_ble_eq_true rfl) (Nat.le_of_ble_eq_true rfl) (Nat.le_of_ble_eq_true rfl) ?_
              refine ww_if_eqN (tgt := 145) dX3_readUnit_100 (by decide) (by omega) (fun c100 => ?_) (fun c100 => ?_)
              · exact ww_vret dX3_readUnit_145 rfl ⟨rfl, (by rw [unitF_w (fun e => ⟨by omega, by omega⟩), hr42, bS_r, if_pos (by decide)]; exact ⟨_, (by omega), rfl⟩)⟩
              · exact absurd c100 (by decide)
          · refine ww_cVr (M := m_X3_readUnit) (pc := 81) (v := .int (nI 8)) (h1 := rdS (lwS h b L) n a42 0 (-1)) (st := []) (d := (d)) (bc := 0) (bs := 0) (c_Rd_word_r hst (hR.lw hb3 L) hB hn (sk T n a) (by omega) 2 (by decide) (W := wLaw) (fun ln => wfd_2 T _ ln) hr42) vv_X5_word dX3_readUnit_81 wg_632 ((hR.lw hb3 L).1) rfl rfl rfl rfl (by omega) (Nat.le_of_ble_eq_true rfl) (Nat.le_of_ble_eq_true rfl) (Nat.le_of_ble_eq_true rfl) ?_
            refine ww_sti (lv2 := [.ref b, .ref 1, .int (nI o), .int (nI (T (sk T n a))), .int (nI (sk T n a)), .int (nI 8)]) dX3_readUnit_84 rfl (by decide) rfl ?_
            refine ww_iload dX3_readUnit_86 rfl ?_
            refine ww_bipush (v := nI 7) dX3_readUnit_88 (by decide) ?_
            refine ww_icmp_ltN (tgt := 133) dX3_readUnit_90 (by decide) (by omega) (by omega) (fun c90 => ?_) (fun c90 => ?_)
            · exact absurd c90 (by decide)
            · refine ww_aload_n dX3_readUnit_93 rfl rfl ?_
              refine ww_iload_n dX3_readUnit_94 rfl rfl ?_
              refine ww_iload dX3_readUnit_95 rfl ?_
              refine ww_cSr (M := m_X3_readUnit) (pc := 97) (v := .int (nI 0)) (h1 := rdS (lwS h b L) n n 3 (nI (sk T n a))) (st := []) (d := (d)) (bc := 0) (bs := 0) (c_Lw_may_f hst (hR.lw hb3 L) hB hn a42 o (sk T n a) (by omega)) vv_X3_mayOpen dX3_readUnit_97 wg_626 rfl rfl rfl (by omega) (Nat.le_of_ble_eq_true rfl) (Nat.le_of_ble_eq_true rfl) (Nat.le_of_ble_eq_true rfl) ?_
              refine ww_if_eqN (tgt := 145) dX3_readUnit_100 (by decide) (by omega) (fun c100 => ?_) (fun c100 => ?_)
              · exact ww_vret dX3_readUnit_145 rfl ⟨rfl, (by rw [unitF_w (fun e => ⟨by omega, by omega⟩), hr42, bS_r, if_pos (by decide)]; exact ⟨_, (by omega), rfl⟩)⟩
              · exact absurd c100 (by decide)
      · refine ww_aload_n dX3_readUnit_45 rfl rfl ?_
        refine ww_iload_n dX3_readUnit_46 rfl rfl ?_
        refine ww_iload dX3_readUnit_47 rfl ?_
        refine ww_cSr (M := m_X3_readUnit) (pc := 49) (v := .int (nI 0)) (h1 := rdS (lwS h b L) n n 3 (nI (sk T n a))) (st := []) (d := (d)) (bc := 0) (bs := 0) (c_Lw_may_f hst (hR.lw hb3 L) hB hn (sk T n a) o (sk T n a) (by omega)) vv_X3_mayOpen dX3_readUnit_49 wg_626 rfl rfl rfl (by omega) (Nat.le_of_ble_eq_true rfl) (Nat.le_of_ble_eq_true rfl) (Nat.le_of_ble_eq_true rfl) ?_
        refine ww_if_eqN (tgt := 145) dX3_readUnit_52 (by decide) (by omega) (fun c52 => ?_) (fun c52 => ?_)
        · exact ww_vret dX3_readUnit_145 rfl ⟨rfl, (by rw [unitF_p (by assumption) (by omega)]; exact ⟨_, (by omega), rfl⟩)⟩
        · exact absurd c52 (by decide)
    · refine ww_iload_n dX3_readUnit_17 rfl rfl ?_
      refine ww_bipush (v := nI 57) dX3_readUnit_18 (by decide) ?_
      refine ww_icmp_gtN (tgt := 39) dX3_readUnit_20 (by decide) (by omega) (by omega) (fun c20 => ?_) (fun c20 => ?_)
      · refine ww_iload_n dX3_readUnit_39 rfl rfl ?_
        refine ww_bipush (v := nI 40) dX3_readUnit_40 (by decide) ?_
        refine ww_icmp_neN (tgt := 78) dX3_readUnit_42 (by decide) (by omega) (by omega) (fun c42 => ?_) (fun c42 => ?_)
        · refine ww_aload_n dX3_readUnit_78 rfl rfl ?_
          refine ww_ldcS (i := 2) dX3_readUnit_79 rfl ?_
          rcases hr50 : wrdS wLaw T n (sk T n a) with ⟨k50, q50⟩ | ⟨a50, v50⟩
          · have hf50 := (wrdS_l hr50).1
            refine ww_cVr (M := m_X3_readUnit) (pc := 81) (v := .int (-1)) (h1 := rdS (lwS h b L) n n k50 (nI q50)) (st := []) (d := (d)) (bc := 0) (bs := 0) (c_Rd_word_l hst (hR.lw hb3 L) hB hn (sk T n a) (by omega) 2 (by decide) (W := wLaw) (fun ln => wfd_2 T _ ln) hr50) vv_X5_word dX3_readUnit_81 wg_632 ((hR.lw hb3 L).1) rfl rfl rfl rfl (by omega) (Nat.le_of_ble_eq_true rfl) (Nat.le_of_ble_eq_true rfl) (Nat.le_of_ble_eq_true rfl) ?_
            refine ww_sti (lv2 := [.ref b, .ref 1, .int (nI o), .int (nI (T (sk T n a))), .int (nI (sk T n a)), .int (-1)]) dX3_readUnit_84 rfl (by decide) rfl ?_
            refine ww_iload dX3_readUnit_86 rfl ?_
            refine ww_bipush (v := nI 7) dX3_readUnit_88 (by decide) ?_
            refine ww_icmp_lt (tgt := 133) dX3_readUnit_90 (by decide) (fun c90 => ?_) (fun c90 => ?_)
            · refine ww_iload dX3_readUnit_133 rfl ?_
              refine ww_if_lt (tgt := 145) dX3_readUnit_135 (by decide) (fun c135 => ?_) (fun c135 => ?_)
              · exact ww_vret dX3_readUnit_145 rfl ⟨rfl, (by rw [unitF_w (fun e => ⟨by omega, by omega⟩), hr50, bS_l]; exact ⟨_, (by omega), rfl⟩)⟩
              · exact absurd c135 (by decide)
            · exact absurd c90 (by decide)
          · have hf50 := wrdS_lt wLaw_ne (by omega) hr50
            have hg50 := sk_ge (T := T) (show sk T n a ≤ n by omega)
            rcases (show v50 = 0 ∨ v50 = 1 ∨ v50 = 2 ∨ v50 = 3 ∨ v50 = 4 ∨ v50 = 5 ∨ v50 = 6 ∨ v50 = 7 ∨ v50 = 8 by have h9 := hf50.2.2; simp only [wLaw, List.length_cons, List.length_nil] at h9; omega) with rfl | rfl | rfl | rfl | rfl | rfl | rfl | rfl | rfl
            · refine ww_cVr (M := m_X3_readUnit) (pc := 81) (v := .int (nI 0)) (h1 := rdS (lwS h b L) n a50 0 (-1)) (st := []) (d := (d)) (bc := 0) (bs := 0) (c_Rd_word_r hst (hR.lw hb3 L) hB hn (sk T n a) (by omega) 2 (by decide) (W := wLaw) (fun ln => wfd_2 T _ ln) hr50) vv_X5_word dX3_readUnit_81 wg_632 ((hR.lw hb3 L).1) rfl rfl rfl rfl (by omega) (Nat.le_of_ble_eq_true rfl) (Nat.le_of_ble_eq_true rfl) (Nat.le_of_ble_eq_true rfl) ?_
              refine ww_sti (lv2 := [.ref b, .ref 1, .int (nI o), .int (nI (T (sk T n a))), .int (nI (sk T n a)), .int (nI 0)]) dX3_readUnit_84 rfl (by decide) rfl ?_
              refine ww_iload dX3_readUnit_86 rfl ?_
              refine ww_bipush (v := nI 7) dX3_readUnit_88 (by decide) ?_
              refine ww_icmp_ltN (tgt := 133) dX3_readUnit_90 (by decide) (by omega) (by omega) (fun c90 => ?_) (fun c90 => ?_)
              · refine ww_iload dX3_readUnit_133 rfl ?_
                refine ww_if_ltN (tgt := 145) dX3_readUnit_135 (by decide) (by omega) ?_
                refine ww_aload_n dX3_readUnit_138 rfl rfl ?_
                refine ww_iconst (v := nI 1) dX3_readUnit_139 (by decide) ?_
                refine ww_iload dX3_readUnit_140 rfl ?_
                have he50 : (eL 1 0 L).1 = L.1 + 1 := rfl
                refine ww_cV0 (M := m_X3_readUnit) (pc := 142) (h1 := rdS (lwS h b (eL 1 0 L)) n a50 0 (-1)) (st := []) (d := (d)) (bc := 0) (bs := 0) (c_Lw_add hst hR hB hn hb a50 0 (-1) L (by omega) 1 0) vv_X3_add dX3_readUnit_142 wg_622 hb.1 rfl rfl rfl rfl (by omega) (Nat.le_of_ble_eq_true rfl) (Nat.le_of_ble_eq_true rfl) (Nat.le_of_ble_eq_true rfl) ?_
                exact ww_vret dX3_readUnit_145 rfl ⟨rfl, (by rw [unitF_w (fun e => ⟨by omega, by omega⟩), hr50, bS_r, if_neg (by decide)]; exact rfl)⟩
              · exact absurd c90 (by decide)
            · refine ww_cVr (M := m_X3_readUnit) (pc := 81) (v := .int (nI 1)) (h1 := rdS (lwS h b L) n a50 0 (-1)) (st := []) (d := (d)) (bc := 0) (bs := 0) (c_Rd_word_r hst (hR.lw hb3 L) hB hn (sk T n a) (by omega) 2 (by decide) (W := wLaw) (fun ln => wfd_2 T _ ln) hr50) vv_X5_word dX3_readUnit_81 wg_632 ((hR.lw hb3 L).1) rfl rfl rfl rfl (by omega) (Nat.le_of_ble_eq_true rfl) (Nat.le_of_ble_eq_true rfl) (Nat.le_of_ble_eq_true rfl) ?_
              refine ww_sti (lv2 := [.ref b, .ref 1, .int (nI o), .int (nI (T (sk T n a))), .int (nI (sk T n a)), .int (nI 1)]) dX3_readUnit_84 rfl (by decide) rfl ?_
              refine ww_iload dX3_readUnit_86 rfl ?_
              refine ww_bipush (v := nI 7) dX3_readUnit_88 (by decide) ?_
              refine ww_icmp_ltN (tgt := 133) dX3_readUnit_90 (by decide) (by omega) (by omega) (fun c90 => ?_) (fun c90 => ?_)
              · refine ww_iload dX3_readUnit_133 rfl ?_
                refine ww_if_ltN (tgt := 145) dX3_readUnit_135 (by decide) (by omega) ?_
                refine ww_aload_n dX3_readUnit_138 rfl rfl ?_
                refine ww_iconst (v := nI 1) dX3_readUnit_139 (by decide) ?_
                refine ww_iload dX3_readUnit_140 rfl ?_
                have he51 : (eL 1 1 L).1 = L.1 + 1 := rfl
                refine ww_cV0 (M := m_X3_readUnit) (pc := 142) (h1 := rdS (lwS h b (eL 1 1 L)) n a50 0 (-1)) (st := []) (d := (d)) (bc := 0) (bs := 0) (c_Lw_add hst hR hB hn hb a50 0 (-1) L (by omega) 1 1) vv_X3_add dX3_readUnit_142 wg_622 hb.1 rfl rfl rfl rfl (by omega) (Nat.le_of_ble_eq_true rfl) (Nat.le_of_ble_eq_true rfl) (Nat.le_of_ble_eq_true rfl) ?_
                exact ww_vret dX3_readUnit_145 rfl ⟨rfl, (by rw [unitF_w (fun e => ⟨by omega, by omega⟩), hr50, bS_r, if_neg (by decide)]; exact rfl)⟩
              · exact absurd c90 (by decide)
            · refine ww_cVr (M := m_X3_readUnit) (pc := 81) (v := .int (nI 2)) (h1 := rdS (lwS h b L) n a50 0 (-1)) (st := []) (d := (d)) (bc := 0) (bs := 0) (c_Rd_word_r hst (hR.lw hb3 L) hB hn (sk T n a) (by omega) 2 (by decide) (W := wLaw) (fun ln => wfd_2 T _ ln) hr50) vv_X5_word dX3_readUnit_81 wg_632 ((hR.lw hb3 L).1) rfl rfl rfl rfl (by omega) (Nat.le_of_ble_eq_true rfl) (Nat.le_of_ble_eq_true rfl) (Nat.le_of_ble_eq_true rfl) ?_
              refine ww_sti (lv2 := [.ref b, .ref 1, .int (nI o), .int (nI (T (sk T n a))), .int (nI (sk T n a)), .int (nI 2)]) dX3_readUnit_84 rfl (by decide) rfl ?_
              refine ww_iload dX3_readUnit_86 rfl ?_
              refine ww_bipush (v := nI 7) dX3_readUnit_88 (by decide) ?_
              refine ww_icmp_ltN (tgt := 133) dX3_readUnit_90 (by decide) (by omega) (by omega) (fun c90 => ?_) (fun c90 => ?_)
              · refine ww_iload dX3_readUnit_133 rfl ?_
                refine ww_if_ltN (tgt := 145) dX3_readUnit_135 (by decide) (by omega) ?_
                refine ww_aload_n dX3_readUnit_138 rfl rfl ?_
                refine ww_iconst (v := nI 1) dX3_readUnit_139 (by decide) ?_
                refine ww_iload dX3_readUnit_140 rfl ?_
                have he52 : (eL 1 2 L).1 = L.1 + 1 := rfl
                refine ww_cV0 (M := m_X3_readUnit) (pc := 142) (h1 := rdS (lwS h b (eL 1 2 L)) n a50 0 (-1)) (st := []) (d := (d)) (bc := 0) (bs := 0) (c_Lw_add hst hR hB hn hb a50 0 (-1) L (by omega) 1 2) vv_X3_add dX3_readUnit_142 wg_622 hb.1 rfl rfl rfl rfl (by omega) (Nat.le_of_ble_eq_true rfl) (Nat.le_of_ble_eq_true rfl) (Nat.le_of_ble_eq_true rfl) ?_
                exact ww_vret dX3_readUnit_145 rfl ⟨rfl, (by rw [unitF_w (fun e => ⟨by omega, by omega⟩), hr50, bS_r, if_neg (by decide)]; exact rfl)⟩
              · exact absurd c90 (by decide)
            · refine ww_cVr (M := m_X3_readUnit) (pc := 81) (v := .int (nI 3)) (h1 := rdS (lwS h b L) n a50 0 (-1)) (st := []) (d := (d)) (bc := 0) (bs := 0) (c_Rd_word_r hst (hR.lw hb3 L) hB hn (sk T n a) (by omega) 2 (by decide) (W := wLaw) (fun ln => wfd_2 T _ ln) hr50) vv_X5_word dX3_readUnit_81 wg_632 ((hR.lw hb3 L).1) rfl rfl rfl rfl (by omega) (Nat.le_of_ble_eq_true rfl) (Nat.le_of_ble_eq_true rfl) (Nat.le_of_ble_eq_true rfl) ?_
              refine ww_sti (lv2 := [.ref b, .ref 1, .int (nI o), .int (nI (T (sk T n a))), .int (nI (sk T n a)), .int (nI 3)]) dX3_readUnit_84 rfl (by decide) rfl ?_
              refine ww_iload dX3_readUnit_86 rfl ?_
              refine ww_bipush (v := nI 7) dX3_readUnit_88 (by decide) ?_
              refine ww_icmp_ltN (tgt := 133) dX3_readUnit_90 (by decide) (by omega) (by omega) (fun c90 => ?_) (fun c90 => ?_)
              · refine ww_iload dX3_readUnit_133 rfl ?_
                refine ww_if_ltN (tgt := 145) dX3_readUnit_135 (by decide) (by omega) ?_
                refine ww_aload_n dX3_readUnit_138 rfl rfl ?_
                refine ww_iconst (v := nI 1) dX3_readUnit_139 (by decide) ?_
                refine ww_iload dX3_readUnit_140 rfl ?_
                have he53 : (eL 1 3 L).1 = L.1 + 1 := rfl
                refine ww_cV0 (M := m_X3_readUnit) (pc := 142) (h1 := rdS (lwS h b (eL 1 3 L)) n a50 0 (-1)) (st := []) (d := (d)) (bc := 0) (bs := 0) (c_Lw_add hst hR hB hn hb a50 0 (-1) L (by omega) 1 3) vv_X3_add dX3_readUnit_142 wg_622 hb.1 rfl rfl rfl rfl (by omega) (Nat.le_of_ble_eq_true rfl) (Nat.le_of_ble_eq_true rfl) (Nat.le_of_ble_eq_true rfl) ?_
                exact ww_vret dX3_readUnit_145 rfl ⟨rfl, (by rw [unitF_w (fun e => ⟨by omega, by omega⟩), hr50, bS_r, if_neg (by decide)]; exact rfl)⟩
              · exact absurd c90 (by decide)
            · refine ww_cVr (M := m_X3_readUnit) (pc := 81) (v := .int (nI 4)) (h1 := rdS (lwS h b L) n a50 0 (-1)) (st := []) (d := (d)) (bc := 0) (bs := 0) (c_Rd_word_r hst (hR.lw hb3 L) hB hn (sk T n a) (by omega) 2 (by decide) (W := wLaw) (fun ln => wfd_2 T _ ln) hr50) vv_X5_word dX3_readUnit_81 wg_632 ((hR.lw hb3 L).1) rfl rfl rfl rfl (by omega) (Nat.le_of_ble_eq_true rfl) (Nat.le_of_ble_eq_true rfl) (Nat.le_of_ble_eq_true rfl) ?_
              refine ww_sti (lv2 := [.ref b, .ref 1, .int (nI o), .int (nI (T (sk T n a))), .int (nI (sk T n a)), .int (nI 4)]) dX3_readUnit_84 rfl (by decide) rfl ?_
              refine ww_iload dX3_readUnit_86 rfl ?_
              refine ww_bipush (v := nI 7) dX3_readUnit_88 (by decide) ?_
              refine ww_icmp_ltN (tgt := 133) dX3_readUnit_90 (by decide) (by omega) (by omega) (fun c90 => ?_) (fun c90 => ?_)
              · refine ww_iload dX3_readUnit_133 rfl ?_
                refine ww_if_ltN (tgt := 145) dX3_readUnit_135 (by decide) (by omega) ?_
                refine ww_aload_n dX3_readUnit_138 rfl rfl ?_
                refine ww_iconst (v := nI 1) dX3_readUnit_139 (by decide) ?_
                refine ww_iload dX3_readUnit_140 rfl ?_
                have he54 : (eL 1 4 L).1 = L.1 + 1 := rfl
                refine ww_cV0 (M := m_X3_readUnit) (pc := 142) (h1 := rdS (lwS h b (eL 1 4 L)) n a50 0 (-1)) (st := []) (d := (d)) (bc := 0) (bs := 0) (c_Lw_add hst hR hB hn hb a50 0 (-1) L (by omega) 1 4) vv_X3_add dX3_readUnit_142 wg_622 hb.1 rfl rfl rfl rfl (by omega) (Nat.le_of_ble_eq_true rfl) (Nat.le_of_ble_eq_true rfl) (Nat.le_of_ble_eq_true rfl) ?_
                exact ww_vret dX3_readUnit_145 rfl ⟨rfl, (by rw [unitF_w (fun e => ⟨by omega, by omega⟩), hr50, bS_r, if_neg (by decide)]; exact rfl)⟩
              · exact absurd c90 (by decide)
            · refine ww_cVr (M := m_X3_readUnit) (pc := 81) (v := .int (nI 5)) (h1 := rdS (lwS h b L) n a50 0 (-1)) (st := []) (d := (d)) (bc := 0) (bs := 0) (c_Rd_word_r hst (hR.lw hb3 L) hB hn (sk T n a) (by omega) 2 (by decide) (W := wLaw) (fun ln => wfd_2 T _ ln) hr50) vv_X5_word dX3_readUnit_81 wg_632 ((hR.lw hb3 L).1) rfl rfl rfl rfl (by omega) (Nat.le_of_ble_eq_true rfl) (Nat.le_of_ble_eq_true rfl) (Nat.le_of_ble_eq_true rfl) ?_
              refine ww_sti (lv2 := [.ref b, .ref 1, .int (nI o), .int (nI (T (sk T n a))), .int (nI (sk T n a)), .int (nI 5)]) dX3_readUnit_84 rfl (by decide) rfl ?_
              refine ww_iload dX3_readUnit_86 rfl ?_
              refine ww_bipush (v := nI 7) dX3_readUnit_88 (by decide) ?_
              refine ww_icmp_ltN (tgt := 133) dX3_readUnit_90 (by decide) (by omega) (by omega) (fun c90 => ?_) (fun c90 => ?_)
              · refine ww_iload dX3_readUnit_133 rfl ?_
                refine ww_if_ltN (tgt := 145) dX3_readUnit_135 (by decide) (by omega) ?_
                refine ww_aload_n dX3_readUnit_138 rfl rfl ?_
                refine ww_iconst (v := nI 1) dX3_readUnit_139 (by decide) ?_
                refine ww_iload dX3_readUnit_140 rfl ?_
                have he55 : (eL 1 5 L).1 = L.1 + 1 := rfl
                refine ww_cV0 (M := m_X3_readUnit) (pc := 142) (h1 := rdS (lwS h b (eL 1 5 L)) n a50 0 (-1)) (st := []) (d := (d)) (bc := 0) (bs := 0) (c_Lw_add hst hR hB hn hb a50 0 (-1) L (by omega) 1 5) vv_X3_add dX3_readUnit_142 wg_622 hb.1 rfl rfl rfl rfl (by omega) (Nat.le_of_ble_eq_true rfl) (Nat.le_of_ble_eq_true rfl) (Nat.le_of_ble_eq_true rfl) ?_
                exact ww_vret dX3_readUnit_145 rfl ⟨rfl, (by rw [unitF_w (fun e => ⟨by omega, by omega⟩), hr50, bS_r, if_neg (by decide)]; exact rfl)⟩
              · exact absurd c90 (by decide)
            · refine ww_cVr (M := m_X3_readUnit) (pc := 81) (v := .int (nI 6)) (h1 := rdS (lwS h b L) n a50 0 (-1)) (st := []) (d := (d)) (bc := 0) (bs := 0) (c_Rd_word_r hst (hR.lw hb3 L) hB hn (sk T n a) (by omega) 2 (by decide) (W := wLaw) (fun ln => wfd_2 T _ ln) hr50) vv_X5_word dX3_readUnit_81 wg_632 ((hR.lw hb3 L).1) rfl rfl rfl rfl (by omega) (Nat.le_of_ble_eq_true rfl) (Nat.le_of_ble_eq_true rfl) (Nat.le_of_ble_eq_true rfl) ?_
              refine ww_sti (lv2 := [.ref b, .ref 1, .int (nI o), .int (nI (T (sk T n a))), .int (nI (sk T n a)), .int (nI 6)]) dX3_readUnit_84 rfl (by decide) rfl ?_
              refine ww_iload dX3_readUnit_86 rfl ?_
              refine ww_bipush (v := nI 7) dX3_readUnit_88 (by decide) ?_
              refine ww_icmp_ltN (tgt := 133) dX3_readUnit_90 (by decide) (by omega) (by omega) (fun c90 => ?_) (fun c90 => ?_)
              · refine ww_iload dX3_readUnit_133 rfl ?_
                refine ww_if_ltN (tgt := 145) dX3_readUnit_135 (by decide) (by omega) ?_
                refine ww_aload_n dX3_readUnit_138 rfl rfl ?_
                refine ww_iconst (v := nI 1) dX3_readUnit_139 (by decide) ?_
                refine ww_iload dX3_readUnit_140 rfl ?_
                have he56 : (eL 1 6 L).1 = L.1 + 1 := rfl
                refine ww_cV0 (M := m_X3_readUnit) (pc := 142) (h1 := rdS (lwS h b (eL 1 6 L)) n a50 0 (-1)) (st := []) (d := (d)) (bc := 0) (bs := 0) (c_Lw_add hst hR hB hn hb a50 0 (-1) L (by omega) 1 6) vv_X3_add dX3_readUnit_142 wg_622 hb.1 rfl rfl rfl rfl (by omega) (Nat.le_of_ble_eq_true rfl) (Nat.le_of_ble_eq_true rfl) (Nat.le_of_ble_eq_true rfl) ?_
                exact ww_vret dX3_readUnit_145 rfl ⟨rfl, (by rw [unitF_w (fun e => ⟨by omega, by omega⟩), hr50, bS_r, if_neg (by decide)]; exact rfl)⟩
              · exact absurd c90 (by decide)
            · refine ww_cVr (M := m_X3_readUnit) (pc := 81) (v := .int (nI 7)) (h1 := rdS (lwS h b L) n a50 0 (-1)) (st := []) (d := (d)) (bc := 0) (bs := 0) (c_Rd_word_r hst (hR.lw hb3 L) hB hn (sk T n a) (by omega) 2 (by decide) (W := wLaw) (fun ln => wfd_2 T _ ln) hr50) vv_X5_word dX3_readUnit_81 wg_632 ((hR.lw hb3 L).1) rfl rfl rfl rfl (by omega) (Nat.le_of_ble_eq_true rfl) (Nat.le_of_ble_eq_true rfl) (Nat.le_of_ble_eq_true rfl) ?_
              refine ww_sti (lv2 := [.ref b, .ref 1, .int (nI o), .int (nI (T (sk T n a))), .int (nI (sk T n a)), .int (nI 7)]) dX3_readUnit_84 rfl (by decide) rfl ?_
              refine ww_iload dX3_readUnit_86 rfl ?_
              refine ww_bipush (v := nI 7) dX3_readUnit_88 (by decide) ?_
              refine ww_icmp_ltN (tgt := 133) dX3_readUnit_90 (by decide) (by omega) (by omega) (fun c90 => ?_) (fun c90 => ?_)
              · exact absurd c90 (by decide)
              · refine ww_aload_n dX3_readUnit_93 rfl rfl ?_
                refine ww_iload_n dX3_readUnit_94 rfl rfl ?_
                refine ww_iload dX3_readUnit_95 rfl ?_
                refine ww_cSr (M := m_X3_readUnit) (pc := 97) (v := .int (nI 0)) (h1 := rdS (lwS h b L) n n 3 (nI (sk T n a))) (st := []) (d := (d)) (bc := 0) (bs := 0) (c_Lw_may_f hst (hR.lw hb3 L) hB hn a50 o (sk T n a) (by omega)) vv_X3_mayOpen dX3_readUnit_97 wg_626 rfl rfl rfl (by omega) (Nat.le_of_ble_eq_true rfl) (Nat.le_of_ble_eq_true rfl) (Nat.le_of_ble_eq_true rfl) ?_
                refine ww_if_eqN (tgt := 145) dX3_readUnit_100 (by decide) (by omega) (fun c100 => ?_) (fun c100 => ?_)
                · exact ww_vret dX3_readUnit_145 rfl ⟨rfl, (by rw [unitF_w (fun e => ⟨by omega, by omega⟩), hr50, bS_r, if_pos (by decide)]; exact ⟨_, (by omega), rfl⟩)⟩
                · exact absurd c100 (by decide)
            · refine ww_cVr (M := m_X3_readUnit) (pc := 81) (v := .int (nI 8)) (h1 := rdS (lwS h b L) n a50 0 (-1)) (st := []) (d := (d)) (bc := 0) (bs := 0) (c_Rd_word_r hst (hR.lw hb3 L) hB hn (sk T n a) (by omega) 2 (by decide) (W := wLaw) (fun ln => wfd_2 T _ ln) hr50) vv_X5_word dX3_readUnit_81 wg_632 ((hR.lw hb3 L).1) rfl rfl rfl rfl (by omega) (Nat.le_of_ble_eq_true rfl) (Nat.le_of_ble_eq_true rfl) (Nat.le_of_ble_eq_true rfl) ?_
              refine ww_sti (lv2 := [.ref b, .ref 1, .int (nI o), .int (nI (T (sk T n a))), .int (nI (sk T n a)), .int (nI 8)]) dX3_readUnit_84 rfl (by decide) rfl ?_
              refine ww_iload dX3_readUnit_86 rfl ?_
              refine ww_bipush (v := nI 7) dX3_readUnit_88 (by decide) ?_
              refine ww_icmp_ltN (tgt := 133) dX3_readUnit_90 (by decide) (by omega) (by omega) (fun c90 => ?_) (fun c90 => ?_)
              · exact absurd c90 (by decide)
              · refine ww_aload_n dX3_readUnit_93 rfl rfl ?_
                refine ww_iload_n dX3_readUnit_94 rfl rfl ?_
                refine ww_iload dX3_readUnit_95 rfl ?_
                refine ww_cSr (M := m_X3_readUnit) (pc := 97) (v := .int (nI 0)) (h1 := rdS (lwS h b L) n n 3 (nI (sk T n a))) (st := []) (d := (d)) (bc := 0) (bs := 0) (c_Lw_may_f hst (hR.lw hb3 L) hB hn a50 o (sk T n a) (by omega)) vv_X3_mayOpen dX3_readUnit_97 wg_626 rfl rfl rfl (by omega) (Nat.le_of_ble_eq_true rfl) (Nat.le_of_ble_eq_true rfl) (Nat.le_of_ble_eq_true rfl) ?_
                refine ww_if_eqN (tgt := 145) dX3_readUnit_100 (by decide) (by omega) (fun c100 => ?_) (fun c100 => ?_)
                · exact ww_vret dX3_readUnit_145 rfl ⟨rfl, (by rw [unitF_w (fun e => ⟨by omega, by omega⟩), hr50, bS_r, if_pos (by decide)]; exact ⟨_, (by omega), rfl⟩)⟩
                · exact absurd c100 (by decide)
        · refine ww_aload_n dX3_readUnit_45 rfl rfl ?_
          refine ww_iload_n dX3_readUnit_46 rfl rfl ?_
          refine ww_iload dX3_readUnit_47 rfl ?_
          refine ww_cSr (M := m_X3_readUnit) (pc := 49) (v := .int (nI 0)) (h1 := rdS (lwS h b L) n n 3 (nI (sk T n a))) (st := []) (d := (d)) (bc := 0) (bs := 0) (c_Lw_may_f hst (hR.lw hb3 L) hB hn (sk T n a) o (sk T n a) (by omega)) vv_X3_mayOpen dX3_readUnit_49 wg_626 rfl rfl rfl (by omega) (Nat.le_of_ble_eq_true rfl) (Nat.le_of_ble_eq_true rfl) (Nat.le_of_ble_eq_true rfl) ?_
          refine ww_if_eqN (tgt := 145) dX3_readUnit_52 (by decide) (by omega) (fun c52 => ?_) (fun c52 => ?_)
          · exact ww_vret dX3_readUnit_145 rfl ⟨rfl, (by rw [unitF_p (by assumption) (by omega)]; exact ⟨_, (by omega), rfl⟩)⟩
          · exact absurd c52 (by decide)
      · refine ww_aload_n dX3_readUnit_23 rfl rfl ?_
        refine ww_iconst (v := nI 0) dX3_readUnit_24 (by decide) ?_
        refine ww_aload_n dX3_readUnit_25 rfl rfl ?_
        refine ww_iconst (v := nI 0) dX3_readUnit_26 (by decide) ?_
        refine ww_sipush (v := nI 999) dX3_readUnit_27 (by decide) ?_
        rcases hr58 : figS T n 0 1000 (sk T n a) with ⟨k58, q58⟩ | ⟨a58, v58⟩
        · have hf58 := (figS_l hr58).1
          refine ww_cVr (M := m_X3_readUnit) (pc := 30) (v := .int (nI 0)) (h1 := rdS (lwS h b L) n n k58 (nI q58)) (st := [.int (nI 0), .ref b]) (d := (d)) (bc := 0) (bs := 0) (c_Rd_fig_l hst (hR.lw hb3 L) hB hn (sk T n a) (by omega) 0 1000 (nI 999) (by omega) (by omega) (hi_c 999 (by decide)) hr58) vv_X5_figure dX3_readUnit_30 wg_621 ((hR.lw hb3 L).1) rfl rfl rfl rfl (by omega) (Nat.le_of_ble_eq_true rfl) (Nat.le_of_ble_eq_true rfl) (Nat.le_of_ble_eq_true rfl) ?_
          refine ww_cVq0 (M := m_X3_readUnit) (pc := 33) (st := []) (d := (d)) (bc := 0) (bs := 0) (c_Lw_add_f hst hR hB hn hb n k58 (nI q58) L (by omega) 0 0) vv_X3_add dX3_readUnit_33 wg_622 hb.1 rfl rfl rfl rfl (by omega) (Nat.le_of_ble_eq_true rfl) (Nat.le_of_ble_eq_true rfl) (Nat.le_of_ble_eq_true rfl) (fun ha59 qa59 => ?_)
          obtain ⟨M59, hM59, rfl⟩ := qa59
          refine ww_goto (tgt := 145) dX3_readUnit_36 (by decide) ?_
          exact ww_vret dX3_readUnit_145 rfl ⟨rfl, (by rw [unitF_d (by assumption) (by omega) (by omega), hr58, bS_l]; exact ⟨_, (by omega), rfl⟩)⟩
        · have hf58 := figS_r (by omega) hr58
          have hg58 := sk_ge (T := T) (show sk T n a ≤ n by omega)
          refine ww_cVr (M := m_X3_readUnit) (pc := 30) (v := .int (nI v58)) (h1 := rdS (lwS h b L) n a58 0 (-1)) (st := [.int (nI 0), .ref b]) (d := (d)) (bc := 0) (bs := 0) (c_Rd_fig_r hst (hR.lw hb3 L) hB hn (sk T n a) (by omega) 0 1000 (nI 999) (by omega) (by omega) (hi_c 999 (by decide)) hr58) vv_X5_figure dX3_readUnit_30 wg_621 ((hR.lw hb3 L).1) rfl rfl rfl rfl (by omega) (Nat.le_of_ble_eq_true rfl) (Nat.le_of_ble_eq_true rfl) (Nat.le_of_ble_eq_true rfl) ?_
          have he59 : (eL 0 v58 L).1 = L.1 + 1 := rfl
          refine ww_cV0 (M := m_X3_readUnit) (pc := 33) (h1 := rdS (lwS h b (eL 0 v58 L)) n a58 0 (-1)) (st := []) (d := (d)) (bc := 0) (bs := 0) (c_Lw_add hst hR hB hn hb a58 0 (-1) L (by omega) 0 v58) vv_X3_add dX3_readUnit_33 wg_622 hb.1 rfl rfl rfl rfl (by omega) (Nat.le_of_ble_eq_true rfl) (Nat.le_of_ble_eq_true rfl) (Nat.le_of_ble_eq_true rfl) ?_
          refine ww_goto (tgt := 145) dX3_readUnit_36 (by decide) ?_
          exact ww_vret dX3_readUnit_145 rfl ⟨rfl, (by rw [unitF_d (by assumption) (by omega) (by omega), hr58, bS_r]; exact rfl)⟩
  · refine ww_cVr (M := m_X3_readUnit) (pc := 1) (v := .int (-1)) (h1 := rdS (lwS h b L) n n 0 (-1)) (st := []) (d := (d)) (bc := 0) (bs := 0) (c_Rd_ahead_e hst (hR.lw hb3 L) hB hn 0 (-1) a (by omega) hl41) vv_X5_ahead dX3_readUnit_1 wg_620 ((hR.lw hb3 L).1) rfl rfl rfl rfl (by omega) (Nat.le_of_ble_eq_true rfl) (Nat.le_of_ble_eq_true rfl) (Nat.le_of_ble_eq_true rfl) ?_
    refine ww_sti_n (lv2 := [.ref b, .ref 1, .int (nI o), .int (-1), UU, UU]) dX3_readUnit_4 rfl rfl (by decide) rfl ?_
    refine ww_aload_n dX3_readUnit_5 rfl rfl ?_
    refine ww_getN 3 dX3_readUnit_6 ((hR.lw hb3 L).1) rfl (by decide) inX5 wn_46 (rdS_3 _ _ _ _ _) ?_
    refine ww_sti (lv2 := [.ref b, .ref 1, .int (nI o), .int (-1), .int (nI n), UU]) dX3_readUnit_9 rfl (by decide) rfl ?_
    refine ww_iload_n dX3_readUnit_11 rfl rfl ?_
    refine ww_bipush (v := nI 48) dX3_readUnit_12 (by decide) ?_
    refine ww_icmp_lt (tgt := 39) dX3_readUnit_14 (by decide) (fun c14 => ?_) (fun c14 => ?_)
    · refine ww_iload_n dX3_readUnit_39 rfl rfl ?_
      refine ww_bipush (v := nI 40) dX3_readUnit_40 (by decide) ?_
      refine ww_icmp_ne (tgt := 78) dX3_readUnit_42 (by decide) (fun c42 => ?_) (fun c42 => ?_)
      · refine ww_aload_n dX3_readUnit_78 rfl rfl ?_
        refine ww_ldcS (i := 2) dX3_readUnit_79 rfl ?_
        refine ww_cVr (M := m_X3_readUnit) (pc := 81) (v := .int (-1)) (h1 := rdS (lwS h b L) n n 1 (nI n)) (st := []) (d := (d)) (bc := 0) (bs := 0) (c_Rd_word_l hst (hR.lw hb3 L) hB hn n (Nat.le_refl _) 2 (by decide) (W := wLaw) (fun ln => wfd_2 T _ ln) (wrd_end wLaw_ne T n)) vv_X5_word dX3_readUnit_81 wg_632 ((hR.lw hb3 L).1) rfl rfl rfl rfl (by omega) (Nat.le_of_ble_eq_true rfl) (Nat.le_of_ble_eq_true rfl) (Nat.le_of_ble_eq_true rfl) ?_
        refine ww_sti (lv2 := [.ref b, .ref 1, .int (nI o), .int (-1), .int (nI n), .int (-1)]) dX3_readUnit_84 rfl (by decide) rfl ?_
        refine ww_iload dX3_readUnit_86 rfl ?_
        refine ww_bipush (v := nI 7) dX3_readUnit_88 (by decide) ?_
        refine ww_icmp_lt (tgt := 133) dX3_readUnit_90 (by decide) (fun c90 => ?_) (fun c90 => ?_)
        · refine ww_iload dX3_readUnit_133 rfl ?_
          refine ww_if_lt (tgt := 145) dX3_readUnit_135 (by decide) (fun c135 => ?_) (fun c135 => ?_)
          · exact ww_vret dX3_readUnit_145 rfl ⟨rfl, (by rw [unitF_w (fun e => by omega), show sk T n a = n by omega, wrd_end wLaw_ne, bS_l]; exact ⟨_, (by omega), rfl⟩)⟩
          · exact absurd c135 (by decide)
        · exact absurd c90 (by decide)
      · exact absurd c42 (by decide)
    · exact absurd c14 (by decide)
set_option maxHeartbeats 4000000 in
set_option maxRecDepth 100000 in
theorem c_Lw_unit1 {l : Launch} {Z : EE} (hst : l.stackTraces = false) {h : PH} {tf : Nat → Int32} (hR : RdK h tf) {T : Nat → Nat} (hB : BT tf T) {n : Nat} (hn : n ≤ 600) {b : Nat} (hb : LwK h b) (hn5 : n ≤ 150) {d : Nat} (hd6 : 6 ≤ d) (o : Nat) (ho : o < 6) {U : Nat} {S : Nat → LWt → PR LWt} (hG : GoodU n U S) (hS : ∀ (a : Nat) (L : LWt), a ≤ n → L.1 ≤ a → CC l Z m_X3_readSum (d + 2) 0 0 [.ref b, .ref 1, .int (nI (o + 1))] (rdS (lwS h b L) n a 0 (-1)) (RQ none (LwO h b n (S a L)))) (hP : ∀ (a : Nat) (L : LWt), a ≤ n → L.1 ≤ a → CC l Z m_X3_readPair (d + 3) 0 0 [.ref b, .ref 1, .int (nI (o + 1))] (rdS (lwS h b L) n a 0 (-1)) (RQ none (LwO h b n (parS S T n a L)))) (a : Nat) (L : LWt) (ha : a ≤ n) (hL : L.1 ≤ a) : CC l Z m_X3_readUnit (d + 4) 0 0 [.ref b, .ref 1, .int (nI o)] (rdS (lwS h b L) n a 0 (-1)) (RQ none (LwO h b n (unitF (some S) T n a L))) := by
  refine ee_entry hst (by decide +kernel) rfl rfl (by simp [Value.category]) (Nat.le_of_ble_eq_true rfl) ?_
  refine ww_lv (lv2 := [.ref b, .ref 1, .int (nI o), UU, UU, UU]) rfl ?_
  have hb3 := hb.2.2.2.2.2
  refine ww_aload_n dX3_readUnit_0 rfl rfl ?_
  have hsl61 := sk_le (T := T) (show a ≤ n by omega)
  have hsg61 := sk_ge (T := T) (show a ≤ n by omega)
  have hsT61 := (hB (sk T n a)).2
  by_cases hl61 : sk T n a < n
  · refine ww_cVr (M := m_X3_readUnit) (pc := 1) (v := .int (nI (T (sk T n a)))) (h1 := rdS (lwS h b L) n (sk T n a) 0 (-1)) (st := []) (d := (d + 4)) (bc := 0) (bs := 0) (c_Rd_ahead_i hst (hR.lw hb3 L) hB hn 0 (-1) a (by omega) hl61) vv_X5_ahead dX3_readUnit_1 wg_620 ((hR.lw hb3 L).1) rfl rfl rfl rfl (by omega) (Nat.le_of_ble_eq_true rfl) (Nat.le_of_ble_eq_true rfl) (Nat.le_of_ble_eq_true rfl) ?_
    refine ww_sti_n (lv2 := [.ref b, .ref 1, .int (nI o), .int (nI (T (sk T n a))), UU, UU]) dX3_readUnit_4 rfl rfl (by decide) rfl ?_
    refine ww_aload_n dX3_readUnit_5 rfl rfl ?_
    refine ww_getN 3 dX3_readUnit_6 ((hR.lw hb3 L).1) rfl (by decide) inX5 wn_46 (rdS_3 _ _ _ _ _) ?_
    refine ww_sti (lv2 := [.ref b, .ref 1, .int (nI o), .int (nI (T (sk T n a))), .int (nI (sk T n a)), UU]) dX3_readUnit_9 rfl (by decide) rfl ?_
    refine ww_iload_n dX3_readUnit_11 rfl rfl ?_
    refine ww_bipush (v := nI 48) dX3_readUnit_12 (by decide) ?_
    refine ww_icmp_ltN (tgt := 39) dX3_readUnit_14 (by decide) (by omega) (by omega) (fun c14 => ?_) (fun c14 => ?_)
    · refine ww_iload_n dX3_readUnit_39 rfl rfl ?_
      refine ww_bipush (v := nI 40) dX3_readUnit_40 (by decide) ?_
      refine ww_icmp_neN (tgt := 78) dX3_readUnit_42 (by decide) (by omega) (by omega) (fun c42 => ?_) (fun c42 => ?_)
      · refine ww_aload_n dX3_readUnit_78 rfl rfl ?_
        refine ww_ldcS (i := 2) dX3_readUnit_79 rfl ?_
        rcases hr62 : wrdS wLaw T n (sk T n a) with ⟨k62, q62⟩ | ⟨a62, v62⟩
        · have hf62 := (wrdS_l hr62).1
          refine ww_cVr (M := m_X3_readUnit) (pc := 81) (v := .int (-1)) (h1 := rdS (lwS h b L) n n k62 (nI q62)) (st := []) (d := (d + 4)) (bc := 0) (bs := 0) (c_Rd_word_l hst (hR.lw hb3 L) hB hn (sk T n a) (by omega) 2 (by decide) (W := wLaw) (fun ln => wfd_2 T _ ln) hr62) vv_X5_word dX3_readUnit_81 wg_632 ((hR.lw hb3 L).1) rfl rfl rfl rfl (by omega) (Nat.le_of_ble_eq_true rfl) (Nat.le_of_ble_eq_true rfl) (Nat.le_of_ble_eq_true rfl) ?_
          refine ww_sti (lv2 := [.ref b, .ref 1, .int (nI o), .int (nI (T (sk T n a))), .int (nI (sk T n a)), .int (-1)]) dX3_readUnit_84 rfl (by decide) rfl ?_
          refine ww_iload dX3_readUnit_86 rfl ?_
          refine ww_bipush (v := nI 7) dX3_readUnit_88 (by decide) ?_
          refine ww_icmp_lt (tgt := 133) dX3_readUnit_90 (by decide) (fun c90 => ?_) (fun c90 => ?_)
          · refine ww_iload dX3_readUnit_133 rfl ?_
            refine ww_if_lt (tgt := 145) dX3_readUnit_135 (by decide) (fun c135 => ?_) (fun c135 => ?_)
            · exact ww_vret dX3_readUnit_145 rfl ⟨rfl, (by rw [unitF_w (fun e => ⟨by omega, by omega⟩), hr62, bS_l]; exact ⟨_, (by omega), rfl⟩)⟩
            · exact absurd c135 (by decide)
          · exact absurd c90 (by decide)
        · have hf62 := wrdS_lt wLaw_ne (by omega) hr62
          have hg62 := sk_ge (T := T) (show sk T n a ≤ n by omega)
          rcases (show v62 = 0 ∨ v62 = 1 ∨ v62 = 2 ∨ v62 = 3 ∨ v62 = 4 ∨ v62 = 5 ∨ v62 = 6 ∨ v62 = 7 ∨ v62 = 8 by have h9 := hf62.2.2; simp only [wLaw, List.length_cons, List.length_nil] at h9; omega) with rfl | rfl | rfl | rfl | rfl | rfl | rfl | rfl | rfl
          · refine ww_cVr (M := m_X3_readUnit) (pc := 81) (v := .int (nI 0)) (h1 := rdS (lwS h b L) n a62 0 (-1)) (st := []) (d := (d + 4)) (bc := 0) (bs := 0) (c_Rd_word_r hst (hR.lw hb3 L) hB hn (sk T n a) (by omega) 2 (by decide) (W := wLaw) (fun ln => wfd_2 T _ ln) hr62) vv_X5_word dX3_readUnit_81 wg_632 ((hR.lw hb3 L).1) rfl rfl rfl rfl (by omega) (Nat.le_of_ble_eq_true rfl) (Nat.le_of_ble_eq_true rfl) (Nat.le_of_ble_eq_true rfl) ?_
            refine ww_sti (lv2 := [.ref b, .ref 1, .int (nI o), .int (nI (T (sk T n a))), .int (nI (sk T n a)), .int (nI 0)]) dX3_readUnit_84 rfl (by decide) rfl ?_
            refine ww_iload dX3_readUnit_86 rfl ?_
            refine ww_bipush (v := nI 7) dX3_readUnit_88 (by decide) ?_
            refine ww_icmp_ltN (tgt := 133) dX3_readUnit_90 (by decide) (by omega) (by omega) (fun c90 => ?_) (fun c90 => ?_)
            · refine ww_iload dX3_readUnit_133 rfl ?_
              refine ww_if_ltN (tgt := 145) dX3_readUnit_135 (by decide) (by omega) ?_
              refine ww_aload_n dX3_readUnit_138 rfl rfl ?_
              refine ww_iconst (v := nI 1) dX3_readUnit_139 (by decide) ?_
              refine ww_iload dX3_readUnit_140 rfl ?_
              have he62 : (eL 1 0 L).1 = L.1 + 1 := rfl
              refine ww_cV0 (M := m_X3_readUnit) (pc := 142) (h1 := rdS (lwS h b (eL 1 0 L)) n a62 0 (-1)) (st := []) (d := (d + 4)) (bc := 0) (bs := 0) (c_Lw_add hst hR hB hn hb a62 0 (-1) L (by omega) 1 0) vv_X3_add dX3_readUnit_142 wg_622 hb.1 rfl rfl rfl rfl (by omega) (Nat.le_of_ble_eq_true rfl) (Nat.le_of_ble_eq_true rfl) (Nat.le_of_ble_eq_true rfl) ?_
              exact ww_vret dX3_readUnit_145 rfl ⟨rfl, (by rw [unitF_w (fun e => ⟨by omega, by omega⟩), hr62, bS_r, if_neg (by decide)]; exact rfl)⟩
            · exact absurd c90 (by decide)
          · refine ww_cVr (M := m_X3_readUnit) (pc := 81) (v := .int (nI 1)) (h1 := rdS (lwS h b L) n a62 0 (-1)) (st := []) (d := (d + 4)) (bc := 0) (bs := 0) (c_Rd_word_r hst (hR.lw hb3 L) hB hn (sk T n a) (by omega) 2 (by decide) (W := wLaw) (fun ln => wfd_2 T _ ln) hr62) vv_X5_word dX3_readUnit_81 wg_632 ((hR.lw hb3 L).1) rfl rfl rfl rfl (by omega) (Nat.le_of_ble_eq_true rfl) (Nat.le_of_ble_eq_true rfl) (Nat.le_of_ble_eq_true rfl) ?_
            refine ww_sti (lv2 := [.ref b, .ref 1, .int (nI o), .int (nI (T (sk T n a))), .int (nI (sk T n a)), .int (nI 1)]) dX3_readUnit_84 rfl (by decide) rfl ?_
            refine ww_iload dX3_readUnit_86 rfl ?_
            refine ww_bipush (v := nI 7) dX3_readUnit_88 (by decide) ?_
            refine ww_icmp_ltN (tgt := 133) dX3_readUnit_90 (by decide) (by omega) (by omega) (fun c90 => ?_) (fun c90 => ?_)
            · refine ww_iload dX3_readUnit_133 rfl ?_
              refine ww_if_ltN (tgt := 145) dX3_readUnit_135 (by decide) (by omega) ?_
              refine ww_aload_n dX3_readUnit_138 rfl rfl ?_
              refine ww_iconst (v := nI 1) dX3_readUnit_139 (by decide) ?_
              refine ww_iload dX3_readUnit_140 rfl ?_
              have he63 : (eL 1 1 L).1 = L.1 + 1 := rfl
              refine ww_cV0 (M := m_X3_readUnit) (pc := 142) (h1 := rdS (lwS h b (eL 1 1 L)) n a62 0 (-1)) (st := []) (d := (d + 4)) (bc := 0) (bs := 0) (c_Lw_add hst hR hB hn hb a62 0 (-1) L (by omega) 1 1) vv_X3_add dX3_readUnit_142 wg_622 hb.1 rfl rfl rfl rfl (by omega) (Nat.le_of_ble_eq_true rfl) (Nat.le_of_ble_eq_true rfl) (Nat.le_of_ble_eq_true rfl) ?_
              exact ww_vret dX3_readUnit_145 rfl ⟨rfl, (by rw [unitF_w (fun e => ⟨by omega, by omega⟩), hr62, bS_r, if_neg (by decide)]; exact rfl)⟩
            · exact absurd c90 (by decide)
          · refine ww_cVr (M := m_X3_readUnit) (pc := 81) (v := .int (nI 2)) (h1 := rdS (lwS h b L) n a62 0 (-1)) (st := []) (d := (d + 4)) (bc := 0) (bs := 0) (c_Rd_word_r hst (hR.lw hb3 L) hB hn (sk T n a) (by omega) 2 (by decide) (W := wLaw) (fun ln => wfd_2 T _ ln) hr62) vv_X5_word dX3_readUnit_81 wg_632 ((hR.lw hb3 L).1) rfl rfl rfl rfl (by omega) (Nat.le_of_ble_eq_true rfl) (Nat.le_of_ble_eq_true rfl) (Nat.le_of_ble_eq_true rfl) ?_
            refine ww_sti (lv2 := [.ref b, .ref 1, .int (nI o), .int (nI (T (sk T n a))), .int (nI (sk T n a)), .int (nI 2)]) dX3_readUnit_84 rfl (by decide) rfl ?_
            refine ww_iload dX3_readUnit_86 rfl ?_
            refine ww_bipush (v := nI 7) dX3_readUnit_88 (by decide) ?_
            refine ww_icmp_ltN (tgt := 133) dX3_readUnit_90 (by decide) (by omega) (by omega) (fun c90 => ?_) (fun c90 => ?_)
            · refine ww_iload dX3_readUnit_133 rfl ?_
              refine ww_if_ltN (tgt := 145) dX3_readUnit_135 (by decide) (by omega) ?_
              refine ww_aload_n dX3_readUnit_138 rfl rfl ?_
              refine ww_iconst (v := nI 1) dX3_readUnit_139 (by decide) ?_
              refine ww_iload dX3_readUnit_140 rfl ?_
              have he64 : (eL 1 2 L).1 = L.1 + 1 := rfl
              refine ww_cV0 (M := m_X3_readUnit) (pc := 142) (h1 := rdS (lwS h b (eL 1 2 L)) n a62 0 (-1)) (st := []) (d := (d + 4)) (bc := 0) (bs := 0) (c_Lw_add hst hR hB hn hb a62 0 (-1) L (by omega) 1 2) vv_X3_add dX3_readUnit_142 wg_622 hb.1 rfl rfl rfl rfl (by omega) (Nat.le_of_ble_eq_true rfl) (Nat.le_of_ble_eq_true rfl) (Nat.le_of_ble_eq_true rfl) ?_
              exact ww_vret dX3_readUnit_145 rfl ⟨rfl, (by rw [unitF_w (fun e => ⟨by omega, by omega⟩), hr62, bS_r, if_neg (by decide)]; exact rfl)⟩
            · exact absurd c90 (by decide)
          · refine ww_cVr (M := m_X3_readUnit) (pc := 81) (v := .int (nI 3)) (h1 := rdS (lwS h b L) n a62 0 (-1)) (st := []) (d := (d + 4)) (bc := 0) (bs := 0) (c_Rd_word_r hst (hR.lw hb3 L) hB hn (sk T n a) (by omega) 2 (by decide) (W := wLaw) (fun ln => wfd_2 T _ ln) hr62) vv_X5_word dX3_readUnit_81 wg_632 ((hR.lw hb3 L).1) rfl rfl rfl rfl (by omega) (Nat.le_of_ble_eq_true rfl) (Nat.le_of_ble_eq_true rfl) (Nat.le_of_ble_eq_true rfl) ?_
            refine ww_sti (lv2 := [.ref b, .ref 1, .int (nI o), .int (nI (T (sk T n a))), .int (nI (sk T n a)), .int (nI 3)]) dX3_readUnit_84 rfl (by decide) rfl ?_
            refine ww_iload dX3_readUnit_86 rfl ?_
            refine ww_bipush (v := nI 7) dX3_readUnit_88 (by decide) ?_
            refine ww_icmp_ltN (tgt := 133) dX3_readUnit_90 (by decide) (by omega) (by omega) (fun c90 => ?_) (fun c90 => ?_)
            · refine ww_iload dX3_readUnit_133 rfl ?_
              refine ww_if_ltN (tgt := 145) dX3_readUnit_135 (by decide) (by omega) ?_
              refine ww_aload_n dX3_readUnit_138 rfl rfl ?_
              refine ww_iconst (v := nI 1) dX3_readUnit_139 (by decide) ?_
              refine ww_iload dX3_readUnit_140 rfl ?_
              have he65 : (eL 1 3 L).1 = L.1 + 1 := rfl
              refine ww_cV0 (M := m_X3_readUnit) (pc := 142) (h1 := rdS (lwS h b (eL 1 3 L)) n a62 0 (-1)) (st := []) (d := (d + 4)) (bc := 0) (bs := 0) (c_Lw_add hst hR hB hn hb a62 0 (-1) L (by omega) 1 3) vv_X3_add dX3_readUnit_142 wg_622 hb.1 rfl rfl rfl rfl (by omega) (Nat.le_of_ble_eq_true rfl) (Nat.le_of_ble_eq_true rfl) (Nat.le_of_ble_eq_true rfl) ?_
              exact ww_vret dX3_readUnit_145 rfl ⟨rfl, (by rw [unitF_w (fun e => ⟨by omega, by omega⟩), hr62, bS_r, if_neg (by decide)]; exact rfl)⟩
            · exact absurd c90 (by decide)
          · refine ww_cVr (M := m_X3_readUnit) (pc := 81) (v := .int (nI 4)) (h1 := rdS (lwS h b L) n a62 0 (-1)) (st := []) (d := (d + 4)) (bc := 0) (bs := 0) (c_Rd_word_r hst (hR.lw hb3 L) hB hn (sk T n a) (by omega) 2 (by decide) (W := wLaw) (fun ln => wfd_2 T _ ln) hr62) vv_X5_word dX3_readUnit_81 wg_632 ((hR.lw hb3 L).1) rfl rfl rfl rfl (by omega) (Nat.le_of_ble_eq_true rfl) (Nat.le_of_ble_eq_true rfl) (Nat.le_of_ble_eq_true rfl) ?_
            refine ww_sti (lv2 := [.ref b, .ref 1, .int (nI o), .int (nI (T (sk T n a))), .int (nI (sk T n a)), .int (nI 4)]) dX3_readUnit_84 rfl (by decide) rfl ?_
            refine ww_iload dX3_readUnit_86 rfl ?_
            refine ww_bipush (v := nI 7) dX3_readUnit_88 (by decide) ?_
            refine ww_icmp_ltN (tgt := 133) dX3_readUnit_90 (by decide) (by omega) (by omega) (fun c90 => ?_) (fun c90 => ?_)
            · refine ww_iload dX3_readUnit_133 rfl ?_
              refine ww_if_ltN (tgt := 145) dX3_readUnit_135 (by decide) (by omega) ?_
              refine ww_aload_n dX3_readUnit_138 rfl rfl ?_
              refine ww_iconst (v := nI 1) dX3_readUnit_139 (by decide) ?_
              refine ww_iload dX3_readUnit_140 rfl ?_
              have he66 : (eL 1 4 L).1 = L.1 + 1 := rfl
              refine ww_cV0 (M := m_X3_readUnit) (pc := 142) (h1 := rdS (lwS h b (eL 1 4 L)) n a62 0 (-1)) (st := []) (d := (d + 4)) (bc := 0) (bs := 0) (c_Lw_add hst hR hB hn hb a62 0 (-1) L (by omega) 1 4) vv_X3_add dX3_readUnit_142 wg_622 hb.1 rfl rfl rfl rfl (by omega) (Nat.le_of_ble_eq_true rfl) (Nat.le_of_ble_eq_true rfl) (Nat.le_of_ble_eq_true rfl) ?_
              exact ww_vret dX3_readUnit_145 rfl ⟨rfl, (by rw [unitF_w (fun e => ⟨by omega, by omega⟩), hr62, bS_r, if_neg (by decide)]; exact rfl)⟩
            · exact absurd c90 (by decide)
          · refine ww_cVr (M := m_X3_readUnit) (pc := 81) (v := .int (nI 5)) (h1 := rdS (lwS h b L) n a62 0 (-1)) (st := []) (d := (d + 4)) (bc := 0) (bs := 0) (c_Rd_word_r hst (hR.lw hb3 L) hB hn (sk T n a) (by omega) 2 (by decide) (W := wLaw) (fun ln => wfd_2 T _ ln) hr62) vv_X5_word dX3_readUnit_81 wg_632 ((hR.lw hb3 L).1) rfl rfl rfl rfl (by omega) (Nat.le_of_ble_eq_true rfl) (Nat.le_of_ble_eq_true rfl) (Nat.le_of_ble_eq_true rfl) ?_
            refine ww_sti (lv2 := [.ref b, .ref 1, .int (nI o), .int (nI (T (sk T n a))), .int (nI (sk T n a)), .int (nI 5)]) dX3_readUnit_84 rfl (by decide) rfl ?_
            refine ww_iload dX3_readUnit_86 rfl ?_
            refine ww_bipush (v := nI 7) dX3_readUnit_88 (by decide) ?_
            refine ww_icmp_ltN (tgt := 133) dX3_readUnit_90 (by decide) (by omega) (by omega) (fun c90 => ?_) (fun c90 => ?_)
            · refine ww_iload dX3_readUnit_133 rfl ?_
              refine ww_if_ltN (tgt := 145) dX3_readUnit_135 (by decide) (by omega) ?_
              refine ww_aload_n dX3_readUnit_138 rfl rfl ?_
              refine ww_iconst (v := nI 1) dX3_readUnit_139 (by decide) ?_
              refine ww_iload dX3_readUnit_140 rfl ?_
              have he67 : (eL 1 5 L).1 = L.1 + 1 := rfl
              refine ww_cV0 (M := m_X3_readUnit) (pc := 142) (h1 := rdS (lwS h b (eL 1 5 L)) n a62 0 (-1)) (st := []) (d := (d + 4)) (bc := 0) (bs := 0) (c_Lw_add hst hR hB hn hb a62 0 (-1) L (by omega) 1 5) vv_X3_add dX3_readUnit_142 wg_622 hb.1 rfl rfl rfl rfl (by omega) (Nat.le_of_ble_eq_true rfl) (Nat.le_of_ble_eq_true rfl) (Nat.le_of_ble_eq_true rfl) ?_
              exact ww_vret dX3_readUnit_145 rfl ⟨rfl, (by rw [unitF_w (fun e => ⟨by omega, by omega⟩), hr62, bS_r, if_neg (by decide)]; exact rfl)⟩
            · exact absurd c90 (by decide)
          · refine ww_cVr (M := m_X3_readUnit) (pc := 81) (v := .int (nI 6)) (h1 := rdS (lwS h b L) n a62 0 (-1)) (st := []) (d := (d + 4)) (bc := 0) (bs := 0) (c_Rd_word_r hst (hR.lw hb3 L) hB hn (sk T n a) (by omega) 2 (by decide) (W := wLaw) (fun ln => wfd_2 T _ ln) hr62) vv_X5_word dX3_readUnit_81 wg_632 ((hR.lw hb3 L).1) rfl rfl rfl rfl (by omega) (Nat.le_of_ble_eq_true rfl) (Nat.le_of_ble_eq_true rfl) (Nat.le_of_ble_eq_true rfl) ?_
            refine ww_sti (lv2 := [.ref b, .ref 1, .int (nI o), .int (nI (T (sk T n a))), .int (nI (sk T n a)), .int (nI 6)]) dX3_readUnit_84 rfl (by decide) rfl ?_
            refine ww_iload dX3_readUnit_86 rfl ?_
            refine ww_bipush (v := nI 7) dX3_readUnit_88 (by decide) ?_
            refine ww_icmp_ltN (tgt := 133) dX3_readUnit_90 (by decide) (by omega) (by omega) (fun c90 => ?_) (fun c90 => ?_)
            · refine ww_iload dX3_readUnit_133 rfl ?_
              refine ww_if_ltN (tgt := 145) dX3_readUnit_135 (by decide) (by omega) ?_
              refine ww_aload_n dX3_readUnit_138 rfl rfl ?_
              refine ww_iconst (v := nI 1) dX3_readUnit_139 (by decide) ?_
              refine ww_iload dX3_readUnit_140 rfl ?_
              have he68 : (eL 1 6 L).1 = L.1 + 1 := rfl
              refine ww_cV0 (M := m_X3_readUnit) (pc := 142) (h1 := rdS (lwS h b (eL 1 6 L)) n a62 0 (-1)) (st := []) (d := (d + 4)) (bc := 0) (bs := 0) (c_Lw_add hst hR hB hn hb a62 0 (-1) L (by omega) 1 6) vv_X3_add dX3_readUnit_142 wg_622 hb.1 rfl rfl rfl rfl (by omega) (Nat.le_of_ble_eq_true rfl) (Nat.le_of_ble_eq_true rfl) (Nat.le_of_ble_eq_true rfl) ?_
              exact ww_vret dX3_readUnit_145 rfl ⟨rfl, (by rw [unitF_w (fun e => ⟨by omega, by omega⟩), hr62, bS_r, if_neg (by decide)]; exact rfl)⟩
            · exact absurd c90 (by decide)
          · refine ww_cVr (M := m_X3_readUnit) (pc := 81) (v := .int (nI 7)) (h1 := rdS (lwS h b L) n a62 0 (-1)) (st := []) (d := (d + 4)) (bc := 0) (bs := 0) (c_Rd_word_r hst (hR.lw hb3 L) hB hn (sk T n a) (by omega) 2 (by decide) (W := wLaw) (fun ln => wfd_2 T _ ln) hr62) vv_X5_word dX3_readUnit_81 wg_632 ((hR.lw hb3 L).1) rfl rfl rfl rfl (by omega) (Nat.le_of_ble_eq_true rfl) (Nat.le_of_ble_eq_true rfl) (Nat.le_of_ble_eq_true rfl) ?_
            refine ww_sti (lv2 := [.ref b, .ref 1, .int (nI o), .int (nI (T (sk T n a))), .int (nI (sk T n a)), .int (nI 7)]) dX3_readUnit_84 rfl (by decide) rfl ?_
            refine ww_iload dX3_readUnit_86 rfl ?_
            refine ww_bipush (v := nI 7) dX3_readUnit_88 (by decide) ?_
            refine ww_icmp_ltN (tgt := 133) dX3_readUnit_90 (by decide) (by omega) (by omega) (fun c90 => ?_) (fun c90 => ?_)
            · exact absurd c90 (by decide)
            · refine ww_aload_n dX3_readUnit_93 rfl rfl ?_
              refine ww_iload_n dX3_readUnit_94 rfl rfl ?_
              refine ww_iload dX3_readUnit_95 rfl ?_
              refine ww_cSr (M := m_X3_readUnit) (pc := 97) (v := .int (nI 1)) (h1 := rdS (lwS h b L) n a62 0 (-1)) (st := []) (d := (d + 4)) (bc := 0) (bs := 0) (c_Lw_may_t hst (hR.lw hb3 L) hB hn a62 o (sk T n a) (by omega)) vv_X3_mayOpen dX3_readUnit_97 wg_626 rfl rfl rfl (by omega) (Nat.le_of_ble_eq_true rfl) (Nat.le_of_ble_eq_true rfl) (Nat.le_of_ble_eq_true rfl) ?_
              refine ww_if_eqN (tgt := 145) dX3_readUnit_100 (by decide) (by omega) (fun c100 => ?_) (fun c100 => ?_)
              · exact absurd c100 (by decide)
              · refine ww_aload_n dX3_readUnit_103 rfl rfl ?_
                refine ww_aload_n dX3_readUnit_104 rfl rfl ?_
                refine ww_iload_n dX3_readUnit_105 rfl rfl ?_
                refine ww_iconst (v := nI 1) dX3_readUnit_106 (by decide) ?_
                refine ww_iaddN dX3_readUnit_107 ?_
                have hg70 := parS_G (T := T) hG L (show a62 ≤ n by omega)
                refine ww_cVq0 (M := m_X3_readUnit) (pc := 108) (st := []) (d := (d + 4)) (bc := 0) (bs := 0) (hP a62 L (by omega) (by omega)) vv_X3_readPair dX3_readUnit_108 wg_633 hb.1 rfl rfl rfl rfl (by omega) (Nat.le_of_ble_eq_true rfl) (Nat.le_of_ble_eq_true rfl) (Nat.le_of_ble_eq_true rfl) (fun ho70 qo70 => ?_)
                rcases hr70 : parS S T n a62 L with ⟨k70, q70⟩ | ⟨a70, L70⟩
                · rw [hr70] at qo70
                  obtain ⟨L70, hL70, rfl⟩ := qo70
                  have hf70 := (hg70).l hr70
                  refine ww_aload_n dX3_readUnit_111 rfl rfl ?_
                  refine ww_iload dX3_readUnit_112 rfl ?_
                  refine ww_bipush (v := nI 7) dX3_readUnit_114 (by decide) ?_
                  refine ww_icmp_neN (tgt := 124) dX3_readUnit_116 (by decide) (by omega) (by omega) (fun c116 => ?_) (fun c116 => ?_)
                  · exact absurd c116 (by decide)
                  · refine ww_bipush (v := nI 7) dX3_readUnit_119 (by decide) ?_
                    refine ww_goto (tgt := 126) dX3_readUnit_121 (by decide) ?_
                    refine ww_iconst (v := nI 0) dX3_readUnit_126 (by decide) ?_
                    refine ww_cVq0 (M := m_X3_readUnit) (pc := 127) (st := []) (d := (d + 4)) (bc := 0) (bs := 0) (c_Lw_add_f hst hR hB hn hb n k70 (nI q70) L70 (by omega) 7 0) vv_X3_add dX3_readUnit_127 wg_622 hb.1 rfl rfl rfl rfl (by omega) (Nat.le_of_ble_eq_true rfl) (Nat.le_of_ble_eq_true rfl) (Nat.le_of_ble_eq_true rfl) (fun ha71 qa71 => ?_)
                    obtain ⟨M71, hM71, rfl⟩ := qa71
                    refine ww_goto (tgt := 145) dX3_readUnit_130 (by decide) ?_
                    exact ww_vret dX3_readUnit_145 rfl ⟨rfl, (by rw [unitF_w (fun e => ⟨by omega, by omega⟩), hr62, bS_r, if_pos (by decide)]; show LwO h b n (bS _ _) _; rw [hr70, bS_l]; exact ⟨_, (by omega), rfl⟩)⟩
                · rw [hr70] at qo70
                  have qo70 : _ = _ := qo70
                  subst qo70
                  have hf70 := (hg70).r hr70
                  refine ww_aload_n dX3_readUnit_111 rfl rfl ?_
                  refine ww_iload dX3_readUnit_112 rfl ?_
                  refine ww_bipush (v := nI 7) dX3_readUnit_114 (by decide) ?_
                  refine ww_icmp_neN (tgt := 124) dX3_readUnit_116 (by decide) (by omega) (by omega) (fun c116 => ?_) (fun c116 => ?_)
                  · exact absurd c116 (by decide)
                  · refine ww_bipush (v := nI 7) dX3_readUnit_119 (by decide) ?_
                    refine ww_goto (tgt := 126) dX3_readUnit_121 (by decide) ?_
                    refine ww_iconst (v := nI 0) dX3_readUnit_126 (by decide) ?_
                    have he71 : (eL 7 0 L70).1 = L70.1 + 1 := rfl
                    refine ww_cV0 (M := m_X3_readUnit) (pc := 127) (h1 := rdS (lwS h b (eL 7 0 L70)) n a70 0 (-1)) (st := []) (d := (d + 4)) (bc := 0) (bs := 0) (c_Lw_add hst hR hB hn hb a70 0 (-1) L70 (by omega) 7 0) vv_X3_add dX3_readUnit_127 wg_622 hb.1 rfl rfl rfl rfl (by omega) (Nat.le_of_ble_eq_true rfl) (Nat.le_of_ble_eq_true rfl) (Nat.le_of_ble_eq_true rfl) ?_
                    refine ww_goto (tgt := 145) dX3_readUnit_130 (by decide) ?_
                    exact ww_vret dX3_readUnit_145 rfl ⟨rfl, (by rw [unitF_w (fun e => ⟨by omega, by omega⟩), hr62, bS_r, if_pos (by decide)]; show LwO h b n (bS _ _) _; rw [hr70, bS_r]; exact rfl)⟩
          · refine ww_cVr (M := m_X3_readUnit) (pc := 81) (v := .int (nI 8)) (h1 := rdS (lwS h b L) n a62 0 (-1)) (st := []) (d := (d + 4)) (bc := 0) (bs := 0) (c_Rd_word_r hst (hR.lw hb3 L) hB hn (sk T n a) (by omega) 2 (by decide) (W := wLaw) (fun ln => wfd_2 T _ ln) hr62) vv_X5_word dX3_readUnit_81 wg_632 ((hR.lw hb3 L).1) rfl rfl rfl rfl (by omega) (Nat.le_of_ble_eq_true rfl) (Nat.le_of_ble_eq_true rfl) (Nat.le_of_ble_eq_true rfl) ?_
            refine ww_sti (lv2 := [.ref b, .ref 1, .int (nI o), .int (nI (T (sk T n a))), .int (nI (sk T n a)), .int (nI 8)]) dX3_readUnit_84 rfl (by decide) rfl ?_
            refine ww_iload dX3_readUnit_86 rfl ?_
            refine ww_bipush (v := nI 7) dX3_readUnit_88 (by decide) ?_
            refine ww_icmp_ltN (tgt := 133) dX3_readUnit_90 (by decide) (by omega) (by omega) (fun c90 => ?_) (fun c90 => ?_)
            · exact absurd c90 (by decide)
            · refine ww_aload_n dX3_readUnit_93 rfl rfl ?_
              refine ww_iload_n dX3_readUnit_94 rfl rfl ?_
              refine ww_iload dX3_readUnit_95 rfl ?_
              refine ww_cSr (M := m_X3_readUnit) (pc := 97) (v := .int (nI 1)) (h1 := rdS (lwS h b L) n a62 0 (-1)) (st := []) (d := (d + 4)) (bc := 0) (bs := 0) (c_Lw_may_t hst (hR.lw hb3 L) hB hn a62 o (sk T n a) (by omega)) vv_X3_mayOpen dX3_readUnit_97 wg_626 rfl rfl rfl (by omega) (Nat.le_of_ble_eq_true rfl) (Nat.le_of_ble_eq_true rfl) (Nat.le_of_ble_eq_true rfl) ?_
              refine ww_if_eqN (tgt := 145) dX3_readUnit_100 (by decide) (by omega) (fun c100 => ?_) (fun c100 => ?_)
              · exact absurd c100 (by decide)
              · refine ww_aload_n dX3_readUnit_103 rfl rfl ?_
                refine ww_aload_n dX3_readUnit_104 rfl rfl ?_
                refine ww_iload_n dX3_readUnit_105 rfl rfl ?_
                refine ww_iconst (v := nI 1) dX3_readUnit_106 (by decide) ?_
                refine ww_iaddN dX3_readUnit_107 ?_
                have hg73 := parS_G (T := T) hG L (show a62 ≤ n by omega)
                refine ww_cVq0 (M := m_X3_readUnit) (pc := 108) (st := []) (d := (d + 4)) (bc := 0) (bs := 0) (hP a62 L (by omega) (by omega)) vv_X3_readPair dX3_readUnit_108 wg_633 hb.1 rfl rfl rfl rfl (by omega) (Nat.le_of_ble_eq_true rfl) (Nat.le_of_ble_eq_true rfl) (Nat.le_of_ble_eq_true rfl) (fun ho73 qo73 => ?_)
                rcases hr73 : parS S T n a62 L with ⟨k73, q73⟩ | ⟨a73, L73⟩
                · rw [hr73] at qo73
                  obtain ⟨L73, hL73, rfl⟩ := qo73
                  have hf73 := (hg73).l hr73
                  refine ww_aload_n dX3_readUnit_111 rfl rfl ?_
                  refine ww_iload dX3_readUnit_112 rfl ?_
                  refine ww_bipush (v := nI 7) dX3_readUnit_114 (by decide) ?_
                  refine ww_icmp_neN (tgt := 124) dX3_readUnit_116 (by decide) (by omega) (by omega) (fun c116 => ?_) (fun c116 => ?_)
                  · refine ww_bipush (v := nI 8) dX3_readUnit_124 (by decide) ?_
                    refine ww_iconst (v := nI 0) dX3_readUnit_126 (by decide) ?_
                    refine ww_cVq0 (M := m_X3_readUnit) (pc := 127) (st := []) (d := (d + 4)) (bc := 0) (bs := 0) (c_Lw_add_f hst hR hB hn hb n k73 (nI q73) L73 (by omega) 8 0) vv_X3_add dX3_readUnit_127 wg_622 hb.1 rfl rfl rfl rfl (by omega) (Nat.le_of_ble_eq_true rfl) (Nat.le_of_ble_eq_true rfl) (Nat.le_of_ble_eq_true rfl) (fun ha74 qa74 => ?_)
                    obtain ⟨M74, hM74, rfl⟩ := qa74
                    refine ww_goto (tgt := 145) dX3_readUnit_130 (by decide) ?_
                    exact ww_vret dX3_readUnit_145 rfl ⟨rfl, (by rw [unitF_w (fun e => ⟨by omega, by omega⟩), hr62, bS_r, if_pos (by decide)]; show LwO h b n (bS _ _) _; rw [hr73, bS_l]; exact ⟨_, (by omega), rfl⟩)⟩
                  · exact absurd c116 (by decide)
                · rw [hr73] at qo73
                  have qo73 : _ = _ := qo73
                  subst qo73
                  have hf73 := (hg73).r hr73
                  refine ww_aload_n dX3_readUnit_111 rfl rfl ?_
                  refine ww_iload dX3_readUnit_112 rfl ?_
                  refine ww_bipush (v := nI 7) dX3_readUnit_114 (by decide) ?_
                  refine ww_icmp_neN (tgt := 124) dX3_readUnit_116 (by decide) (by omega) (by omega) (fun c116 => ?_) (fun c116 => ?_)
                  · refine ww_bipush (v := nI 8) dX3_readUnit_124 (by decide) ?_
                    refine ww_iconst (v := nI 0) dX3_readUnit_126 (by decide) ?_
                    have he74 : (eL 8 0 L73).1 = L73.1 + 1 := rfl
                    refine ww_cV0 (M := m_X3_readUnit) (pc := 127) (h1 := rdS (lwS h b (eL 8 0 L73)) n a73 0 (-1)) (st := []) (d := (d + 4)) (bc := 0) (bs := 0) (c_Lw_add hst hR hB hn hb a73 0 (-1) L73 (by omega) 8 0) vv_X3_add dX3_readUnit_127 wg_622 hb.1 rfl rfl rfl rfl (by omega) (Nat.le_of_ble_eq_true rfl) (Nat.le_of_ble_eq_true rfl) (Nat.le_of_ble_eq_true rfl) ?_
                    refine ww_goto (tgt := 145) dX3_readUnit_130 (by decide) ?_
                    exact ww_vret dX3_readUnit_145 rfl ⟨rfl, (by rw [unitF_w (fun e => ⟨by omega, by omega⟩), hr62, bS_r, if_pos (by decide)]; show LwO h b n (bS _ _) _; rw [hr73, bS_r]; exact rfl)⟩
                  · exact absurd c116 (by decide)
      · refine ww_aload_n dX3_readUnit_45 rfl rfl ?_
        refine ww_iload_n dX3_readUnit_46 rfl rfl ?_
        refine ww_iload dX3_readUnit_47 rfl ?_
        refine ww_cSr (M := m_X3_readUnit) (pc := 49) (v := .int (nI 1)) (h1 := rdS (lwS h b L) n (sk T n a) 0 (-1)) (st := []) (d := (d + 4)) (bc := 0) (bs := 0) (c_Lw_may_t hst (hR.lw hb3 L) hB hn (sk T n a) o (sk T n a) (by omega)) vv_X3_mayOpen dX3_readUnit_49 wg_626 rfl rfl rfl (by omega) (Nat.le_of_ble_eq_true rfl) (Nat.le_of_ble_eq_true rfl) (Nat.le_of_ble_eq_true rfl) ?_
        refine ww_if_eqN (tgt := 145) dX3_readUnit_52 (by decide) (by omega) (fun c52 => ?_) (fun c52 => ?_)
        · exact absurd c52 (by decide)
        · refine ww_aload_n dX3_readUnit_55 rfl rfl ?_
          refine ww_bipush (v := nI 40) dX3_readUnit_56 (by decide) ?_
          refine ww_cV0 (M := m_X3_readUnit) (pc := 58) (h1 := rdS (lwS h b L) n (sk T n a + 1) 0 (-1)) (st := []) (d := (d + 4)) (bc := 0) (bs := 0) (c_Rd_sign_r hst (hR.lw hb3 L) hB hn (sk T n a) (by omega) 40 (by omega) (sgn_at (a := a) (by omega) (by assumption) (by omega))) vv_X5_sign dX3_readUnit_58 wg_630 ((hR.lw hb3 L).1) rfl rfl rfl rfl (by omega) (Nat.le_of_ble_eq_true rfl) (Nat.le_of_ble_eq_true rfl) (Nat.le_of_ble_eq_true rfl) ?_
          refine ww_aload_n dX3_readUnit_61 rfl rfl ?_
          refine ww_aload_n dX3_readUnit_62 rfl rfl ?_
          refine ww_iload_n dX3_readUnit_63 rfl rfl ?_
          refine ww_iconst (v := nI 1) dX3_readUnit_64 (by decide) ?_
          refine ww_iaddN dX3_readUnit_65 ?_
          have hg76 := hG (sk T n a + 1) L (by omega)
          refine ww_cVq0 (M := m_X3_readUnit) (pc := 66) (st := []) (d := (d + 4)) (bc := 0) (bs := 0) (hS (sk T n a + 1) L (by omega) (by omega)) vv_X3_readSum dX3_readUnit_66 wg_608 hb.1 rfl rfl rfl rfl (by omega) (Nat.le_of_ble_eq_true rfl) (Nat.le_of_ble_eq_true rfl) (Nat.le_of_ble_eq_true rfl) (fun ho76 qo76 => ?_)
          rcases hr76 : S (sk T n a + 1) L with ⟨k76, q76⟩ | ⟨a76, L76⟩
          · rw [hr76] at qo76
            obtain ⟨L76, hL76, rfl⟩ := qo76
            have hf76 := (hg76).l hr76
            refine ww_aload_n dX3_readUnit_69 rfl rfl ?_
            refine ww_bipush (v := nI 41) dX3_readUnit_70 (by decide) ?_
            refine ww_cV0 (M := m_X3_readUnit) (pc := 72) (h1 := rdS (lwS h b L76) n n k76 (nI q76)) (st := []) (d := (d + 4)) (bc := 0) (bs := 0) (c_Rd_sign_f hst (hR.lw hb3 L76) hB hn k76 (by omega) (by omega) (nI q76) 41 (by omega)) vv_X5_sign dX3_readUnit_72 wg_630 ((hR.lw hb3 L76).1) rfl rfl rfl rfl (by omega) (Nat.le_of_ble_eq_true rfl) (Nat.le_of_ble_eq_true rfl) (Nat.le_of_ble_eq_true rfl) ?_
            refine ww_goto (tgt := 145) dX3_readUnit_75 (by decide) ?_
            exact ww_vret dX3_readUnit_145 rfl ⟨rfl, (by rw [unitF_p (by assumption) (by omega)]; show LwO h b n (bS _ _) _; rw [hr76, bS_l]; exact ⟨_, (by omega), rfl⟩)⟩
          · rw [hr76] at qo76
            have qo76 : _ = _ := qo76
            subst qo76
            have hf76 := (hg76).r hr76
            refine ww_aload_n dX3_readUnit_69 rfl rfl ?_
            refine ww_bipush (v := nI 41) dX3_readUnit_70 (by decide) ?_
            rcases hr77 : sgnS T n 41 a76 with ⟨k77, q77⟩ | ⟨a77, u77⟩
            · have hf77 := (sgnS_l hr77).1
              refine ww_cV0 (M := m_X3_readUnit) (pc := 72) (h1 := rdS (lwS h b L76) n n k77 (nI q77)) (st := []) (d := (d + 4)) (bc := 0) (bs := 0) (c_Rd_sign_l hst (hR.lw hb3 L76) hB hn a76 (by omega) 41 (by omega) hr77) vv_X5_sign dX3_readUnit_72 wg_630 ((hR.lw hb3 L76).1) rfl rfl rfl rfl (by omega) (Nat.le_of_ble_eq_true rfl) (Nat.le_of_ble_eq_true rfl) (Nat.le_of_ble_eq_true rfl) ?_
              refine ww_goto (tgt := 145) dX3_readUnit_75 (by decide) ?_
              exact ww_vret dX3_readUnit_145 rfl ⟨rfl, (by rw [unitF_p (by assumption) (by omega)]; show LwO h b n (bS _ _) _; rw [hr76, bS_r, hr77, bS_l]; exact ⟨_, (by omega), rfl⟩)⟩
            · have hf77 := sgnS_r hr77
              have hg77 := sk_ge (T := T) (show a76 ≤ n by omega)
              refine ww_cV0 (M := m_X3_readUnit) (pc := 72) (h1 := rdS (lwS h b L76) n a77 0 (-1)) (st := []) (d := (d + 4)) (bc := 0) (bs := 0) (c_Rd_sign_r hst (hR.lw hb3 L76) hB hn a76 (by omega) 41 (by omega) hr77) vv_X5_sign dX3_readUnit_72 wg_630 ((hR.lw hb3 L76).1) rfl rfl rfl rfl (by omega) (Nat.le_of_ble_eq_true rfl) (Nat.le_of_ble_eq_true rfl) (Nat.le_of_ble_eq_true rfl) ?_
              refine ww_goto (tgt := 145) dX3_readUnit_75 (by decide) ?_
              exact ww_vret dX3_readUnit_145 rfl ⟨rfl, (by rw [unitF_p (by assumption) (by omega)]; show LwO h b n (bS _ _) _; rw [hr76, bS_r, hr77, bS_r]; exact rfl)⟩
    · refine ww_iload_n dX3_readUnit_17 rfl rfl ?_
      refine ww_bipush (v := nI 57) dX3_readUnit_18 (by decide) ?_
      refine ww_icmp_gtN (tgt := 39) dX3_readUnit_20 (by decide) (by omega) (by omega) (fun c20 => ?_) (fun c20 => ?_)
      · refine ww_iload_n dX3_readUnit_39 rfl rfl ?_
        refine ww_bipush (v := nI 40) dX3_readUnit_40 (by decide) ?_
        refine ww_icmp_neN (tgt := 78) dX3_readUnit_42 (by decide) (by omega) (by omega) (fun c42 => ?_) (fun c42 => ?_)
        · refine ww_aload_n dX3_readUnit_78 rfl rfl ?_
          refine ww_ldcS (i := 2) dX3_readUnit_79 rfl ?_
          rcases hr78 : wrdS wLaw T n (sk T n a) with ⟨k78, q78⟩ | ⟨a78, v78⟩
          · have hf78 := (wrdS_l hr78).1
            refine ww_cVr (M := m_X3_readUnit) (pc := 81) (v := .int (-1)) (h1 := rdS (lwS h b L) n n k78 (nI q78)) (st := []) (d := (d + 4)) (bc := 0) (bs := 0) (c_Rd_word_l hst (hR.lw hb3 L) hB hn (sk T n a) (by omega) 2 (by decide) (W := wLaw) (fun ln => wfd_2 T _ ln) hr78) vv_X5_word dX3_readUnit_81 wg_632 ((hR.lw hb3 L).1) rfl rfl rfl rfl (by omega) (Nat.le_of_ble_eq_true rfl) (Nat.le_of_ble_eq_true rfl) (Nat.le_of_ble_eq_true rfl) ?_
            refine ww_sti (lv2 := [.ref b, .ref 1, .int (nI o), .int (nI (T (sk T n a))), .int (nI (sk T n a)), .int (-1)]) dX3_readUnit_84 rfl (by decide) rfl ?_
            refine ww_iload dX3_readUnit_86 rfl ?_
            refine ww_bipush (v := nI 7) dX3_readUnit_88 (by decide) ?_
            refine ww_icmp_lt (tgt := 133) dX3_readUnit_90 (by decide) (fun c90 => ?_) (fun c90 => ?_)
            · refine ww_iload dX3_readUnit_133 rfl ?_
              refine ww_if_lt (tgt := 145) dX3_readUnit_135 (by decide) (fun c135 => ?_) (fun c135 => ?_)
              · exact ww_vret dX3_readUnit_145 rfl ⟨rfl, (by rw [unitF_w (fun e => ⟨by omega, by omega⟩), hr78, bS_l]; exact ⟨_, (by omega), rfl⟩)⟩
              · exact absurd c135 (by decide)
            · exact absurd c90 (by decide)
          · have hf78 := wrdS_lt wLaw_ne (by omega) hr78
            have hg78 := sk_ge (T := T) (show sk T n a ≤ n by omega)
            rcases (show v78 = 0 ∨ v78 = 1 ∨ v78 = 2 ∨ v78 = 3 ∨ v78 = 4 ∨ v78 = 5 ∨ v78 = 6 ∨ v78 = 7 ∨ v78 = 8 by have h9 := hf78.2.2; simp only [wLaw, List.length_cons, List.length_nil] at h9; omega) with rfl | rfl | rfl | rfl | rfl | rfl | rfl | rfl | rfl
            · refine ww_cVr (M := m_X3_readUnit) (pc := 81) (v := .int (nI 0)) (h1 := rdS (lwS h b L) n a78 0 (-1)) (st := []) (d := (d + 4)) (bc := 0) (bs := 0) (c_Rd_word_r hst (hR.lw hb3 L) hB hn (sk T n a) (by omega) 2 (by decide) (W := wLaw) (fun ln => wfd_2 T _ ln) hr78) vv_X5_word dX3_readUnit_81 wg_632 ((hR.lw hb3 L).1) rfl rfl rfl rfl (by omega) (Nat.le_of_ble_eq_true rfl) (Nat.le_of_ble_eq_true rfl) (Nat.le_of_ble_eq_true rfl) ?_
              refine ww_sti (lv2 := [.ref b, .ref 1, .int (nI o), .int (nI (T (sk T n a))), .int (nI (sk T n a)), .int (nI 0)]) dX3_readUnit_84 rfl (by decide) rfl ?_
              refine ww_iload dX3_readUnit_86 rfl ?_
              refine ww_bipush (v := nI 7) dX3_readUnit_88 (by decide) ?_
              refine ww_icmp_ltN (tgt := 133) dX3_readUnit_90 (by decide) (by omega) (by omega) (fun c90 => ?_) (fun c90 => ?_)
              · refine ww_iload dX3_readUnit_133 rfl ?_
                refine ww_if_ltN (tgt := 145) dX3_readUnit_135 (by decide) (by omega) ?_
                refine ww_aload_n dX3_readUnit_138 rfl rfl ?_
                refine ww_iconst (v := nI 1) dX3_readUnit_139 (by decide) ?_
                refine ww_iload dX3_readUnit_140 rfl ?_
                have he78 : (eL 1 0 L).1 = L.1 + 1 := rfl
                refine ww_cV0 (M := m_X3_readUnit) (pc := 142) (h1 := rdS (lwS h b (eL 1 0 L)) n a78 0 (-1)) (st := []) (d := (d + 4)) (bc := 0) (bs := 0) (c_Lw_add hst hR hB hn hb a78 0 (-1) L (by omega) 1 0) vv_X3_add dX3_readUnit_142 wg_622 hb.1 rfl rfl rfl rfl (by omega) (Nat.le_of_ble_eq_true rfl) (Nat.le_of_ble_eq_true rfl) (Nat.le_of_ble_eq_true rfl) ?_
                exact ww_vret dX3_readUnit_145 rfl ⟨rfl, (by rw [unitF_w (fun e => ⟨by omega, by omega⟩), hr78, bS_r, if_neg (by decide)]; exact rfl)⟩
              · exact absurd c90 (by decide)
            · refine ww_cVr (M := m_X3_readUnit) (pc := 81) (v := .int (nI 1)) (h1 := rdS (lwS h b L) n a78 0 (-1)) (st := []) (d := (d + 4)) (bc := 0) (bs := 0) (c_Rd_word_r hst (hR.lw hb3 L) hB hn (sk T n a) (by omega) 2 (by decide) (W := wLaw) (fun ln => wfd_2 T _ ln) hr78) vv_X5_word dX3_readUnit_81 wg_632 ((hR.lw hb3 L).1) rfl rfl rfl rfl (by omega) (Nat.le_of_ble_eq_true rfl) (Nat.le_of_ble_eq_true rfl) (Nat.le_of_ble_eq_true rfl) ?_
              refine ww_sti (lv2 := [.ref b, .ref 1, .int (nI o), .int (nI (T (sk T n a))), .int (nI (sk T n a)), .int (nI 1)]) dX3_readUnit_84 rfl (by decide) rfl ?_
              refine ww_iload dX3_readUnit_86 rfl ?_
              refine ww_bipush (v := nI 7) dX3_readUnit_88 (by decide) ?_
              refine ww_icmp_ltN (tgt := 133) dX3_readUnit_90 (by decide) (by omega) (by omega) (fun c90 => ?_) (fun c90 => ?_)
              · refine ww_iload dX3_readUnit_133 rfl ?_
                refine ww_if_ltN (tgt := 145) dX3_readUnit_135 (by decide) (by omega) ?_
                refine ww_aload_n dX3_readUnit_138 rfl rfl ?_
                refine ww_iconst (v := nI 1) dX3_readUnit_139 (by decide) ?_
                refine ww_iload dX3_readUnit_140 rfl ?_
                have he79 : (eL 1 1 L).1 = L.1 + 1 := rfl
                refine ww_cV0 (M := m_X3_readUnit) (pc := 142) (h1 := rdS (lwS h b (eL 1 1 L)) n a78 0 (-1)) (st := []) (d := (d + 4)) (bc := 0) (bs := 0) (c_Lw_add hst hR hB hn hb a78 0 (-1) L (by omega) 1 1) vv_X3_add dX3_readUnit_142 wg_622 hb.1 rfl rfl rfl rfl (by omega) (Nat.le_of_ble_eq_true rfl) (Nat.le_of_ble_eq_true rfl) (Nat.le_of_ble_eq_true rfl) ?_
                exact ww_vret dX3_readUnit_145 rfl ⟨rfl, (by rw [unitF_w (fun e => ⟨by omega, by omega⟩), hr78, bS_r, if_neg (by decide)]; exact rfl)⟩
              · exact absurd c90 (by decide)
            · refine ww_cVr (M := m_X3_readUnit) (pc := 81) (v := .int (nI 2)) (h1 := rdS (lwS h b L) n a78 0 (-1)) (st := []) (d := (d + 4)) (bc := 0) (bs := 0) (c_Rd_word_r hst (hR.lw hb3 L) hB hn (sk T n a) (by omega) 2 (by decide) (W := wLaw) (fun ln => wfd_2 T _ ln) hr78) vv_X5_word dX3_readUnit_81 wg_632 ((hR.lw hb3 L).1) rfl rfl rfl rfl (by omega) (Nat.le_of_ble_eq_true rfl) (Nat.le_of_ble_eq_true rfl) (Nat.le_of_ble_eq_true rfl) ?_
              refine ww_sti (lv2 := [.ref b, .ref 1, .int (nI o), .int (nI (T (sk T n a))), .int (nI (sk T n a)), .int (nI 2)]) dX3_readUnit_84 rfl (by decide) rfl ?_
              refine ww_iload dX3_readUnit_86 rfl ?_
              refine ww_bipush (v := nI 7) dX3_readUnit_88 (by decide) ?_
              refine ww_icmp_ltN (tgt := 133) dX3_readUnit_90 (by decide) (by omega) (by omega) (fun c90 => ?_) (fun c90 => ?_)
              · refine ww_iload dX3_readUnit_133 rfl ?_
                refine ww_if_ltN (tgt := 145) dX3_readUnit_135 (by decide) (by omega) ?_
                refine ww_aload_n dX3_readUnit_138 rfl rfl ?_
                refine ww_iconst (v := nI 1) dX3_readUnit_139 (by decide) ?_
                refine ww_iload dX3_readUnit_140 rfl ?_
                have he80 : (eL 1 2 L).1 = L.1 + 1 := rfl
                refine ww_cV0 (M := m_X3_readUnit) (pc := 142) (h1 := rdS (lwS h b (eL 1 2 L)) n a78 0 (-1)) (st := []) (d := (d + 4)) (bc := 0) (bs := 0) (c_Lw_add hst hR hB hn hb a78 0 (-1) L (by omega) 1 2) vv_X3_add dX3_readUnit_142 wg_622 hb.1 rfl rfl rfl rfl (by omega) (Nat.le_of_ble_eq_true rfl) (Nat.le_of_ble_eq_true rfl) (Nat.le_of_ble_eq_true rfl) ?_
                exact ww_vret dX3_readUnit_145 rfl ⟨rfl, (by rw [unitF_w (fun e => ⟨by omega, by omega⟩), hr78, bS_r, if_neg (by decide)]; exact rfl)⟩
              · exact absurd c90 (by decide)
            · refine ww_cVr (M := m_X3_readUnit) (pc := 81) (v := .int (nI 3)) (h1 := rdS (lwS h b L) n a78 0 (-1)) (st := []) (d := (d + 4)) (bc := 0) (bs := 0) (c_Rd_word_r hst (hR.lw hb3 L) hB hn (sk T n a) (by omega) 2 (by decide) (W := wLaw) (fun ln => wfd_2 T _ ln) hr78) vv_X5_word dX3_readUnit_81 wg_632 ((hR.lw hb3 L).1) rfl rfl rfl rfl (by omega) (Nat.le_of_ble_eq_true rfl) (Nat.le_of_ble_eq_true rfl) (Nat.le_of_ble_eq_true rfl) ?_
              refine ww_sti (lv2 := [.ref b, .ref 1, .int (nI o), .int (nI (T (sk T n a))), .int (nI (sk T n a)), .int (nI 3)]) dX3_readUnit_84 rfl (by decide) rfl ?_
              refine ww_iload dX3_readUnit_86 rfl ?_
              refine ww_bipush (v := nI 7) dX3_readUnit_88 (by decide) ?_
              refine ww_icmp_ltN (tgt := 133) dX3_readUnit_90 (by decide) (by omega) (by omega) (fun c90 => ?_) (fun c90 => ?_)
              · refine ww_iload dX3_readUnit_133 rfl ?_
                refine ww_if_ltN (tgt := 145) dX3_readUnit_135 (by decide) (by omega) ?_
                refine ww_aload_n dX3_readUnit_138 rfl rfl ?_
                refine ww_iconst (v := nI 1) dX3_readUnit_139 (by decide) ?_
                refine ww_iload dX3_readUnit_140 rfl ?_
                have he81 : (eL 1 3 L).1 = L.1 + 1 := rfl
                refine ww_cV0 (M := m_X3_readUnit) (pc := 142) (h1 := rdS (lwS h b (eL 1 3 L)) n a78 0 (-1)) (st := []) (d := (d + 4)) (bc := 0) (bs := 0) (c_Lw_add hst hR hB hn hb a78 0 (-1) L (by omega) 1 3) vv_X3_add dX3_readUnit_142 wg_622 hb.1 rfl rfl rfl rfl (by omega) (Nat.le_of_ble_eq_true rfl) (Nat.le_of_ble_eq_true rfl) (Nat.le_of_ble_eq_true rfl) ?_
                exact ww_vret dX3_readUnit_145 rfl ⟨rfl, (by rw [unitF_w (fun e => ⟨by omega, by omega⟩), hr78, bS_r, if_neg (by decide)]; exact rfl)⟩
              · exact absurd c90 (by decide)
            · refine ww_cVr (M := m_X3_readUnit) (pc := 81) (v := .int (nI 4)) (h1 := rdS (lwS h b L) n a78 0 (-1)) (st := []) (d := (d + 4)) (bc := 0) (bs := 0) (c_Rd_word_r hst (hR.lw hb3 L) hB hn (sk T n a) (by omega) 2 (by decide) (W := wLaw) (fun ln => wfd_2 T _ ln) hr78) vv_X5_word dX3_readUnit_81 wg_632 ((hR.lw hb3 L).1) rfl rfl rfl rfl (by omega) (Nat.le_of_ble_eq_true rfl) (Nat.le_of_ble_eq_true rfl) (Nat.le_of_ble_eq_true rfl) ?_
              refine ww_sti (lv2 := [.ref b, .ref 1, .int (nI o), .int (nI (T (sk T n a))), .int (nI (sk T n a)), .int (nI 4)]) dX3_readUnit_84 rfl (by decide) rfl ?_
              refine ww_iload dX3_readUnit_86 rfl ?_
              refine ww_bipush (v := nI 7) dX3_readUnit_88 (by decide) ?_
              refine ww_icmp_ltN (tgt := 133) dX3_readUnit_90 (by decide) (by omega) (by omega) (fun c90 => ?_) (fun c90 => ?_)
              · refine ww_iload dX3_readUnit_133 rfl ?_
                refine ww_if_ltN (tgt := 145) dX3_readUnit_135 (by decide) (by omega) ?_
                refine ww_aload_n dX3_readUnit_138 rfl rfl ?_
                refine ww_iconst (v := nI 1) dX3_readUnit_139 (by decide) ?_
                refine ww_iload dX3_readUnit_140 rfl ?_
                have he82 : (eL 1 4 L).1 = L.1 + 1 := rfl
                refine ww_cV0 (M := m_X3_readUnit) (pc := 142) (h1 := rdS (lwS h b (eL 1 4 L)) n a78 0 (-1)) (st := []) (d := (d + 4)) (bc := 0) (bs := 0) (c_Lw_add hst hR hB hn hb a78 0 (-1) L (by omega) 1 4) vv_X3_add dX3_readUnit_142 wg_622 hb.1 rfl rfl rfl rfl (by omega) (Nat.le_of_ble_eq_true rfl) (Nat.le_of_ble_eq_true rfl) (Nat.le_of_ble_eq_true rfl) ?_
                exact ww_vret dX3_readUnit_145 rfl ⟨rfl, (by rw [unitF_w (fun e => ⟨by omega, by omega⟩), hr78, bS_r, if_neg (by decide)]; exact rfl)⟩
              · exact absurd c90 (by decide)
            · refine ww_cVr (M := m_X3_readUnit) (pc := 81) (v := .int (nI 5)) (h1 := rdS (lwS h b L) n a78 0 (-1)) (st := []) (d := (d + 4)) (bc := 0) (bs := 0) (c_Rd_word_r hst (hR.lw hb3 L) hB hn (sk T n a) (by omega) 2 (by decide) (W := wLaw) (fun ln => wfd_2 T _ ln) hr78) vv_X5_word dX3_readUnit_81 wg_632 ((hR.lw hb3 L).1) rfl rfl rfl rfl (by omega) (Nat.le_of_ble_eq_true rfl) (Nat.le_of_ble_eq_true rfl) (Nat.le_of_ble_eq_true rfl) ?_
              refine ww_sti (lv2 := [.ref b, .ref 1, .int (nI o), .int (nI (T (sk T n a))), .int (nI (sk T n a)), .int (nI 5)]) dX3_readUnit_84 rfl (by decide) rfl ?_
              refine ww_iload dX3_readUnit_86 rfl ?_
              refine ww_bipush (v := nI 7) dX3_readUnit_88 (by decide) ?_
              refine ww_icmp_ltN (tgt := 133) dX3_readUnit_90 (by decide) (by omega) (by omega) (fun c90 => ?_) (fun c90 => ?_)
              · refine ww_iload dX3_readUnit_133 rfl ?_
                refine ww_if_ltN (tgt := 145) dX3_readUnit_135 (by decide) (by omega) ?_
                refine ww_aload_n dX3_readUnit_138 rfl rfl ?_
                refine ww_iconst (v := nI 1) dX3_readUnit_139 (by decide) ?_
                refine ww_iload dX3_readUnit_140 rfl ?_
                have he83 : (eL 1 5 L).1 = L.1 + 1 := rfl
                refine ww_cV0 (M := m_X3_readUnit) (pc := 142) (h1 := rdS (lwS h b (eL 1 5 L)) n a78 0 (-1)) (st := []) (d := (d + 4)) (bc := 0) (bs := 0) (c_Lw_add hst hR hB hn hb a78 0 (-1) L (by omega) 1 5) vv_X3_add dX3_readUnit_142 wg_622 hb.1 rfl rfl rfl rfl (by omega) (Nat.le_of_ble_eq_true rfl) (Nat.le_of_ble_eq_true rfl) (Nat.le_of_ble_eq_true rfl) ?_
                exact ww_vret dX3_readUnit_145 rfl ⟨rfl, (by rw [unitF_w (fun e => ⟨by omega, by omega⟩), hr78, bS_r, if_neg (by decide)]; exact rfl)⟩
              · exact absurd c90 (by decide)
            · refine ww_cVr (M := m_X3_readUnit) (pc := 81) (v := .int (nI 6)) (h1 := rdS (lwS h b L) n a78 0 (-1)) (st := []) (d := (d + 4)) (bc := 0) (bs := 0) (c_Rd_word_r hst (hR.lw hb3 L) hB hn (sk T n a) (by omega) 2 (by decide) (W := wLaw) (fun ln => wfd_2 T _ ln) hr78) vv_X5_word dX3_readUnit_81 wg_632 ((hR.lw hb3 L).1) rfl rfl rfl rfl (by omega) (Nat.le_of_ble_eq_true rfl) (Nat.le_of_ble_eq_true rfl) (Nat.le_of_ble_eq_true rfl) ?_
              refine ww_sti (lv2 := [.ref b, .ref 1, .int (nI o), .int (nI (T (sk T n a))), .int (nI (sk T n a)), .int (nI 6)]) dX3_readUnit_84 rfl (by decide) rfl ?_
              refine ww_iload dX3_readUnit_86 rfl ?_
              refine ww_bipush (v := nI 7) dX3_readUnit_88 (by decide) ?_
              refine ww_icmp_ltN (tgt := 133) dX3_readUnit_90 (by decide) (by omega) (by omega) (fun c90 => ?_) (fun c90 => ?_)
              · refine ww_iload dX3_readUnit_133 rfl ?_
                refine ww_if_ltN (tgt := 145) dX3_readUnit_135 (by decide) (by omega) ?_
                refine ww_aload_n dX3_readUnit_138 rfl rfl ?_
                refine ww_iconst (v := nI 1) dX3_readUnit_139 (by decide) ?_
                refine ww_iload dX3_readUnit_140 rfl ?_
                have he84 : (eL 1 6 L).1 = L.1 + 1 := rfl
                refine ww_cV0 (M := m_X3_readUnit) (pc := 142) (h1 := rdS (lwS h b (eL 1 6 L)) n a78 0 (-1)) (st := []) (d := (d + 4)) (bc := 0) (bs := 0) (c_Lw_add hst hR hB hn hb a78 0 (-1) L (by omega) 1 6) vv_X3_add dX3_readUnit_142 wg_622 hb.1 rfl rfl rfl rfl (by omega) (Nat.le_of_ble_eq_true rfl) (Nat.le_of_ble_eq_true rfl) (Nat.le_of_ble_eq_true rfl) ?_
                exact ww_vret dX3_readUnit_145 rfl ⟨rfl, (by rw [unitF_w (fun e => ⟨by omega, by omega⟩), hr78, bS_r, if_neg (by decide)]; exact rfl)⟩
              · exact absurd c90 (by decide)
            · refine ww_cVr (M := m_X3_readUnit) (pc := 81) (v := .int (nI 7)) (h1 := rdS (lwS h b L) n a78 0 (-1)) (st := []) (d := (d + 4)) (bc := 0) (bs := 0) (c_Rd_word_r hst (hR.lw hb3 L) hB hn (sk T n a) (by omega) 2 (by decide) (W := wLaw) (fun ln => wfd_2 T _ ln) hr78) vv_X5_word dX3_readUnit_81 wg_632 ((hR.lw hb3 L).1) rfl rfl rfl rfl (by omega) (Nat.le_of_ble_eq_true rfl) (Nat.le_of_ble_eq_true rfl) (Nat.le_of_ble_eq_true rfl) ?_
              refine ww_sti (lv2 := [.ref b, .ref 1, .int (nI o), .int (nI (T (sk T n a))), .int (nI (sk T n a)), .int (nI 7)]) dX3_readUnit_84 rfl (by decide) rfl ?_
              refine ww_iload dX3_readUnit_86 rfl ?_
              refine ww_bipush (v := nI 7) dX3_readUnit_88 (by decide) ?_
              refine ww_icmp_ltN (tgt := 133) dX3_readUnit_90 (by decide) (by omega) (by omega) (fun c90 => ?_) (fun c90 => ?_)
              · exact absurd c90 (by decide)
              · refine ww_aload_n dX3_readUnit_93 rfl rfl ?_
                refine ww_iload_n dX3_readUnit_94 rfl rfl ?_
                refine ww_iload dX3_readUnit_95 rfl ?_
                refine ww_cSr (M := m_X3_readUnit) (pc := 97) (v := .int (nI 1)) (h1 := rdS (lwS h b L) n a78 0 (-1)) (st := []) (d := (d + 4)) (bc := 0) (bs := 0) (c_Lw_may_t hst (hR.lw hb3 L) hB hn a78 o (sk T n a) (by omega)) vv_X3_mayOpen dX3_readUnit_97 wg_626 rfl rfl rfl (by omega) (Nat.le_of_ble_eq_true rfl) (Nat.le_of_ble_eq_true rfl) (Nat.le_of_ble_eq_true rfl) ?_
                refine ww_if_eqN (tgt := 145) dX3_readUnit_100 (by decide) (by omega) (fun c100 => ?_) (fun c100 => ?_)
                · exact absurd c100 (by decide)
                · refine ww_aload_n dX3_readUnit_103 rfl rfl ?_
                  refine ww_aload_n dX3_readUnit_104 rfl rfl ?_
                  refine ww_iload_n dX3_readUnit_105 rfl rfl ?_
                  refine ww_iconst (v := nI 1) dX3_readUnit_106 (by decide) ?_
                  refine ww_iaddN dX3_readUnit_107 ?_
                  have hg86 := parS_G (T := T) hG L (show a78 ≤ n by omega)
                  refine ww_cVq0 (M := m_X3_readUnit) (pc := 108) (st := []) (d := (d + 4)) (bc := 0) (bs := 0) (hP a78 L (by omega) (by omega)) vv_X3_readPair dX3_readUnit_108 wg_633 hb.1 rfl rfl rfl rfl (by omega) (Nat.le_of_ble_eq_true rfl) (Nat.le_of_ble_eq_true rfl) (Nat.le_of_ble_eq_true rfl) (fun ho86 qo86 => ?_)
                  rcases hr86 : parS S T n a78 L with ⟨k86, q86⟩ | ⟨a86, L86⟩
                  · rw [hr86] at qo86
                    obtain ⟨L86, hL86, rfl⟩ := qo86
                    have hf86 := (hg86).l hr86
                    refine ww_aload_n dX3_readUnit_111 rfl rfl ?_
                    refine ww_iload dX3_readUnit_112 rfl ?_
                    refine ww_bipush (v := nI 7) dX3_readUnit_114 (by decide) ?_
                    refine ww_icmp_neN (tgt := 124) dX3_readUnit_116 (by decide) (by omega) (by omega) (fun c116 => ?_) (fun c116 => ?_)
                    · exact absurd c116 (by decide)
                    · refine ww_bipush (v := nI 7) dX3_readUnit_119 (by decide) ?_
                      refine ww_goto (tgt := 126) dX3_readUnit_121 (by decide) ?_
                      refine ww_iconst (v := nI 0) dX3_readUnit_126 (by decide) ?_
                      refine ww_cVq0 (M := m_X3_readUnit) (pc := 127) (st := []) (d := (d + 4)) (bc := 0) (bs := 0) (c_Lw_add_f hst hR hB hn hb n k86 (nI q86) L86 (by omega) 7 0) vv_X3_add dX3_readUnit_127 wg_622 hb.1 rfl rfl rfl rfl (by omega) (Nat.le_of_ble_eq_true rfl) (Nat.le_of_ble_eq_true rfl) (Nat.le_of_ble_eq_true rfl) (fun ha87 qa87 => ?_)
                      obtain ⟨M87, hM87, rfl⟩ := qa87
                      refine ww_goto (tgt := 145) dX3_readUnit_130 (by decide) ?_
                      exact ww_vret dX3_readUnit_145 rfl ⟨rfl, (by rw [unitF_w (fun e => ⟨by omega, by omega⟩), hr78, bS_r, if_pos (by decide)]; show LwO h b n (bS _ _) _; rw [hr86, bS_l]; exact ⟨_, (by omega), rfl⟩)⟩
                  · rw [hr86] at qo86
                    have qo86 : _ = _ := qo86
                    subst qo86
                    have hf86 := (hg86).r hr86
                    refine ww_aload_n dX3_readUnit_111 rfl rfl ?_
                    refine ww_iload dX3_readUnit_112 rfl ?_
                    refine ww_bipush (v := nI 7) dX3_readUnit_114 (by decide) ?_
                    refine ww_icmp_neN (tgt := 124) dX3_readUnit_116 (by decide) (by omega) (by omega) (fun c116 => ?_) (fun c116 => ?_)
                    · exact absurd c116 (by decide)
                    · refine ww_bipush (v := nI 7) dX3_readUnit_119 (by decide) ?_
                      refine ww_goto (tgt := 126) dX3_readUnit_121 (by decide) ?_
                      refine ww_iconst (v := nI 0) dX3_readUnit_126 (by decide) ?_
                      have he87 : (eL 7 0 L86).1 = L86.1 + 1 := rfl
                      refine ww_cV0 (M := m_X3_readUnit) (pc := 127) (h1 := rdS (lwS h b (eL 7 0 L86)) n a86 0 (-1)) (st := []) (d := (d + 4)) (bc := 0) (bs := 0) (c_Lw_add hst hR hB hn hb a86 0 (-1) L86 (by omega) 7 0) vv_X3_add dX3_readUnit_127 wg_622 hb.1 rfl rfl rfl rfl (by omega) (Nat.le_of_ble_eq_true rfl) (Nat.le_of_ble_eq_true rfl) (Nat.le_of_ble_eq_true rfl) ?_
                      refine ww_goto (tgt := 145) dX3_readUnit_130 (by decide) ?_
                      exact ww_vret dX3_readUnit_145 rfl ⟨rfl, (by rw [unitF_w (fun e => ⟨by omega, by omega⟩), hr78, bS_r, if_pos (by decide)]; show LwO h b n (bS _ _) _; rw [hr86, bS_r]; exact rfl)⟩
            · refine ww_cVr (M := m_X3_readUnit) (pc := 81) (v := .int (nI 8)) (h1 := rdS (lwS h b L) n a78 0 (-1)) (st := []) (d := (d + 4)) (bc := 0) (bs := 0) (c_Rd_word_r hst (hR.lw hb3 L) hB hn (sk T n a) (by omega) 2 (by decide) (W := wLaw) (fun ln => wfd_2 T _ ln) hr78) vv_X5_word dX3_readUnit_81 wg_632 ((hR.lw hb3 L).1) rfl rfl rfl rfl (by omega) (Nat.le_of_ble_eq_true rfl) (Nat.le_of_ble_eq_true rfl) (Nat.le_of_ble_eq_true rfl) ?_
              refine ww_sti (lv2 := [.ref b, .ref 1, .int (nI o), .int (nI (T (sk T n a))), .int (nI (sk T n a)), .int (nI 8)]) dX3_readUnit_84 rfl (by decide) rfl ?_
              refine ww_iload dX3_readUnit_86 rfl ?_
              refine ww_bipush (v := nI 7) dX3_readUnit_88 (by decide) ?_
              refine ww_icmp_ltN (tgt := 133) dX3_readUnit_90 (by decide) (by omega) (by omega) (fun c90 => ?_) (fun c90 => ?_)
              · exact absurd c90 (by decide)
              · refine ww_aload_n dX3_readUnit_93 rfl rfl ?_
                refine ww_iload_n dX3_readUnit_94 rfl rfl ?_
                refine ww_iload dX3_readUnit_95 rfl ?_
                refine ww_cSr (M := m_X3_readUnit) (pc := 97) (v := .int (nI 1)) (h1 := rdS (lwS h b L) n a78 0 (-1)) (st := []) (d := (d + 4)) (bc := 0) (bs := 0) (c_Lw_may_t hst (hR.lw hb3 L) hB hn a78 o (sk T n a) (by omega)) vv_X3_mayOpen dX3_readUnit_97 wg_626 rfl rfl rfl (by omega) (Nat.le_of_ble_eq_true rfl) (Nat.le_of_ble_eq_true rfl) (Nat.le_of_ble_eq_true rfl) ?_
                refine ww_if_eqN (tgt := 145) dX3_readUnit_100 (by decide) (by omega) (fun c100 => ?_) (fun c100 => ?_)
                · exact absurd c100 (by decide)
                · refine ww_aload_n dX3_readUnit_103 rfl rfl ?_
                  refine ww_aload_n dX3_readUnit_104 rfl rfl ?_
                  refine ww_iload_n dX3_readUnit_105 rfl rfl ?_
                  refine ww_iconst (v := nI 1) dX3_readUnit_106 (by decide) ?_
                  refine ww_iaddN dX3_readUnit_107 ?_
                  have hg89 := parS_G (T := T) hG L (show a78 ≤ n by omega)
                  refine ww_cVq0 (M := m_X3_readUnit) (pc := 108) (st := []) (d := (d + 4)) (bc := 0) (bs := 0) (hP a78 L (by omega) (by omega)) vv_X3_readPair dX3_readUnit_108 wg_633 hb.1 rfl rfl rfl rfl (by omega) (Nat.le_of_ble_eq_true rfl) (Nat.le_of_ble_eq_true rfl) (Nat.le_of_ble_eq_true rfl) (fun ho89 qo89 => ?_)
                  rcases hr89 : parS S T n a78 L with ⟨k89, q89⟩ | ⟨a89, L89⟩
                  · rw [hr89] at qo89
                    obtain ⟨L89, hL89, rfl⟩ := qo89
                    have hf89 := (hg89).l hr89
                    refine ww_aload_n dX3_readUnit_111 rfl rfl ?_
                    refine ww_iload dX3_readUnit_112 rfl ?_
                    refine ww_bipush (v := nI 7) dX3_readUnit_114 (by decide) ?_
                    refine ww_icmp_neN (tgt := 124) dX3_readUnit_116 (by decide) (by omega) (by omega) (fun c116 => ?_) (fun c116 => ?_)
                    · refine ww_bipush (v := nI 8) dX3_readUnit_124 (by decide) ?_
                      refine ww_iconst (v := nI 0) dX3_readUnit_126 (by decide) ?_
                      refine ww_cVq0 (M := m_X3_readUnit) (pc := 127) (st := []) (d := (d + 4)) (bc := 0) (bs := 0) (c_Lw_add_f hst hR hB hn hb n k89 (nI q89) L89 (by omega) 8 0) vv_X3_add dX3_readUnit_127 wg_622 hb.1 rfl rfl rfl rfl (by omega) (Nat.le_of_ble_eq_true rfl) (Nat.le_of_ble_eq_true rfl) (Nat.le_of_ble_eq_true rfl) (fun ha90 qa90 => ?_)
                      obtain ⟨M90, hM90, rfl⟩ := qa90
                      refine ww_goto (tgt := 145) dX3_readUnit_130 (by decide) ?_
                      exact ww_vret dX3_readUnit_145 rfl ⟨rfl, (by rw [unitF_w (fun e => ⟨by omega, by omega⟩), hr78, bS_r, if_pos (by decide)]; show LwO h b n (bS _ _) _; rw [hr89, bS_l]; exact ⟨_, (by omega), rfl⟩)⟩
                    · exact absurd c116 (by decide)
                  · rw [hr89] at qo89
                    have qo89 : _ = _ := qo89
                    subst qo89
                    have hf89 := (hg89).r hr89
                    refine ww_aload_n dX3_readUnit_111 rfl rfl ?_
                    refine ww_iload dX3_readUnit_112 rfl ?_
                    refine ww_bipush (v := nI 7) dX3_readUnit_114 (by decide) ?_
                    refine ww_icmp_neN (tgt := 124) dX3_readUnit_116 (by decide) (by omega) (by omega) (fun c116 => ?_) (fun c116 => ?_)
                    · refine ww_bipush (v := nI 8) dX3_readUnit_124 (by decide) ?_
                      refine ww_iconst (v := nI 0) dX3_readUnit_126 (by decide) ?_
                      have he90 : (eL 8 0 L89).1 = L89.1 + 1 := rfl
                      refine ww_cV0 (M := m_X3_readUnit) (pc := 127) (h1 := rdS (lwS h b (eL 8 0 L89)) n a89 0 (-1)) (st := []) (d := (d + 4)) (bc := 0) (bs := 0) (c_Lw_add hst hR hB hn hb a89 0 (-1) L89 (by omega) 8 0) vv_X3_add dX3_readUnit_127 wg_622 hb.1 rfl rfl rfl rfl (by omega) (Nat.le_of_ble_eq_true rfl) (Nat.le_of_ble_eq_true rfl) (Nat.le_of_ble_eq_true rfl) ?_
                      refine ww_goto (tgt := 145) dX3_readUnit_130 (by decide) ?_
                      exact ww_vret dX3_readUnit_145 rfl ⟨rfl, (by rw [unitF_w (fun e => ⟨by omega, by omega⟩), hr78, bS_r, if_pos (by decide)]; show LwO h b n (bS _ _) _; rw [hr89, bS_r]; exact rfl)⟩
                    · exact absurd c116 (by decide)
        · refine ww_aload_n dX3_readUnit_45 rfl rfl ?_
          refine ww_iload_n dX3_readUnit_46 rfl rfl ?_
          refine ww_iload dX3_readUnit_47 rfl ?_
          refine ww_cSr (M := m_X3_readUnit) (pc := 49) (v := .int (nI 1)) (h1 := rdS (lwS h b L) n (sk T n a) 0 (-1)) (st := []) (d := (d + 4)) (bc := 0) (bs := 0) (c_Lw_may_t hst (hR.lw hb3 L) hB hn (sk T n a) o (sk T n a) (by omega)) vv_X3_mayOpen dX3_readUnit_49 wg_626 rfl rfl rfl (by omega) (Nat.le_of_ble_eq_true rfl) (Nat.le_of_ble_eq_true rfl) (Nat.le_of_ble_eq_true rfl) ?_
          refine ww_if_eqN (tgt := 145) dX3_readUnit_52 (by decide) (by omega) (fun c52 => ?_) (fun c52 => ?_)
          · exact absurd c52 (by decide)
          · refine ww_aload_n dX3_readUnit_55 rfl rfl ?_
            refine ww_bipush (v := nI 40) dX3_readUnit_56 (by decide) ?_
            refine ww_cV0 (M := m_X3_readUnit) (pc := 58) (h1 := rdS (lwS h b L) n (sk T n a + 1) 0 (-1)) (st := []) (d := (d + 4)) (bc := 0) (bs := 0) (c_Rd_sign_r hst (hR.lw hb3 L) hB hn (sk T n a) (by omega) 40 (by omega) (sgn_at (a := a) (by omega) (by assumption) (by omega))) vv_X5_sign dX3_readUnit_58 wg_630 ((hR.lw hb3 L).1) rfl rfl rfl rfl (by omega) (Nat.le_of_ble_eq_true rfl) (Nat.le_of_ble_eq_true rfl) (Nat.le_of_ble_eq_true rfl) ?_
            refine ww_aload_n dX3_readUnit_61 rfl rfl ?_
            refine ww_aload_n dX3_readUnit_62 rfl rfl ?_
            refine ww_iload_n dX3_readUnit_63 rfl rfl ?_
            refine ww_iconst (v := nI 1) dX3_readUnit_64 (by decide) ?_
            refine ww_iaddN dX3_readUnit_65 ?_
            have hg92 := hG (sk T n a + 1) L (by omega)
            refine ww_cVq0 (M := m_X3_readUnit) (pc := 66) (st := []) (d := (d + 4)) (bc := 0) (bs := 0) (hS (sk T n a + 1) L (by omega) (by omega)) vv_X3_readSum dX3_readUnit_66 wg_608 hb.1 rfl rfl rfl rfl (by omega) (Nat.le_of_ble_eq_true rfl) (Nat.le_of_ble_eq_true rfl) (Nat.le_of_ble_eq_true rfl) (fun ho92 qo92 => ?_)
            rcases hr92 : S (sk T n a + 1) L with ⟨k92, q92⟩ | ⟨a92, L92⟩
            · rw [hr92] at qo92
              obtain ⟨L92, hL92, rfl⟩ := qo92
              have hf92 := (hg92).l hr92
              refine ww_aload_n dX3_readUnit_69 rfl rfl ?_
              refine ww_bipush (v := nI 41) dX3_readUnit_70 (by decide) ?_
              refine ww_cV0 (M := m_X3_readUnit) (pc := 72) (h1 := rdS (lwS h b L92) n n k92 (nI q92)) (st := []) (d := (d + 4)) (bc := 0) (bs := 0) (c_Rd_sign_f hst (hR.lw hb3 L92) hB hn k92 (by omega) (by omega) (nI q92) 41 (by omega)) vv_X5_sign dX3_readUnit_72 wg_630 ((hR.lw hb3 L92).1) rfl rfl rfl rfl (by omega) (Nat.le_of_ble_eq_true rfl) (Nat.le_of_ble_eq_true rfl) (Nat.le_of_ble_eq_true rfl) ?_
              refine ww_goto (tgt := 145) dX3_readUnit_75 (by decide) ?_
              exact ww_vret dX3_readUnit_145 rfl ⟨rfl, (by rw [unitF_p (by assumption) (by omega)]; show LwO h b n (bS _ _) _; rw [hr92, bS_l]; exact ⟨_, (by omega), rfl⟩)⟩
            · rw [hr92] at qo92
              have qo92 : _ = _ := qo92
              subst qo92
              have hf92 := (hg92).r hr92
              refine ww_aload_n dX3_readUnit_69 rfl rfl ?_
              refine ww_bipush (v := nI 41) dX3_readUnit_70 (by decide) ?_
              rcases hr93 : sgnS T n 41 a92 with ⟨k93, q93⟩ | ⟨a93, u93⟩
              · have hf93 := (sgnS_l hr93).1
                refine ww_cV0 (M := m_X3_readUnit) (pc := 72) (h1 := rdS (lwS h b L92) n n k93 (nI q93)) (st := []) (d := (d + 4)) (bc := 0) (bs := 0) (c_Rd_sign_l hst (hR.lw hb3 L92) hB hn a92 (by omega) 41 (by omega) hr93) vv_X5_sign dX3_readUnit_72 wg_630 ((hR.lw hb3 L92).1) rfl rfl rfl rfl (by omega) (Nat.le_of_ble_eq_true rfl) (Nat.le_of_ble_eq_true rfl) (Nat.le_of_ble_eq_true rfl) ?_
                refine ww_goto (tgt := 145) dX3_readUnit_75 (by decide) ?_
                exact ww_vret dX3_readUnit_145 rfl ⟨rfl, (by rw [unitF_p (by assumption) (by omega)]; show LwO h b n (bS _ _) _; rw [hr92, bS_r, hr93, bS_l]; exact ⟨_, (by omega), rfl⟩)⟩
              · have hf93 := sgnS_r hr93
                have hg93 := sk_ge (T := T) (show a92 ≤ n by omega)
                refine ww_cV0 (M := m_X3_readUnit) (pc := 72) (h1 := rdS (lwS h b L92) n a93 0 (-1)) (st := []) (d := (d + 4)) (bc := 0) (bs := 0) (c_Rd_sign_r hst (hR.lw hb3 L92) hB hn a92 (by omega) 41 (by omega) hr93) vv_X5_sign dX3_readUnit_72 wg_630 ((hR.lw hb3 L92).1) rfl rfl rfl rfl (by omega) (Nat.le_of_ble_eq_true rfl) (Nat.le_of_ble_eq_true rfl) (Nat.le_of_ble_eq_true rfl) ?_
                refine ww_goto (tgt := 145) dX3_readUnit_75 (by decide) ?_
                exact ww_vret dX3_readUnit_145 rfl ⟨rfl, (by rw [unitF_p (by assumption) (by omega)]; show LwO h b n (bS _ _) _; rw [hr92, bS_r, hr93, bS_r]; exact rfl)⟩
      · refine ww_aload_n dX3_readUnit_23 rfl rfl ?_
        refine ww_iconst (v := nI 0) dX3_readUnit_24 (by decide) ?_
        refine ww_aload_n dX3_readUnit_25 rfl rfl ?_
        refine ww_iconst (v := nI 0) dX3_readUnit_26 (by decide) ?_
        refine ww_sipush (v := nI 999) dX3_readUnit_27 (by decide) ?_
        rcases hr94 : figS T n 0 1000 (sk T n a) with ⟨k94, q94⟩ | ⟨a94, v94⟩
        · have hf94 := (figS_l hr94).1
          refine ww_cVr (M := m_X3_readUnit) (pc := 30) (v := .int (nI 0)) (h1 := rdS (lwS h b L) n n k94 (nI q94)) (st := [.int (nI 0), .ref b]) (d := (d + 4)) (bc := 0) (bs := 0) (c_Rd_fig_l hst (hR.lw hb3 L) hB hn (sk T n a) (by omega) 0 1000 (nI 999) (by omega) (by omega) (hi_c 999 (by decide)) hr94) vv_X5_figure dX3_readUnit_30 wg_621 ((hR.lw hb3 L).1) rfl rfl rfl rfl (by omega) (Nat.le_of_ble_eq_true rfl) (Nat.le_of_ble_eq_true rfl) (Nat.le_of_ble_eq_true rfl) ?_
          refine ww_cVq0 (M := m_X3_readUnit) (pc := 33) (st := []) (d := (d + 4)) (bc := 0) (bs := 0) (c_Lw_add_f hst hR hB hn hb n k94 (nI q94) L (by omega) 0 0) vv_X3_add dX3_readUnit_33 wg_622 hb.1 rfl rfl rfl rfl (by omega) (Nat.le_of_ble_eq_true rfl) (Nat.le_of_ble_eq_true rfl) (Nat.le_of_ble_eq_true rfl) (fun ha95 qa95 => ?_)
          obtain ⟨M95, hM95, rfl⟩ := qa95
          refine ww_goto (tgt := 145) dX3_readUnit_36 (by decide) ?_
          exact ww_vret dX3_readUnit_145 rfl ⟨rfl, (by rw [unitF_d (by assumption) (by omega) (by omega), hr94, bS_l]; exact ⟨_, (by omega), rfl⟩)⟩
        · have hf94 := figS_r (by omega) hr94
          have hg94 := sk_ge (T := T) (show sk T n a ≤ n by omega)
          refine ww_cVr (M := m_X3_readUnit) (pc := 30) (v := .int (nI v94)) (h1 := rdS (lwS h b L) n a94 0 (-1)) (st := [.int (nI 0), .ref b]) (d := (d + 4)) (bc := 0) (bs := 0) (c_Rd_fig_r hst (hR.lw hb3 L) hB hn (sk T n a) (by omega) 0 1000 (nI 999) (by omega) (by omega) (hi_c 999 (by decide)) hr94) vv_X5_figure dX3_readUnit_30 wg_621 ((hR.lw hb3 L).1) rfl rfl rfl rfl (by omega) (Nat.le_of_ble_eq_true rfl) (Nat.le_of_ble_eq_true rfl) (Nat.le_of_ble_eq_true rfl) ?_
          have he95 : (eL 0 v94 L).1 = L.1 + 1 := rfl
          refine ww_cV0 (M := m_X3_readUnit) (pc := 33) (h1 := rdS (lwS h b (eL 0 v94 L)) n a94 0 (-1)) (st := []) (d := (d + 4)) (bc := 0) (bs := 0) (c_Lw_add hst hR hB hn hb a94 0 (-1) L (by omega) 0 v94) vv_X3_add dX3_readUnit_33 wg_622 hb.1 rfl rfl rfl rfl (by omega) (Nat.le_of_ble_eq_true rfl) (Nat.le_of_ble_eq_true rfl) (Nat.le_of_ble_eq_true rfl) ?_
          refine ww_goto (tgt := 145) dX3_readUnit_36 (by decide) ?_
          exact ww_vret dX3_readUnit_145 rfl ⟨rfl, (by rw [unitF_d (by assumption) (by omega) (by omega), hr94, bS_r]; exact rfl)⟩
  · refine ww_cVr (M := m_X3_readUnit) (pc := 1) (v := .int (-1)) (h1 := rdS (lwS h b L) n n 0 (-1)) (st := []) (d := (d + 4)) (bc := 0) (bs := 0) (c_Rd_ahead_e hst (hR.lw hb3 L) hB hn 0 (-1) a (by omega) hl61) vv_X5_ahead dX3_readUnit_1 wg_620 ((hR.lw hb3 L).1) rfl rfl rfl rfl (by omega) (Nat.le_of_ble_eq_true rfl) (Nat.le_of_ble_eq_true rfl) (Nat.le_of_ble_eq_true rfl) ?_
    refine ww_sti_n (lv2 := [.ref b, .ref 1, .int (nI o), .int (-1), UU, UU]) dX3_readUnit_4 rfl rfl (by decide) rfl ?_
    refine ww_aload_n dX3_readUnit_5 rfl rfl ?_
    refine ww_getN 3 dX3_readUnit_6 ((hR.lw hb3 L).1) rfl (by decide) inX5 wn_46 (rdS_3 _ _ _ _ _) ?_
    refine ww_sti (lv2 := [.ref b, .ref 1, .int (nI o), .int (-1), .int (nI n), UU]) dX3_readUnit_9 rfl (by decide) rfl ?_
    refine ww_iload_n dX3_readUnit_11 rfl rfl ?_
    refine ww_bipush (v := nI 48) dX3_readUnit_12 (by decide) ?_
    refine ww_icmp_lt (tgt := 39) dX3_readUnit_14 (by decide) (fun c14 => ?_) (fun c14 => ?_)
    · refine ww_iload_n dX3_readUnit_39 rfl rfl ?_
      refine ww_bipush (v := nI 40) dX3_readUnit_40 (by decide) ?_
      refine ww_icmp_ne (tgt := 78) dX3_readUnit_42 (by decide) (fun c42 => ?_) (fun c42 => ?_)
      · refine ww_aload_n dX3_readUnit_78 rfl rfl ?_
        refine ww_ldcS (i := 2) dX3_readUnit_79 rfl ?_
        refine ww_cVr (M := m_X3_readUnit) (pc := 81) (v := .int (-1)) (h1 := rdS (lwS h b L) n n 1 (nI n)) (st := []) (d := (d + 4)) (bc := 0) (bs := 0) (c_Rd_word_l hst (hR.lw hb3 L) hB hn n (Nat.le_refl _) 2 (by decide) (W := wLaw) (fun ln => wfd_2 T _ ln) (wrd_end wLaw_ne T n)) vv_X5_word dX3_readUnit_81 wg_632 ((hR.lw hb3 L).1) rfl rfl rfl rfl (by omega) (Nat.le_of_ble_eq_true rfl) (Nat.le_of_ble_eq_true rfl) (Nat.le_of_ble_eq_true rfl) ?_
        refine ww_sti (lv2 := [.ref b, .ref 1, .int (nI o), .int (-1), .int (nI n), .int (-1)]) dX3_readUnit_84 rfl (by decide) rfl ?_
        refine ww_iload dX3_readUnit_86 rfl ?_
        refine ww_bipush (v := nI 7) dX3_readUnit_88 (by decide) ?_
        refine ww_icmp_lt (tgt := 133) dX3_readUnit_90 (by decide) (fun c90 => ?_) (fun c90 => ?_)
        · refine ww_iload dX3_readUnit_133 rfl ?_
          refine ww_if_lt (tgt := 145) dX3_readUnit_135 (by decide) (fun c135 => ?_) (fun c135 => ?_)
          · exact ww_vret dX3_readUnit_145 rfl ⟨rfl, (by rw [unitF_w (fun e => by omega), show sk T n a = n by omega, wrd_end wLaw_ne, bS_l]; exact ⟨_, (by omega), rfl⟩)⟩
          · exact absurd c135 (by decide)
        · exact absurd c90 (by decide)
      · exact absurd c42 (by decide)
    · exact absurd c14 (by decide)
