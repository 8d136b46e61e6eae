set_option maxHeartbeats 4000000 in
set_option maxRecDepth 100000 in
theorem c_Lw_add {l : Launch} {Z : EE} (hst : l.stackTraces = false) {h : PH} {tf : Nat → Int32} (hR : RdK h tf) {T : Nat → Nat} (hB : BT tf T) {n : Nat} (hn : n ≤ 600) {b : Nat} (hb : LwK h b) (a k : Nat) (pl : Int32) (L : LWt) (hL : L.1 < 150) (x v : Nat) : CC l Z m_X3_add 0 0 0 [.ref b, .int (nI x), .int (nI v)] (rdS (lwS h b L) n a k pl) (RT none (rdS (lwS h b (eL x v L)) n a k pl)) := by
  refine ee_entry hst (by decide +kernel) rfl rfl (by simp [Value.category]) (Nat.le_of_ble_eq_true rfl) ?_
  refine ww_lv (lv2 := [.ref b, .int (nI x), .int (nI v)]) rfl ?_
  have hb3 := hb.2.2.2.2.2
  refine ww_aload_n dX3_add_0 rfl rfl ?_
  refine ww_get 4 dX3_add_1 hb.1 rfl (by decide) inX3 wg_98 (rdS_o _ _ _ _ (by omega) (lwS_4 h b L)) ?_
  refine ww_sipush (v := nI 150) dX3_add_4 (by decide) ?_
  refine ww_icmp_geN (tgt := 40) dX3_add_7 (by decide) (by omega) (by omega) (fun c7 => ?_) (fun c7 => ?_)
  · exfalso; omega
  · refine ww_aload_n dX3_add_10 rfl rfl ?_
    refine ww_get 0 dX3_add_11 hb.1 rfl (by decide) inX3 wg_94 (rdS_o _ _ _ _ (by omega) (lwS_j (by decide) hb.2.2.2.1)) ?_
    refine ww_aload_n dX3_add_14 rfl rfl ?_
    refine ww_get 4 dX3_add_15 hb.1 rfl (by decide) inX3 wg_98 (rdS_o _ _ _ _ (by omega) (lwS_4 h b L)) ?_
    refine ww_iload_n dX3_add_18 rfl rfl ?_
    refine ww_iastF dX3_add_19 hb.2.1 (lwS_1 h b L) (by omega) (by omega) ?_
    refine ww_hp (h2 := rdS (lwS h b ((L.1, upd L.2.1 L.1 (nI x), L.2.2))) n a k pl) (lw_s1 _ _ _ _ _ _ _ _) ?_
    refine ww_aload_n dX3_add_20 rfl rfl ?_
    refine ww_get 1 dX3_add_21 hb.1 rfl (by decide) inX3 wg_95 (rdS_o _ _ _ _ (by omega) (lwS_j (by decide) hb.2.2.2.2.1)) ?_
    refine ww_aload_n dX3_add_24 rfl rfl ?_
    refine ww_get 4 dX3_add_25 hb.1 rfl (by decide) inX3 wg_98 (rdS_o _ _ _ _ (by omega) (lwS_4 h b ((L.1, upd L.2.1 L.1 (nI x), L.2.2)))) ?_
    refine ww_iload_n dX3_add_28 rfl rfl ?_
    refine ww_iastF dX3_add_29 hb.2.2.1 (lwS_2 h b ((L.1, upd L.2.1 L.1 (nI x), L.2.2))) (by omega) (by omega) ?_
    refine ww_hp (h2 := rdS (lwS h b ((((L.1, upd L.2.1 L.1 (nI x), L.2.2)).1, ((L.1, upd L.2.1 L.1 (nI x), L.2.2)).2.1, upd (((L.1, upd L.2.1 L.1 (nI x), L.2.2)).2.2) (((L.1, upd L.2.1 L.1 (nI x), L.2.2)).1) (nI v)))) n a k pl) (lw_s2 _ _ _ _ _ _ _ _) ?_
    refine ww_aload_n dX3_add_30 rfl rfl ?_
    refine ww_dup dX3_add_31 rfl ?_
    refine ww_get 4 dX3_add_32 hb.1 rfl (by decide) inX3 wg_98 (rdS_o _ _ _ _ (by omega) (lwS_4 h b ((((L.1, upd L.2.1 L.1 (nI x), L.2.2)).1, ((L.1, upd L.2.1 L.1 (nI x), L.2.2)).2.1, upd (((L.1, upd L.2.1 L.1 (nI x), L.2.2)).2.2) (((L.1, upd L.2.1 L.1 (nI x), L.2.2)).1) (nI v))))) ?_
    refine ww_iconst (v := nI 1) dX3_add_35 (by decide) ?_
    refine ww_iaddN dX3_add_36 ?_
    refine ww_pfI tyX3 4 dX3_add_37 hb.1 rfl (by decide) inX3 tyX3_ok nmX3 wg_98 rfl rfl ?_
    refine ww_hp (h2 := rdS (lwS h b (((((((L.1, upd L.2.1 L.1 (nI x), L.2.2)).1, ((L.1, upd L.2.1 L.1 (nI x), L.2.2)).2.1, upd (((L.1, upd L.2.1 L.1 (nI x), L.2.2)).2.2) (((L.1, upd L.2.1 L.1 (nI x), L.2.2)).1) (nI v))).1) + 1, ((((L.1, upd L.2.1 L.1 (nI x), L.2.2)).1, ((L.1, upd L.2.1 L.1 (nI x), L.2.2)).2.1, upd (((L.1, upd L.2.1 L.1 (nI x), L.2.2)).2.2) (((L.1, upd L.2.1 L.1 (nI x), L.2.2)).1) (nI v))).2.1, ((((L.1, upd L.2.1 L.1 (nI x), L.2.2)).1, ((L.1, upd L.2.1 L.1 (nI x), L.2.2)).2.1, upd (((L.1, upd L.2.1 L.1 (nI x), L.2.2)).2.2) (((L.1, upd L.2.1 L.1 (nI x), L.2.2)).1) (nI v))).2.2))) n a k pl) (lw_s4 hb3 _) ?_
    exact ww_vret dX3_add_40 rfl ⟨rfl, rfl⟩
set_option maxHeartbeats 4000000 in
set_option maxRecDepth 100000 in
theorem c_Lw_add_f {l : Launch} {Z : EE} (hst : l.stackTraces = false) {h : PH} {tf : Nat → Int32} (hR : RdK h tf) {T : Nat → Nat} (hB : BT tf T) {n : Nat} (hn : n ≤ 600) {b : Nat} (hb : LwK h b) (a k : Nat) (pl : Int32) (L : LWt) (hL : L.1 ≤ 150) (x v : Nat) : CC l Z m_X3_add 0 0 0 [.ref b, .int (nI x), .int (nI v)] (rdS (lwS h b L) n a k pl) (RQ none (fun h9 => ∃ M : LWt, M.1 ≤ 150 ∧ h9 = rdS (lwS h b M) n a k pl)) := by
  refine ee_entry hst (by decide +kernel) rfl rfl (by simp [Value.category]) (Nat.le_of_ble_eq_true rfl) ?_
  refine ww_lv (lv2 := [.ref b, .int (nI x), .int (nI v)]) rfl ?_
  have hb3 := hb.2.2.2.2.2
  refine ww_aload_n dX3_add_0 rfl rfl ?_
  refine ww_get 4 dX3_add_1 hb.1 rfl (by decide) inX3 wg_98 (rdS_o _ _ _ _ (by omega) (lwS_4 h b L)) ?_
  refine ww_sipush (v := nI 150) dX3_add_4 (by decide) ?_
  refine ww_icmp_geN (tgt := 40) dX3_add_7 (by decide) (by omega) (by omega) (fun c7 => ?_) (fun c7 => ?_)
  · exact ww_vret dX3_add_40 rfl ⟨rfl, L, by omega, rfl⟩
  · refine ww_aload_n dX3_add_10 rfl rfl ?_
    refine ww_get 0 dX3_add_11 hb.1 rfl (by decide) inX3 wg_94 (rdS_o _ _ _ _ (by omega) (lwS_j (by decide) hb.2.2.2.1)) ?_
    refine ww_aload_n dX3_add_14 rfl rfl ?_
    refine ww_get 4 dX3_add_15 hb.1 rfl (by decide) inX3 wg_98 (rdS_o _ _ _ _ (by omega) (lwS_4 h b L)) ?_
    refine ww_iload_n dX3_add_18 rfl rfl ?_
    refine ww_iastF dX3_add_19 hb.2.1 (lwS_1 h b L) (by omega) (by omega) ?_
    refine ww_hp (h2 := rdS (lwS h b ((L.1, upd L.2.1 L.1 (nI x), L.2.2))) n a k pl) (lw_s1 _ _ _ _ _ _ _ _) ?_
    refine ww_aload_n dX3_add_20 rfl rfl ?_
    refine ww_get 1 dX3_add_21 hb.1 rfl (by decide) inX3 wg_95 (rdS_o _ _ _ _ (by omega) (lwS_j (by decide) hb.2.2.2.2.1)) ?_
    refine ww_aload_n dX3_add_24 rfl rfl ?_
    refine ww_get 4 dX3_add_25 hb.1 rfl (by decide) inX3 wg_98 (rdS_o _ _ _ _ (by omega) (lwS_4 h b ((L.1, upd L.2.1 L.1 (nI x), L.2.2)))) ?_
    refine ww_iload_n dX3_add_28 rfl rfl ?_
    refine ww_iastF dX3_add_29 hb.2.2.1 (lwS_2 h b ((L.1, upd L.2.1 L.1 (nI x), L.2.2))) (by omega) (by omega) ?_
    refine ww_hp (h2 := rdS (lwS h b ((((L.1, upd L.2.1 L.1 (nI x), L.2.2)).1, ((L.1, upd L.2.1 L.1 (nI x), L.2.2)).2.1, upd (((L.1, upd L.2.1 L.1 (nI x), L.2.2)).2.2) (((L.1, upd L.2.1 L.1 (nI x), L.2.2)).1) (nI v)))) n a k pl) (lw_s2 _ _ _ _ _ _ _ _) ?_
    refine ww_aload_n dX3_add_30 rfl rfl ?_
    refine ww_dup dX3_add_31 rfl ?_
    refine ww_get 4 dX3_add_32 hb.1 rfl (by decide) inX3 wg_98 (rdS_o _ _ _ _ (by omega) (lwS_4 h b ((((L.1, upd L.2.1 L.1 (nI x), L.2.2)).1, ((L.1, upd L.2.1 L.1 (nI x), L.2.2)).2.1, upd (((L.1, upd L.2.1 L.1 (nI x), L.2.2)).2.2) (((L.1, upd L.2.1 L.1 (nI x), L.2.2)).1) (nI v))))) ?_
    refine ww_iconst (v := nI 1) dX3_add_35 (by decide) ?_
    refine ww_iaddN dX3_add_36 ?_
    refine ww_pfI tyX3 4 dX3_add_37 hb.1 rfl (by decide) inX3 tyX3_ok nmX3 wg_98 rfl rfl ?_
    refine ww_hp (h2 := rdS (lwS h b (((((((L.1, upd L.2.1 L.1 (nI x), L.2.2)).1, ((L.1, upd L.2.1 L.1 (nI x), L.2.2)).2.1, upd (((L.1, upd L.2.1 L.1 (nI x), L.2.2)).2.2) (((L.1, upd L.2.1 L.1 (nI x), L.2.2)).1) (nI v))).1) + 1, ((((L.1, upd L.2.1 L.1 (nI x), L.2.2)).1, ((L.1, upd L.2.1 L.1 (nI x), L.2.2)).2.1, upd (((L.1, upd L.2.1 L.1 (nI x), L.2.2)).2.2) (((L.1, upd L.2.1 L.1 (nI x), L.2.2)).1) (nI v))).2.1, ((((L.1, upd L.2.1 L.1 (nI x), L.2.2)).1, ((L.1, upd L.2.1 L.1 (nI x), L.2.2)).2.1, upd (((L.1, upd L.2.1 L.1 (nI x), L.2.2)).2.2) (((L.1, upd L.2.1 L.1 (nI x), L.2.2)).1) (nI v))).2.2))) n a k pl) (lw_s4 hb3 _) ?_
    exact ww_vret dX3_add_40 rfl ⟨rfl, ((((((L.1, upd L.2.1 L.1 (nI x), L.2.2)).1, ((L.1, upd L.2.1 L.1 (nI x), L.2.2)).2.1, upd (((L.1, upd L.2.1 L.1 (nI x), L.2.2)).2.2) (((L.1, upd L.2.1 L.1 (nI x), L.2.2)).1) (nI v))).1) + 1, ((((L.1, upd L.2.1 L.1 (nI x), L.2.2)).1, ((L.1, upd L.2.1 L.1 (nI x), L.2.2)).2.1, upd (((L.1, upd L.2.1 L.1 (nI x), L.2.2)).2.2) (((L.1, upd L.2.1 L.1 (nI x), L.2.2)).1) (nI v))).2.1, ((((L.1, upd L.2.1 L.1 (nI x), L.2.2)).1, ((L.1, upd L.2.1 L.1 (nI x), L.2.2)).2.1, upd (((L.1, upd L.2.1 L.1 (nI x), L.2.2)).2.2) (((L.1, upd L.2.1 L.1 (nI x), L.2.2)).1) (nI v))).2.2), by show L.1 + 1 ≤ 150; omega, rfl⟩
set_option maxHeartbeats 4000000 in
set_option maxRecDepth 100000 in
theorem c_Lw_may_t {l : Launch} {Z : EE} (hst : l.stackTraces = false) {h : PH} {tf : Nat → Int32} (hR : RdK h tf) {T : Nat → Nat} (hB : BT tf T) {n : Nat} (hn : n ≤ 600) (a : Nat) (o s : Nat) (ho : o < 6) : CC l Z m_X3_mayOpen 1 0 0 [.ref 1, .int (nI o), .int (nI s)] (rdS h n a 0 (-1)) (RT (some (.int (nI 1))) (rdS h n a 0 (-1))) := by
  refine ee_entry hst (by decide +kernel) rfl rfl (by simp [Value.category]) (Nat.le_of_ble_eq_true rfl) ?_
  refine ww_lv (lv2 := [.ref 1, .int (nI o), .int (nI s)]) rfl ?_
  refine ww_iload_n dX3_mayOpen_0 rfl rfl ?_
  refine ww_bipush (v := nI 6) dX3_mayOpen_1 (by decide) ?_
  refine ww_icmp_ltN (tgt := 14) dX3_mayOpen_3 (by decide) (by omega) (by omega) (fun c3 => ?_) (fun c3 => ?_)
  · refine ww_iconst (v := nI 1) dX3_mayOpen_14 (by decide) ?_
    exact ww_zret dX3_mayOpen_15 rfl (by first | rfl | exact nar_bI _) ⟨rfl, rfl⟩
  · exfalso; omega
set_option maxHeartbeats 4000000 in
set_option maxRecDepth 100000 in
theorem c_Lw_may_f {l : Launch} {Z : EE} (hst : l.stackTraces = false) {h : PH} {tf : Nat → Int32} (hR : RdK h tf) {T : Nat → Nat} (hB : BT tf T) {n : Nat} (hn : n ≤ 600) (a : Nat) (o s : Nat) (ho : o = 6) : CC l Z m_X3_mayOpen 1 0 0 [.ref 1, .int (nI o), .int (nI s)] (rdS h n a 0 (-1)) (RT (some (.int (nI 0))) (rdS h n n 3 (nI s))) := by
  refine ee_entry hst (by decide +kernel) rfl rfl (by simp [Value.category]) (Nat.le_of_ble_eq_true rfl) ?_
  refine ww_lv (lv2 := [.ref 1, .int (nI o), .int (nI s)]) rfl ?_
  refine ww_iload_n dX3_mayOpen_0 rfl rfl ?_
  refine ww_bipush (v := nI 6) dX3_mayOpen_1 (by decide) ?_
  refine ww_icmp_ltN (tgt := 14) dX3_mayOpen_3 (by decide) (by omega) (by omega) (fun c3 => ?_) (fun c3 => ?_)
  · exfalso; omega
  · refine ww_aload_n dX3_mayOpen_6 rfl rfl ?_
    refine ww_iconst (v := nI 3) dX3_mayOpen_7 (by decide) ?_
    refine ww_iload_n dX3_mayOpen_8 rfl rfl ?_
    refine ww_cV0 (M := m_X3_mayOpen) (pc := 9) (h1 := rdS h n n 3 (nI s)) (st := []) (d := 1) (bc := 0) (bs := 0) (c_Rd_fail0 hst hR hB hn a (-1) 3 (nI s)) vv_X5_fail dX3_mayOpen_9 wg_629 hR.1 rfl rfl rfl rfl (Nat.le_of_ble_eq_true rfl) (Nat.le_of_ble_eq_true rfl) (Nat.le_of_ble_eq_true rfl) (Nat.le_of_ble_eq_true rfl) ?_
    refine ww_iconst (v := nI 0) dX3_mayOpen_12 (by decide) ?_
    exact ww_zret dX3_mayOpen_13 rfl (by first | rfl | exact nar_bI _) ⟨rfl, rfl⟩
set_option maxHeartbeats 4000000 in
set_option maxRecDepth 100000 in
theorem c_Lw_unit_f {l : Launch} {Z : EE} (hst : l.stackTraces = false) {h : PH} {tf : Nat → Int32} (hR : RdK h tf) {T : Nat → Nat} (hB : BT tf T) {n : Nat} (hn : n ≤ 600) {b : Nat} (hb : LwK h b) (L : LWt) (k : Nat) (hk : 0 < k) (hk9 : k < 10) (pl o : Int32) : CC l Z m_X3_readUnit 6 0 0 [.ref b, .ref 1, .int o] (rdS (lwS h b L) n n k pl) (RT none (rdS (lwS h b L) n n k pl)) := by
  refine ee_entry hst (by decide +kernel) rfl rfl (by simp [Value.category]) (Nat.le_of_ble_eq_true rfl) ?_
  refine ww_lv (lv2 := [.ref b, .ref 1, .int o, UU, UU, UU]) rfl ?_
  have hb3 := hb.2.2.2.2.2
  refine ww_aload_n dX3_readUnit_0 rfl rfl ?_
  refine ww_cVr (M := m_X3_readUnit) (pc := 1) (v := .int (-1)) (h1 := rdS (lwS h b L) n n k pl) (st := []) (d := 6) (bc := 0) (bs := 0) (c_Rd_ahead_f hst (hR.lw hb3 L) hB hn k (by omega) (by omega) pl) vv_X5_ahead dX3_readUnit_1 wg_620 ((hR.lw hb3 L).1) rfl rfl rfl rfl (Nat.le_of_ble_eq_true rfl) (Nat.le_of_ble_eq_true rfl) (Nat.le_of_ble_eq_true rfl) (Nat.le_of_ble_eq_true rfl) ?_
  refine ww_sti_n (lv2 := [.ref b, .ref 1, .int o, .int (-1), UU, UU]) dX3_readUnit_4 rfl rfl (by decide) rfl ?_
  refine ww_aload_n dX3_readUnit_5 rfl rfl ?_
  refine ww_getN 3 dX3_readUnit_6 ((hR.lw hb3 L).1) rfl (by decide) inX5 wn_46 (rdS_3 _ _ _ _ _) ?_
  refine ww_sti (lv2 := [.ref b, .ref 1, .int o, .int (-1), .int (nI n), UU]) dX3_readUnit_9 rfl (by decide) rfl ?_
  refine ww_iload_n dX3_readUnit_11 rfl rfl ?_
  refine ww_bipush (v := nI 48) dX3_readUnit_12 (by decide) ?_
  refine ww_icmp_lt (tgt := 39) dX3_readUnit_14 (by decide) (fun c14 => ?_) (fun c14 => ?_)
  · refine ww_iload_n dX3_readUnit_39 rfl rfl ?_
    refine ww_bipush (v := nI 40) dX3_readUnit_40 (by decide) ?_
    refine ww_icmp_ne (tgt := 78) dX3_readUnit_42 (by decide) (fun c42 => ?_) (fun c42 => ?_)
    · refine ww_aload_n dX3_readUnit_78 rfl rfl ?_
      refine ww_ldcS (i := 2) dX3_readUnit_79 rfl ?_
      refine ww_cVr (M := m_X3_readUnit) (pc := 81) (v := .int (-1)) (h1 := rdS (lwS h b L) n n k pl) (st := []) (d := 6) (bc := 0) (bs := 0) (c_Rd_word_f hst (hR.lw hb3 L) hB hn k (by omega) (by omega) pl 2 (by decide)) vv_X5_word dX3_readUnit_81 wg_632 ((hR.lw hb3 L).1) rfl rfl rfl rfl (Nat.le_of_ble_eq_true rfl) (Nat.le_of_ble_eq_true rfl) (Nat.le_of_ble_eq_true rfl) (Nat.le_of_ble_eq_true rfl) ?_
      refine ww_sti (lv2 := [.ref b, .ref 1, .int o, .int (-1), .int (nI n), .int (-1)]) dX3_readUnit_84 rfl (by decide) rfl ?_
      refine ww_iload dX3_readUnit_86 rfl ?_
      refine ww_bipush (v := nI 7) dX3_readUnit_88 (by decide) ?_
      refine ww_icmp_lt (tgt := 133) dX3_readUnit_90 (by decide) (fun c90 => ?_) (fun c90 => ?_)
      · refine ww_iload dX3_readUnit_133 rfl ?_
        refine ww_if_lt (tgt := 145) dX3_readUnit_135 (by decide) (fun c135 => ?_) (fun c135 => ?_)
        · exact ww_vret dX3_readUnit_145 rfl ⟨rfl, rfl⟩
        · exact absurd c135 (by decide)
      · exact absurd c90 (by decide)
    · exact absurd c42 (by decide)
  · exact absurd c14 (by decide)
set_option maxHeartbeats 4000000 in
set_option maxRecDepth 100000 in
theorem c_Lw_prod_f {l : Launch} {Z : EE} (hst : l.stackTraces = false) {h : PH} {tf : Nat → Int32} (hR : RdK h tf) {T : Nat → Nat} (hB : BT tf T) {n : Nat} (hn : n ≤ 600) {b : Nat} (hb : LwK h b) (L : LWt) (k : Nat) (hk : 0 < k) (hk9 : k < 10) (pl o : Int32) : CC l Z m_X3_readProduct 7 0 0 [.ref b, .ref 1, .int o] (rdS (lwS h b L) n n k pl) (RT none (rdS (lwS h b L) n n k pl)) := by
  refine ee_entry hst (by decide +kernel) rfl rfl (by simp [Value.category]) (Nat.le_of_ble_eq_true rfl) ?_
  refine ww_lv (lv2 := [.ref b, .ref 1, .int o, UU, UU]) rfl ?_
  have hb3 := hb.2.2.2.2.2
  refine ww_aload_n dX3_readProduct_0 rfl rfl ?_
  refine ww_aload_n dX3_readProduct_1 rfl rfl ?_
  refine ww_iload_n dX3_readProduct_2 rfl rfl ?_
  refine ww_cV0 (M := m_X3_readProduct) (pc := 3) (h1 := rdS (lwS h b L) n n k pl) (st := []) (d := 7) (bc := 0) (bs := 0) (c_Lw_unit_f hst hR hB hn hb L k hk hk9 pl o) vv_X3_readUnit dX3_readProduct_3 wg_616 hb.1 rfl rfl rfl rfl (Nat.le_of_ble_eq_true rfl) (Nat.le_of_ble_eq_true rfl) (Nat.le_of_ble_eq_true rfl) (Nat.le_of_ble_eq_true rfl) ?_
  refine ww_iconst (v := nI 0) dX3_readProduct_6 (by decide) ?_
  refine ww_sti_n (lv2 := [.ref b, .ref 1, .int o, .int (nI 0), UU]) dX3_readProduct_7 rfl rfl (by decide) rfl ?_
  refine ww_iload_n dX3_readProduct_8 rfl rfl ?_
  refine ww_sipush (v := nI 150) dX3_readProduct_9 (by decide) ?_
  refine ww_icmp_geN (tgt := 90) dX3_readProduct_12 (by decide) (by omega) (by omega) (fun c12 => ?_) (fun c12 => ?_)
  · exact absurd c12 (by decide)
  · refine ww_aload_n dX3_readProduct_15 rfl rfl ?_
    refine ww_cVr (M := m_X3_readProduct) (pc := 16) (v := .int (-1)) (h1 := rdS (lwS h b L) n n k pl) (st := []) (d := 7) (bc := 0) (bs := 0) (c_Rd_ahead_f hst (hR.lw hb3 L) hB hn k (by omega) (by omega) pl) vv_X5_ahead dX3_readProduct_16 wg_620 ((hR.lw hb3 L).1) rfl rfl rfl rfl (Nat.le_of_ble_eq_true rfl) (Nat.le_of_ble_eq_true rfl) (Nat.le_of_ble_eq_true rfl) (Nat.le_of_ble_eq_true rfl) ?_
    refine ww_sti (lv2 := [.ref b, .ref 1, .int o, .int (nI 0), .int (-1)]) dX3_readProduct_19 rfl (by decide) rfl ?_
    refine ww_iload dX3_readProduct_21 rfl ?_
    refine ww_bipush (v := nI 42) dX3_readProduct_23 (by decide) ?_
    refine ww_icmp_eq (tgt := 43) dX3_readProduct_25 (by decide) (fun c25 => ?_) (fun c25 => ?_)
    · exact absurd c25 (by decide)
    · refine ww_iload dX3_readProduct_28 rfl ?_
      refine ww_bipush (v := nI 47) dX3_readProduct_30 (by decide) ?_
      refine ww_icmp_eq (tgt := 43) dX3_readProduct_32 (by decide) (fun c32 => ?_) (fun c32 => ?_)
      · exact absurd c32 (by decide)
      · refine ww_iload dX3_readProduct_35 rfl ?_
        refine ww_bipush (v := nI 37) dX3_readProduct_37 (by decide) ?_
        refine ww_icmp_eq (tgt := 43) dX3_readProduct_39 (by decide) (fun c39 => ?_) (fun c39 => ?_)
        · exact absurd c39 (by decide)
        · exact ww_vret dX3_readProduct_42 rfl ⟨rfl, rfl⟩
set_option maxHeartbeats 4000000 in
set_option maxRecDepth 100000 in
theorem c_Lw_sum_f {l : Launch} {Z : EE} (hst : l.stackTraces = false) {h : PH} {tf : Nat → Int32} (hR : RdK h tf) {T : Nat → Nat} (hB : BT tf T) {n : Nat} (hn : n ≤ 600) {b : Nat} (hb : LwK h b) (L : LWt) (k : Nat) (hk : 0 < k) (hk9 : k < 10) (pl o : Int32) : CC l Z m_X3_readSum 8 0 0 [.ref b, .ref 1, .int o] (rdS (lwS h b L) n n k pl) (RT none (rdS (lwS h b L) n n k pl)) := by
  refine ee_entry hst (by decide +kernel) rfl rfl (by simp [Value.category]) (Nat.le_of_ble_eq_true rfl) ?_
  refine ww_lv (lv2 := [.ref b, .ref 1, .int o, UU, UU]) rfl ?_
  have hb3 := hb.2.2.2.2.2
  refine ww_aload_n dX3_readSum_0 rfl rfl ?_
  refine ww_aload_n dX3_readSum_1 rfl rfl ?_
  refine ww_iload_n dX3_readSum_2 rfl rfl ?_
  refine ww_cV0 (M := m_X3_readSum) (pc := 3) (h1 := rdS (lwS h b L) n n k pl) (st := []) (d := 8) (bc := 0) (bs := 0) (c_Lw_prod_f hst hR hB hn hb L k hk hk9 pl o) vv_X3_readProduct dX3_readSum_3 wg_612 hb.1 rfl rfl rfl rfl (Nat.le_of_ble_eq_true rfl) (Nat.le_of_ble_eq_true rfl) (Nat.le_of_ble_eq_true rfl) (Nat.le_of_ble_eq_true rfl) ?_
  refine ww_iconst (v := nI 0) dX3_readSum_6 (by decide) ?_
  refine ww_sti_n (lv2 := [.ref b, .ref 1, .int o, .int (nI 0), UU]) dX3_readSum_7 rfl rfl (by decide) rfl ?_
  refine ww_iload_n dX3_readSum_8 rfl rfl ?_
  refine ww_sipush (v := nI 150) dX3_readSum_9 (by decide) ?_
  refine ww_icmp_geN (tgt := 71) dX3_readSum_12 (by decide) (by omega) (by omega) (fun c12 => ?_) (fun c12 => ?_)
  · exact absurd c12 (by decide)
  · refine ww_aload_n dX3_readSum_15 rfl rfl ?_
    refine ww_cVr (M := m_X3_readSum) (pc := 16) (v := .int (-1)) (h1 := rdS (lwS h b L) n n k pl) (st := []) (d := 8) (bc := 0) (bs := 0) (c_Rd_ahead_f hst (hR.lw hb3 L) hB hn k (by omega) (by omega) pl) vv_X5_ahead dX3_readSum_16 wg_620 ((hR.lw hb3 L).1) rfl rfl rfl rfl (Nat.le_of_ble_eq_true rfl) (Nat.le_of_ble_eq_true rfl) (Nat.le_of_ble_eq_true rfl) (Nat.le_of_ble_eq_true rfl) ?_
    refine ww_sti (lv2 := [.ref b, .ref 1, .int o, .int (nI 0), .int (-1)]) dX3_readSum_19 rfl (by decide) rfl ?_
    refine ww_iload dX3_readSum_21 rfl ?_
    refine ww_bipush (v := nI 43) dX3_readSum_23 (by decide) ?_
    refine ww_icmp_eq (tgt := 36) dX3_readSum_25 (by decide) (fun c25 => ?_) (fun c25 => ?_)
    · exact absurd c25 (by decide)
    · refine ww_iload dX3_readSum_28 rfl ?_
      refine ww_bipush (v := nI 45) dX3_readSum_30 (by decide) ?_
      refine ww_icmp_eq (tgt := 36) dX3_readSum_32 (by decide) (fun c32 => ?_) (fun c32 => ?_)
      · exact absurd c32 (by decide)
      · exact ww_vret dX3_readSum_35 rfl ⟨rfl, rfl⟩
set_option maxHeartbeats 4000000 in
set_option maxRecDepth 100000 in
theorem c_Lw_pair_f {l : Launch} {Z : EE} (hst : l.stackTraces = false) {h : PH} {tf : Nat → Int32} (hR : RdK h tf) {T : Nat → Nat} (hB : BT tf T) {n : Nat} (hn : n ≤ 600) {b : Nat} (hb : LwK h b) (L : LWt) (k : Nat) (hk : 0 < k) (hk9 : k < 10) (pl o : Int32) : CC l Z m_X3_readPair 9 0 0 [.ref b, .ref 1, .int o] (rdS (lwS h b L) n n k pl) (RT none (rdS (lwS h b L) n n k pl)) := by
  refine ee_entry hst (by decide +kernel) rfl rfl (by simp [Value.category]) (Nat.le_of_ble_eq_true rfl) ?_
  refine ww_lv (lv2 := [.ref b, .ref 1, .int o]) rfl ?_
  have hb3 := hb.2.2.2.2.2
  refine ww_aload_n dX3_readPair_0 rfl rfl ?_
  refine ww_bipush (v := nI 91) dX3_readPair_1 (by decide) ?_
  refine ww_cV0 (M := m_X3_readPair) (pc := 3) (h1 := rdS (lwS h b L) n n k pl) (st := []) (d := 9) (bc := 0) (bs := 0) (c_Rd_sign_f hst (hR.lw hb3 L) hB hn k (by omega) (by omega) pl 91 (by omega)) vv_X5_sign dX3_readPair_3 wg_630 ((hR.lw hb3 L).1) rfl rfl rfl rfl (Nat.le_of_ble_eq_true rfl) (Nat.le_of_ble_eq_true rfl) (Nat.le_of_ble_eq_true rfl) (Nat.le_of_ble_eq_true rfl) ?_
  refine ww_aload_n dX3_readPair_6 rfl rfl ?_
  refine ww_aload_n dX3_readPair_7 rfl rfl ?_
  refine ww_iload_n dX3_readPair_8 rfl rfl ?_
  refine ww_cV0 (M := m_X3_readPair) (pc := 9) (h1 := rdS (lwS h b L) n n k pl) (st := []) (d := 9) (bc := 0) (bs := 0) (c_Lw_sum_f hst hR hB hn hb L k hk hk9 pl o) vv_X3_readSum dX3_readPair_9 wg_608 hb.1 rfl rfl rfl rfl (Nat.le_of_ble_eq_true rfl) (Nat.le_of_ble_eq_true rfl) (Nat.le_of_ble_eq_true rfl) (Nat.le_of_ble_eq_true rfl) ?_
  refine ww_aload_n dX3_readPair_12 rfl rfl ?_
  refine ww_bipush (v := nI 44) dX3_readPair_13 (by decide) ?_
  refine ww_cV0 (M := m_X3_readPair) (pc := 15) (h1 := rdS (lwS h b L) n n k pl) (st := []) (d := 9) (bc := 0) (bs := 0) (c_Rd_sign_f hst (hR.lw hb3 L) hB hn k (by omega) (by omega) pl 44 (by omega)) vv_X5_sign dX3_readPair_15 wg_630 ((hR.lw hb3 L).1) rfl rfl rfl rfl (Nat.le_of_ble_eq_true rfl) (Nat.le_of_ble_eq_true rfl) (Nat.le_of_ble_eq_true rfl) (Nat.le_of_ble_eq_true rfl) ?_
  refine ww_aload_n dX3_readPair_18 rfl rfl ?_
  refine ww_aload_n dX3_readPair_19 rfl rfl ?_
  refine ww_iload_n dX3_readPair_20 rfl rfl ?_
  refine ww_cV0 (M := m_X3_readPair) (pc := 21) (h1 := rdS (lwS h b L) n n k pl) (st := []) (d := 9) (bc := 0) (bs := 0) (c_Lw_sum_f hst hR hB hn hb L k hk hk9 pl o) vv_X3_readSum dX3_readPair_21 wg_608 hb.1 rfl rfl rfl rfl (Nat.le_of_ble_eq_true rfl) (Nat.le_of_ble_eq_true rfl) (Nat.le_of_ble_eq_true rfl) (Nat.le_of_ble_eq_true rfl) ?_
  refine ww_aload_n dX3_readPair_24 rfl rfl ?_
  refine ww_bipush (v := nI 93) dX3_readPair_25 (by decide) ?_
  refine ww_cV0 (M := m_X3_readPair) (pc := 27) (h1 := rdS (lwS h b L) n n k pl) (st := []) (d := 9) (bc := 0) (bs := 0) (c_Rd_sign_f hst (hR.lw hb3 L) hB hn k (by omega) (by omega) pl 93 (by omega)) vv_X5_sign dX3_readPair_27 wg_630 ((hR.lw hb3 L).1) rfl rfl rfl rfl (Nat.le_of_ble_eq_true rfl) (Nat.le_of_ble_eq_true rfl) (Nat.le_of_ble_eq_true rfl) (Nat.le_of_ble_eq_true rfl) ?_
  exact ww_vret dX3_readPair_30 rfl ⟨rfl, rfl⟩
