theorem c_Land_fareT {l : Launch} {Z : EE} (hst : l.stackTraces = false) {h : PH} {a np du : Nat} {f : Nat → Int32} (hL : LandAt h a np du f) {b sz : Nat} {kf vf : Nat → Int32} (hW : LawAt h b sz kf vf) (hok : LawOK kf vf sz) (hab : a + 1 < b ∨ b + 4 < a) (n : Nat) (hn : n ≤ 60) (w : Nat) (hw : w ≤ 2) : CC l Z m_X2_fareBy 3 0 0 [.ref a, .ref b, .int (nI n), .int (nI w)] h (RQ (some (.int (fareT f sz kf vf n w))) (Same (fun c => c = b + 3 ∨ c = b + 4) (fun _ _ => False) h)) := by
  rw [fareT_in hn]; exact c_Land_fareBy hst hL hW hok hab n hn w hw
/-- all fares of one way into a row of the class -/
theorem c_Land_faresT {l : Launch} {Z : EE} (hst : l.stackTraces = false) {h : PH} {la lw bk np du : Nat} {f : Nat → Int32} (hC : CL h la lw bk) (hL : LandAt h la np du f) {sz : Nat} {kf vf : Nat → Int32} (hW : LawAt h lw sz kf vf) (hok : LawOK kf vf sz) (t : Nat) (ht : hp_K h t = (20, 61)) (htx : t = 29 ∨ t = 31 ∨ t = 37) (w : Nat) (hw : w ≤ 2) :
    CC l Z m_X2_faresBy 4 0 0 [.ref la, .ref lw, .int (nI w), .ref t] h (RQ none (fun h9 => Same (fun c => c = t ∨ c = 10 ∨ c = 11 ∨ c = 15 ∨ c = 16) (fun _ _ => False) h h9 ∧ ∀ i, i ≤ 60 → hp_I h9 t i = fareT f sz kf vf i w)) := by
  have hla := hC.la
  have hlw := hC.lw
  refine cc_post (fun r h9 hp => ⟨hp.1, hp.2.1.mono (fun c hc => by omega) (fun _ _ e => e), fun i hi => (hp.2.2 i (by omega)).trans (fareT_in hi).symm⟩) (c_Land_faresBy hst hL hW hok (by omega) ht (by omega) w hw)
theorem Same.fares {h h' : PH} {t : Nat} (hS : Same (fun c => c = t ∨ c = 10 ∨ c = 11 ∨ c = 15 ∨ c = 16) (fun _ _ => False) h h') (ht : t = 29 ∨ t = 31 ∨ t = 37) : Same CX CY h h' := hS.mono (fun c hc => by rcases ht with rfl | rfl | rfl <;> rcases hc with rfl | rfl | rfl | rfl | rfl <;> decide) (fun _ _ e => e.elim)
theorem deF_congr {c g : Nat → Int32} {a : Nat} : ∀ k, (∀ i, i < a + k → g i = c i) → (0 < k → a < a + k) → deF g a k = deF c a k
  | 0, _, _ => rfl
  | k + 1, h, _ => by
    have ih := deF_congr (c := c) (g := g) (a := a) k (fun i hi => h i (by omega)) (fun _ => by omega)
    have hl := deF_le c a k
    simp only [deF, ih, h (a + k) (by omega), h (deF c a k).1 (by omega)]
set_option maxHeartbeats 4000000 in
set_option maxRecDepth 100000 in
theorem c_K_cheapest0 {l : Launch} {Z : EE} (hst : l.stackTraces = false) {h : PH} {la lw bk : Nat} (hC : CL h la lw bk) {np du : Nat} {f : Nat → Int32} (hL : LandAt h la np du f) {sz : Nat} {kf vf : Nat → Int32} (hW : LawAt h lw sz kf vf) (hok : LawOK kf vf sz) (n : Nat) (hn : n ≤ 60) : CC l Z m_X10_cheapest 4 0 0 [.ref 0, .int (nI n), .int (nI 0)] h (COk (nI (chW (fareT f sz kf vf n 0) (fareT f sz kf vf n 1) (fareT f sz kf vf n 2))) h) := by
  refine ee_entry hst (by decide +kernel) rfl rfl (by simp [Value.category]) (Nat.le_of_ble_eq_true rfl) ?_
  refine ww_lv (lv2 := [.ref 0, .int (nI n), .int (nI 0), UU, UU, UU, UU]) rfl ?_
  have hla := hC.la
  have hlw := hC.lw
  have hbk := hC.bk
  refine ww_aload_n dX10_cheapest_0 rfl rfl ?_
  refine ww_iload_n dX10_cheapest_1 rfl rfl ?_
  refine ww_cV0 (M := m_X10_cheapest) (pc := 2) (h1 := h) (st := []) (bc := 0) (bs := 0) (c_needNumber_t hst hC.K0 n hn) vv_X10_needNumber dX10_cheapest_2 wg_847 (hC.K0) rfl rfl rfl rfl (Nat.le_of_ble_eq_true rfl) (Nat.le_of_ble_eq_true rfl) (Nat.le_of_ble_eq_true rfl) (Nat.le_of_ble_eq_true rfl) ?_
  refine ww_aload_n dX10_cheapest_5 rfl rfl ?_
  refine ww_iload_n dX10_cheapest_6 rfl rfl ?_
  refine ww_iconst (v := nI 0) dX10_cheapest_7 (by decide) ?_
  refine ww_iconst (v := nI 1) dX10_cheapest_8 (by decide) ?_
  refine ww_cV0 (M := m_X10_cheapest) (pc := 9) (h1 := h) (st := []) (bc := 0) (bs := 0) (c_within_t hst (nI 0) (nI 0) (nI 1) (by decide) (by decide) _) vv_X10_within dX10_cheapest_9 wg_410 (hC.K0) rfl rfl rfl rfl (Nat.le_of_ble_eq_true rfl) (Nat.le_of_ble_eq_true rfl) (Nat.le_of_ble_eq_true rfl) (Nat.le_of_ble_eq_true rfl) ?_
  refine ww_iconst (v := nI 0) dX10_cheapest_12 (by decide) ?_
  refine ww_sti_n (lv2 := [.ref 0, .int (nI n), .int (nI 0), .int (nI 0), UU, UU, UU]) dX10_cheapest_13 rfl rfl (by decide) rfl ?_
  refine ww_aload_n dX10_cheapest_14 rfl rfl ?_
  refine ww_get 1 dX10_cheapest_15 (hC.K0) rfl (by decide) inX10 wg_265 hC.D1 ?_
  refine ww_aload_n dX10_cheapest_18 rfl rfl ?_
  refine ww_get 3 dX10_cheapest_19 (hC.K0) rfl (by decide) inX10 wg_267 hC.D3 ?_
  refine ww_iload_n dX10_cheapest_22 rfl rfl ?_
  refine ww_iconst (v := nI 0) dX10_cheapest_23 (by decide) ?_
  refine ww_cVq (M := m_X10_cheapest) (pc := 24) (v := .int (fareT f sz kf vf n 0)) (st := []) (bc := 0) (bs := 0) (c_Land_fareT hst hL hW hok (by omega) n (by omega) 0 (by omega)) vv_X2_fareBy dX10_cheapest_24 wg_866 hL.1 rfl rfl rfl rfl (Nat.le_of_ble_eq_true rfl) (Nat.le_of_ble_eq_true rfl) (Nat.le_of_ble_eq_true rfl) (Nat.le_of_ble_eq_true rfl) (fun hq1 qq1 => ?_)
  have s1 : Same CX CY h hq1 := qq1.law hC.lw
  have hC1 := hC.scr s1
  have hL1 := hL.scr hC s1
  have hW1 := hW.scr hC s1
  refine ww_sti (lv2 := [.ref 0, .int (nI n), .int (nI 0), .int (nI 0), .int (fareT f sz kf vf n 0), UU, UU]) dX10_cheapest_27 rfl (by decide) rfl ?_
  refine ww_iconst (v := nI 1) dX10_cheapest_29 (by decide) ?_
  refine ww_sti (lv2 := [.ref 0, .int (nI n), .int (nI 0), .int (nI 0), .int (fareT f sz kf vf n 0), .int (nI 1), UU]) dX10_cheapest_30 rfl (by decide) rfl ?_
  refine ww_iload dX10_cheapest_32 rfl ?_
  refine ww_iconst (v := nI 2) dX10_cheapest_34 (by decide) ?_
  refine ww_icmp_gtN (tgt := 74) dX10_cheapest_35 (by decide) (by omega) (by omega) (fun c35 => ?_) (fun c35 => ?_)
  · exact absurd c35 (by decide)
  · refine ww_aload_n dX10_cheapest_38 rfl rfl ?_
    refine ww_get 1 dX10_cheapest_39 (hC1.K0) rfl (by decide) inX10 wg_265 hC1.D1 ?_
    refine ww_aload_n dX10_cheapest_42 rfl rfl ?_
    refine ww_get 3 dX10_cheapest_43 (hC1.K0) rfl (by decide) inX10 wg_267 hC1.D3 ?_
    refine ww_iload_n dX10_cheapest_46 rfl rfl ?_
    refine ww_iload dX10_cheapest_47 rfl ?_
    refine ww_cVq (M := m_X10_cheapest) (pc := 49) (v := .int (fareT f sz kf vf n 1)) (st := []) (bc := 0) (bs := 0) (c_Land_fareT hst hL1 hW1 hok (by omega) n (by omega) 1 (by omega)) vv_X2_fareBy dX10_cheapest_49 wg_866 hL1.1 rfl rfl rfl rfl (Nat.le_of_ble_eq_true rfl) (Nat.le_of_ble_eq_true rfl) (Nat.le_of_ble_eq_true rfl) (Nat.le_of_ble_eq_true rfl) (fun hq2 qq2 => ?_)
    have s2 : Same CX CY h hq2 := s1.tr (qq2.law hC.lw)
    have hC2 := hC.scr s2
    have hL2 := hL.scr hC s2
    have hW2 := hW.scr hC s2
    refine ww_sti (lv2 := [.ref 0, .int (nI n), .int (nI 0), .int (nI 0), .int (fareT f sz kf vf n 0), .int (nI 1), .int (fareT f sz kf vf n 1)]) dX10_cheapest_52 rfl (by decide) rfl ?_
    refine ww_iload dX10_cheapest_54 rfl ?_
    refine ww_iload dX10_cheapest_56 rfl ?_
    refine ww_icmp_ge (tgt := 68) dX10_cheapest_58 (by decide) (fun c58 => ?_) (fun c58 => ?_)
    · have e1 := c58
      refine ww_incN (c := 1) (lv2 := [.ref 0, .int (nI n), .int (nI 0), .int (nI 0), .int (fareT f sz kf vf n 0), .int (nI 2), .int (fareT f sz kf vf n 1)]) dX10_cheapest_68 rfl rfl rfl (by decide) rfl ?_
      refine ww_goto (tgt := 32) dX10_cheapest_71 (by decide) ?_
      refine ww_iload dX10_cheapest_32 rfl ?_
      refine ww_iconst (v := nI 2) dX10_cheapest_34 (by decide) ?_
      refine ww_icmp_gtN (tgt := 74) dX10_cheapest_35 (by decide) (by omega) (by omega) (fun c35 => ?_) (fun c35 => ?_)
      · exact absurd c35 (by decide)
      · refine ww_aload_n dX10_cheapest_38 rfl rfl ?_
        refine ww_get 1 dX10_cheapest_39 (hC2.K0) rfl (by decide) inX10 wg_265 hC2.D1 ?_
        refine ww_aload_n dX10_cheapest_42 rfl rfl ?_
        refine ww_get 3 dX10_cheapest_43 (hC2.K0) rfl (by decide) inX10 wg_267 hC2.D3 ?_
        refine ww_iload_n dX10_cheapest_46 rfl rfl ?_
        refine ww_iload dX10_cheapest_47 rfl ?_
        refine ww_cVq (M := m_X10_cheapest) (pc := 49) (v := .int (fareT f sz kf vf n 2)) (st := []) (bc := 0) (bs := 0) (c_Land_fareT hst hL2 hW2 hok (by omega) n (by omega) 2 (by omega)) vv_X2_fareBy dX10_cheapest_49 wg_866 hL2.1 rfl rfl rfl rfl (Nat.le_of_ble_eq_true rfl) (Nat.le_of_ble_eq_true rfl) (Nat.le_of_ble_eq_true rfl) (Nat.le_of_ble_eq_true rfl) (fun hq3 qq3 => ?_)
        have s3 : Same CX CY h hq3 := s2.tr (qq3.law hC.lw)
        have hC3 := hC.scr s3
        have hL3 := hL.scr hC s3
        have hW3 := hW.scr hC s3
        refine ww_sti (lv2 := [.ref 0, .int (nI n), .int (nI 0), .int (nI 0), .int (fareT f sz kf vf n 0), .int (nI 2), .int (fareT f sz kf vf n 2)]) dX10_cheapest_52 rfl (by decide) rfl ?_
        refine ww_iload dX10_cheapest_54 rfl ?_
        refine ww_iload dX10_cheapest_56 rfl ?_
        refine ww_icmp_ge (tgt := 68) dX10_cheapest_58 (by decide) (fun c58 => ?_) (fun c58 => ?_)
        · have e2 := c58
          refine ww_incN (c := 1) (lv2 := [.ref 0, .int (nI n), .int (nI 0), .int (nI 0), .int (fareT f sz kf vf n 0), .int (nI 3), .int (fareT f sz kf vf n 2)]) dX10_cheapest_68 rfl rfl rfl (by decide) rfl ?_
          refine ww_goto (tgt := 32) dX10_cheapest_71 (by decide) ?_
          refine ww_iload dX10_cheapest_32 rfl ?_
          refine ww_iconst (v := nI 2) dX10_cheapest_34 (by decide) ?_
          refine ww_icmp_gtN (tgt := 74) dX10_cheapest_35 (by decide) (by omega) (by omega) (fun c35 => ?_) (fun c35 => ?_)
          · refine ww_iload_n dX10_cheapest_74 rfl rfl ?_
            refine ww_if_neN (tgt := 82) dX10_cheapest_75 (by decide) (by omega) (fun c75 => ?_) (fun c75 => ?_)
            · exact absurd c75 (by decide)
            · refine ww_iload_n dX10_cheapest_78 rfl rfl ?_
              refine ww_goto (tgt := 84) dX10_cheapest_79 (by decide) ?_
              exact ww_iret dX10_cheapest_84 rfl ⟨by simp only [← Int32.not_lt, Classical.not_not] at e1 e2; simp [chW, e1, e2], s3⟩
          · exact absurd c35 (by decide)
        · refine ww_iload dX10_cheapest_61 rfl ?_
          refine ww_sti (lv2 := [.ref 0, .int (nI n), .int (nI 0), .int (nI 0), .int (fareT f sz kf vf n 2), .int (nI 2), .int (fareT f sz kf vf n 2)]) dX10_cheapest_63 rfl (by decide) rfl ?_
          refine ww_iload dX10_cheapest_65 rfl ?_
          refine ww_sti_n (lv2 := [.ref 0, .int (nI n), .int (nI 0), .int (nI 2), .int (fareT f sz kf vf n 2), .int (nI 2), .int (fareT f sz kf vf n 2)]) dX10_cheapest_67 rfl rfl (by decide) rfl ?_
          have e2 := c58
          refine ww_incN (c := 1) (lv2 := [.ref 0, .int (nI n), .int (nI 0), .int (nI 2), .int (fareT f sz kf vf n 2), .int (nI 3), .int (fareT f sz kf vf n 2)]) dX10_cheapest_68 rfl rfl rfl (by decide) rfl ?_
          refine ww_goto (tgt := 32) dX10_cheapest_71 (by decide) ?_
          refine ww_iload dX10_cheapest_32 rfl ?_
          refine ww_iconst (v := nI 2) dX10_cheapest_34 (by decide) ?_
          refine ww_icmp_gtN (tgt := 74) dX10_cheapest_35 (by decide) (by omega) (by omega) (fun c35 => ?_) (fun c35 => ?_)
          · refine ww_iload_n dX10_cheapest_74 rfl rfl ?_
            refine ww_if_neN (tgt := 82) dX10_cheapest_75 (by decide) (by omega) (fun c75 => ?_) (fun c75 => ?_)
            · exact absurd c75 (by decide)
            · refine ww_iload_n dX10_cheapest_78 rfl rfl ?_
              refine ww_goto (tgt := 84) dX10_cheapest_79 (by decide) ?_
              exact ww_iret dX10_cheapest_84 rfl ⟨by simp only [← Int32.not_lt, Classical.not_not] at e1 e2; simp [chW, e1, e2], s3⟩
          · exact absurd c35 (by decide)
    · refine ww_iload dX10_cheapest_61 rfl ?_
      refine ww_sti (lv2 := [.ref 0, .int (nI n), .int (nI 0), .int (nI 0), .int (fareT f sz kf vf n 1), .int (nI 1), .int (fareT f sz kf vf n 1)]) dX10_cheapest_63 rfl (by decide) rfl ?_
      refine ww_iload dX10_cheapest_65 rfl ?_
      refine ww_sti_n (lv2 := [.ref 0, .int (nI n), .int (nI 0), .int (nI 1), .int (fareT f sz kf vf n 1), .int (nI 1), .int (fareT f sz kf vf n 1)]) dX10_cheapest_67 rfl rfl (by decide) rfl ?_
      have e1 := c58
      refine ww_incN (c := 1) (lv2 := [.ref 0, .int (nI n), .int (nI 0), .int (nI 1), .int (fareT f sz kf vf n 1), .int (nI 2), .int (fareT f sz kf vf n 1)]) dX10_cheapest_68 rfl rfl rfl (by decide) rfl ?_
      refine ww_goto (tgt := 32) dX10_cheapest_71 (by decide) ?_
      refine ww_iload dX10_cheapest_32 rfl ?_
      refine ww_iconst (v := nI 2) dX10_cheapest_34 (by decide) ?_
      refine ww_icmp_gtN (tgt := 74) dX10_cheapest_35 (by decide) (by omega) (by omega) (fun c35 => ?_) (fun c35 => ?_)
      · exact absurd c35 (by decide)
      · refine ww_aload_n dX10_cheapest_38 rfl rfl ?_
        refine ww_get 1 dX10_cheapest_39 (hC2.K0) rfl (by decide) inX10 wg_265 hC2.D1 ?_
        refine ww_aload_n dX10_cheapest_42 rfl rfl ?_
        refine ww_get 3 dX10_cheapest_43 (hC2.K0) rfl (by decide) inX10 wg_267 hC2.D3 ?_
        refine ww_iload_n dX10_cheapest_46 rfl rfl ?_
        refine ww_iload dX10_cheapest_47 rfl ?_
        refine ww_cVq (M := m_X10_cheapest) (pc := 49) (v := .int (fareT f sz kf vf n 2)) (st := []) (bc := 0) (bs := 0) (c_Land_fareT hst hL2 hW2 hok (by omega) n (by omega) 2 (by omega)) vv_X2_fareBy dX10_cheapest_49 wg_866 hL2.1 rfl rfl rfl rfl (Nat.le_of_ble_eq_true rfl) (Nat.le_of_ble_eq_true rfl) (Nat.le_of_ble_eq_true rfl) (Nat.le_of_ble_eq_true rfl) (fun hq4 qq4 => ?_)
        have s4 : Same CX CY h hq4 := s2.tr (qq4.law hC.lw)
        have hC4 := hC.scr s4
        have hL4 := hL.scr hC s4
        have hW4 := hW.scr hC s4
        refine ww_sti (lv2 := [.ref 0, .int (nI n), .int (nI 0), .int (nI 1), .int (fareT f sz kf vf n 1), .int (nI 2), .int (fareT f sz kf vf n 2)]) dX10_cheapest_52 rfl (by decide) rfl ?_
        refine ww_iload dX10_cheapest_54 rfl ?_
        refine ww_iload dX10_cheapest_56 rfl ?_
        refine ww_icmp_ge (tgt := 68) dX10_cheapest_58 (by decide) (fun c58 => ?_) (fun c58 => ?_)
        · have e2 := c58
          refine ww_incN (c := 1) (lv2 := [.ref 0, .int (nI n), .int (nI 0), .int (nI 1), .int (fareT f sz kf vf n 1), .int (nI 3), .int (fareT f sz kf vf n 2)]) dX10_cheapest_68 rfl rfl rfl (by decide) rfl ?_
          refine ww_goto (tgt := 32) dX10_cheapest_71 (by decide) ?_
          refine ww_iload dX10_cheapest_32 rfl ?_
          refine ww_iconst (v := nI 2) dX10_cheapest_34 (by decide) ?_
          refine ww_icmp_gtN (tgt := 74) dX10_cheapest_35 (by decide) (by omega) (by omega) (fun c35 => ?_) (fun c35 => ?_)
          · refine ww_iload_n dX10_cheapest_74 rfl rfl ?_
            refine ww_if_neN (tgt := 82) dX10_cheapest_75 (by decide) (by omega) (fun c75 => ?_) (fun c75 => ?_)
            · exact absurd c75 (by decide)
            · refine ww_iload_n dX10_cheapest_78 rfl rfl ?_
              refine ww_goto (tgt := 84) dX10_cheapest_79 (by decide) ?_
              exact ww_iret dX10_cheapest_84 rfl ⟨by simp only [← Int32.not_lt, Classical.not_not] at e1 e2; simp [chW, e1, e2], s4⟩
          · exact absurd c35 (by decide)
        · refine ww_iload dX10_cheapest_61 rfl ?_
          refine ww_sti (lv2 := [.ref 0, .int (nI n), .int (nI 0), .int (nI 1), .int (fareT f sz kf vf n 2), .int (nI 2), .int (fareT f sz kf vf n 2)]) dX10_cheapest_63 rfl (by decide) rfl ?_
          refine ww_iload dX10_cheapest_65 rfl ?_
          refine ww_sti_n (lv2 := [.ref 0, .int (nI n), .int (nI 0), .int (nI 2), .int (fareT f sz kf vf n 2), .int (nI 2), .int (fareT f sz kf vf n 2)]) dX10_cheapest_67 rfl rfl (by decide) rfl ?_
          have e2 := c58
          refine ww_incN (c := 1) (lv2 := [.ref 0, .int (nI n), .int (nI 0), .int (nI 2), .int (fareT f sz kf vf n 2), .int (nI 3), .int (fareT f sz kf vf n 2)]) dX10_cheapest_68 rfl rfl rfl (by decide) rfl ?_
          refine ww_goto (tgt := 32) dX10_cheapest_71 (by decide) ?_
          refine ww_iload dX10_cheapest_32 rfl ?_
          refine ww_iconst (v := nI 2) dX10_cheapest_34 (by decide) ?_
          refine ww_icmp_gtN (tgt := 74) dX10_cheapest_35 (by decide) (by omega) (by omega) (fun c35 => ?_) (fun c35 => ?_)
          · refine ww_iload_n dX10_cheapest_74 rfl rfl ?_
            refine ww_if_neN (tgt := 82) dX10_cheapest_75 (by decide) (by omega) (fun c75 => ?_) (fun c75 => ?_)
            · exact absurd c75 (by decide)
            · refine ww_iload_n dX10_cheapest_78 rfl rfl ?_
              refine ww_goto (tgt := 84) dX10_cheapest_79 (by decide) ?_
              exact ww_iret dX10_cheapest_84 rfl ⟨by simp only [← Int32.not_lt, Classical.not_not] at e1 e2; simp [chW, e1, e2], s4⟩
          · exact absurd c35 (by decide)
set_option maxHeartbeats 4000000 in
set_option maxRecDepth 100000 in
theorem c_K_cheapest1 {l : Launch} {Z : EE} (hst : l.stackTraces = false) {h : PH} {la lw bk : Nat} (hC : CL h la lw bk) {np du : Nat} {f : Nat → Int32} (hL : LandAt h la np du f) {sz : Nat} {kf vf : Nat → Int32} (hW : LawAt h lw sz kf vf) (hok : LawOK kf vf sz) (n : Nat) (hn : n ≤ 60) : CC l Z m_X10_cheapest 4 0 0 [.ref 0, .int (nI n), .int (nI 1)] h (COk (fareT f sz kf vf n (chW (fareT f sz kf vf n 0) (fareT f sz kf vf n 1) (fareT f sz kf vf n 2))) h) := by
  refine ee_entry hst (by decide +kernel) rfl rfl (by simp [Value.category]) (Nat.le_of_ble_eq_true rfl) ?_
  refine ww_lv (lv2 := [.ref 0, .int (nI n), .int (nI 1), UU, UU, UU, UU]) rfl ?_
  have hla := hC.la
  have hlw := hC.lw
  have hbk := hC.bk
  refine ww_aload_n dX10_cheapest_0 rfl rfl ?_
  refine ww_iload_n dX10_cheapest_1 rfl rfl ?_
  refine ww_cV0 (M := m_X10_cheapest) (pc := 2) (h1 := h) (st := []) (bc := 0) (bs := 0) (c_needNumber_t hst hC.K0 n hn) vv_X10_needNumber dX10_cheapest_2 wg_847 (hC.K0) rfl rfl rfl rfl (Nat.le_of_ble_eq_true rfl) (Nat.le_of_ble_eq_true rfl) (Nat.le_of_ble_eq_true rfl) (Nat.le_of_ble_eq_true rfl) ?_
  refine ww_aload_n dX10_cheapest_5 rfl rfl ?_
  refine ww_iload_n dX10_cheapest_6 rfl rfl ?_
  refine ww_iconst (v := nI 0) dX10_cheapest_7 (by decide) ?_
  refine ww_iconst (v := nI 1) dX10_cheapest_8 (by decide) ?_
  refine ww_cV0 (M := m_X10_cheapest) (pc := 9) (h1 := h) (st := []) (bc := 0) (bs := 0) (c_within_t hst (nI 1) (nI 0) (nI 1) (by decide) (by decide) _) vv_X10_within dX10_cheapest_9 wg_410 (hC.K0) rfl rfl rfl rfl (Nat.le_of_ble_eq_true rfl) (Nat.le_of_ble_eq_true rfl) (Nat.le_of_ble_eq_true rfl) (Nat.le_of_ble_eq_true rfl) ?_
  refine ww_iconst (v := nI 0) dX10_cheapest_12 (by decide) ?_
  refine ww_sti_n (lv2 := [.ref 0, .int (nI n), .int (nI 1), .int (nI 0), UU, UU, UU]) dX10_cheapest_13 rfl rfl (by decide) rfl ?_
  refine ww_aload_n dX10_cheapest_14 rfl rfl ?_
  refine ww_get 1 dX10_cheapest_15 (hC.K0) rfl (by decide) inX10 wg_265 hC.D1 ?_
  refine ww_aload_n dX10_cheapest_18 rfl rfl ?_
  refine ww_get 3 dX10_cheapest_19 (hC.K0) rfl (by decide) inX10 wg_267 hC.D3 ?_
  refine ww_iload_n dX10_cheapest_22 rfl rfl ?_
  refine ww_iconst (v := nI 0) dX10_cheapest_23 (by decide) ?_
  refine ww_cVq (M := m_X10_cheapest) (pc := 24) (v := .int (fareT f sz kf vf n 0)) (st := []) (bc := 0) (bs := 0) (c_Land_fareT hst hL hW hok (by omega) n (by omega) 0 (by omega)) vv_X2_fareBy dX10_cheapest_24 wg_866 hL.1 rfl rfl rfl rfl (Nat.le_of_ble_eq_true rfl) (Nat.le_of_ble_eq_true rfl) (Nat.le_of_ble_eq_true rfl) (Nat.le_of_ble_eq_true rfl) (fun hq1 qq1 => ?_)
  have s1 : Same CX CY h hq1 := qq1.law hC.lw
  have hC1 := hC.scr s1
  have hL1 := hL.scr hC s1
  have hW1 := hW.scr hC s1
  refine ww_sti (lv2 := [.ref 0, .int (nI n), .int (nI 1), .int (nI 0), .int (fareT f sz kf vf n 0), UU, UU]) dX10_cheapest_27 rfl (by decide) rfl ?_
  refine ww_iconst (v := nI 1) dX10_cheapest_29 (by decide) ?_
  refine ww_sti (lv2 := [.ref 0, .int (nI n), .int (nI 1), .int (nI 0), .int (fareT f sz kf vf n 0), .int (nI 1), UU]) dX10_cheapest_30 rfl (by decide) rfl ?_
  refine ww_iload dX10_cheapest_32 rfl ?_
  refine ww_iconst (v := nI 2) dX10_cheapest_34 (by decide) ?_
  refine ww_icmp_gtN (tgt := 74) dX10_cheapest_35 (by decide) (by omega) (by omega) (fun c35 => ?_) (fun c35 => ?_)
  · exact absurd c35 (by decide)
  · refine ww_aload_n dX10_cheapest_38 rfl rfl ?_
    refine ww_get 1 dX10_cheapest_39 (hC1.K0) rfl (by decide) inX10 wg_265 hC1.D1 ?_
    refine ww_aload_n dX10_cheapest_42 rfl rfl ?_
    refine ww_get 3 dX10_cheapest_43 (hC1.K0) rfl (by decide) inX10 wg_267 hC1.D3 ?_
    refine ww_iload_n dX10_cheapest_46 rfl rfl ?_
    refine ww_iload dX10_cheapest_47 rfl ?_
    refine ww_cVq (M := m_X10_cheapest) (pc := 49) (v := .int (fareT f sz kf vf n 1)) (st := []) (bc := 0) (bs := 0) (c_Land_fareT hst hL1 hW1 hok (by omega) n (by omega) 1 (by omega)) vv_X2_fareBy dX10_cheapest_49 wg_866 hL1.1 rfl rfl rfl rfl (Nat.le_of_ble_eq_true rfl) (Nat.le_of_ble_eq_true rfl) (Nat.le_of_ble_eq_true rfl) (Nat.le_of_ble_eq_true rfl) (fun hq2 qq2 => ?_)
    have s2 : Same CX CY h hq2 := s1.tr (qq2.law hC.lw)
    have hC2 := hC.scr s2
    have hL2 := hL.scr hC s2
    have hW2 := hW.scr hC s2
    refine ww_sti (lv2 := [.ref 0, .int (nI n), .int (nI 1), .int (nI 0), .int (fareT f sz kf vf n 0), .int (nI 1), .int (fareT f sz kf vf n 1)]) dX10_cheapest_52 rfl (by decide) rfl ?_
    refine ww_iload dX10_cheapest_54 rfl ?_
    refine ww_iload dX10_cheapest_56 rfl ?_
    refine ww_icmp_ge (tgt := 68) dX10_cheapest_58 (by decide) (fun c58 => ?_) (fun c58 => ?_)
    · have e1 := c58
      refine ww_incN (c := 1) (lv2 := [.ref 0, .int (nI n), .int (nI 1), .int (nI 0), .int (fareT f sz kf vf n 0), .int (nI 2), .int (fareT f sz kf vf n 1)]) dX10_cheapest_68 rfl rfl rfl (by decide) rfl ?_
      refine ww_goto (tgt := 32) dX10_cheapest_71 (by decide) ?_
      refine ww_iload dX10_cheapest_32 rfl ?_
      refine ww_iconst (v := nI 2) dX10_cheapest_34 (by decide) ?_
      refine ww_icmp_gtN (tgt := 74) dX10_cheapest_35 (by decide) (by omega) (by omega) (fun c35 => ?_) (fun c35 => ?_)
      · exact absurd c35 (by decide)
      · refine ww_aload_n dX10_cheapest_38 rfl rfl ?_
        refine ww_get 1 dX10_cheapest_39 (hC2.K0) rfl (by decide) inX10 wg_265 hC2.D1 ?_
        refine ww_aload_n dX10_cheapest_42 rfl rfl ?_
        refine ww_get 3 dX10_cheapest_43 (hC2.K0) rfl (by decide) inX10 wg_267 hC2.D3 ?_
        refine ww_iload_n dX10_cheapest_46 rfl rfl ?_
        refine ww_iload dX10_cheapest_47 rfl ?_
        refine ww_cVq (M := m_X10_cheapest) (pc := 49) (v := .int (fareT f sz kf vf n 2)) (st := []) (bc := 0) (bs := 0) (c_Land_fareT hst hL2 hW2 hok (by omega) n (by omega) 2 (by omega)) vv_X2_fareBy dX10_cheapest_49 wg_866 hL2.1 rfl rfl rfl rfl (Nat.le_of_ble_eq_true rfl) (Nat.le_of_ble_eq_true rfl) (Nat.le_of_ble_eq_true rfl) (Nat.le_of_ble_eq_true rfl) (fun hq3 qq3 => ?_)
        have s3 : Same CX CY h hq3 := s2.tr (qq3.law hC.lw)
        have hC3 := hC.scr s3
        have hL3 := hL.scr hC s3
        have hW3 := hW.scr hC s3
        refine ww_sti (lv2 := [.ref 0, .int (nI n), .int (nI 1), .int (nI 0), .int (fareT f sz kf vf n 0), .int (nI 2), .int (fareT f sz kf vf n 2)]) dX10_cheapest_52 rfl (by decide) rfl ?_
        refine ww_iload dX10_cheapest_54 rfl ?_
        refine ww_iload dX10_cheapest_56 rfl ?_
        refine ww_icmp_ge (tgt := 68) dX10_cheapest_58 (by decide) (fun c58 => ?_) (fun c58 => ?_)
        · have e2 := c58
          refine ww_incN (c := 1) (lv2 := [.ref 0, .int (nI n), .int (nI 1), .int (nI 0), .int (fareT f sz kf vf n 0), .int (nI 3), .int (fareT f sz kf vf n 2)]) dX10_cheapest_68 rfl rfl rfl (by decide) rfl ?_
          refine ww_goto (tgt := 32) dX10_cheapest_71 (by decide) ?_
          refine ww_iload dX10_cheapest_32 rfl ?_
          refine ww_iconst (v := nI 2) dX10_cheapest_34 (by decide) ?_
          refine ww_icmp_gtN (tgt := 74) dX10_cheapest_35 (by decide) (by omega) (by omega) (fun c35 => ?_) (fun c35 => ?_)
          · refine ww_iload_n dX10_cheapest_74 rfl rfl ?_
            refine ww_if_neN (tgt := 82) dX10_cheapest_75 (by decide) (by omega) (fun c75 => ?_) (fun c75 => ?_)
            · refine ww_iload dX10_cheapest_82 rfl ?_
              exact ww_iret dX10_cheapest_84 rfl ⟨by simp only [← Int32.not_lt, Classical.not_not] at e1 e2; simp [chW, e1, e2], s3⟩
            · exact absurd c75 (by decide)
          · exact absurd c35 (by decide)
        · refine ww_iload dX10_cheapest_61 rfl ?_
          refine ww_sti (lv2 := [.ref 0, .int (nI n), .int (nI 1), .int (nI 0), .int (fareT f sz kf vf n 2), .int (nI 2), .int (fareT f sz kf vf n 2)]) dX10_cheapest_63 rfl (by decide) rfl ?_
          refine ww_iload dX10_cheapest_65 rfl ?_
          refine ww_sti_n (lv2 := [.ref 0, .int (nI n), .int (nI 1), .int (nI 2), .int (fareT f sz kf vf n 2), .int (nI 2), .int (fareT f sz kf vf n 2)]) dX10_cheapest_67 rfl rfl (by decide) rfl ?_
          have e2 := c58
          refine ww_incN (c := 1) (lv2 := [.ref 0, .int (nI n), .int (nI 1), .int (nI 2), .int (fareT f sz kf vf n 2), .int (nI 3), .int (fareT f sz kf vf n 2)]) dX10_cheapest_68 rfl rfl rfl (by decide) rfl ?_
          refine ww_goto (tgt := 32) dX10_cheapest_71 (by decide) ?_
          refine ww_iload dX10_cheapest_32 rfl ?_
          refine ww_iconst (v := nI 2) dX10_cheapest_34 (by decide) ?_
          refine ww_icmp_gtN (tgt := 74) dX10_cheapest_35 (by decide) (by omega) (by omega) (fun c35 => ?_) (fun c35 => ?_)
          · refine ww_iload_n dX10_cheapest_74 rfl rfl ?_
            refine ww_if_neN (tgt := 82) dX10_cheapest_75 (by decide) (by omega) (fun c75 => ?_) (fun c75 => ?_)
            · refine ww_iload dX10_cheapest_82 rfl ?_
              exact ww_iret dX10_cheapest_84 rfl ⟨by simp only [← Int32.not_lt, Classical.not_not] at e1 e2; simp [chW, e1, e2], s3⟩
            · exact absurd c75 (by decide)
          · exact absurd c35 (by decide)
    · refine ww_iload dX10_cheapest_61 rfl ?_
      refine ww_sti (lv2 := [.ref 0, .int (nI n), .int (nI 1), .int (nI 0), .int (fareT f sz kf vf n 1), .int (nI 1), .int (fareT f sz kf vf n 1)]) dX10_cheapest_63 rfl (by decide) rfl ?_
      refine ww_iload dX10_cheapest_65 rfl ?_
      refine ww_sti_n (lv2 := [.ref 0, .int (nI n), .int (nI 1), .int (nI 1), .int (fareT f sz kf vf n 1), .int (nI 1), .int (fareT f sz kf vf n 1)]) dX10_cheapest_67 rfl rfl (by decide) rfl ?_
      have e1 := c58
      refine ww_incN (c := 1) (lv2 := [.ref 0, .int (nI n), .int (nI 1), .int (nI 1), .int (fareT f sz kf vf n 1), .int (nI 2), .int (fareT f sz kf vf n 1)]) dX10_cheapest_68 rfl rfl rfl (by decide) rfl ?_
      refine ww_goto (tgt := 32) dX10_cheapest_71 (by decide) ?_
      refine ww_iload dX10_cheapest_32 rfl ?_
      refine ww_iconst (v := nI 2) dX10_cheapest_34 (by decide) ?_
      refine ww_icmp_gtN (tgt := 74) dX10_cheapest_35 (by decide) (by omega) (by omega) (fun c35 => ?_) (fun c35 => ?_)
      · exact absurd c35 (by decide)
      · refine ww_aload_n dX10_cheapest_38 rfl rfl ?_
        refine ww_get 1 dX10_cheapest_39 (hC2.K0) rfl (by decide) inX10 wg_265 hC2.D1 ?_
        refine ww_aload_n dX10_cheapest_42 rfl rfl ?_
        refine ww_get 3 dX10_cheapest_43 (hC2.K0) rfl (by decide) inX10 wg_267 hC2.D3 ?_
        refine ww_iload_n dX10_cheapest_46 rfl rfl ?_
        refine ww_iload dX10_cheapest_47 rfl ?_
        refine ww_cVq (M := m_X10_cheapest) (pc := 49) (v := .int (fareT f sz kf vf n 2)) (st := []) (bc := 0) (bs := 0) (c_Land_fareT hst hL2 hW2 hok (by omega) n (by omega) 2 (by omega)) vv_X2_fareBy dX10_cheapest_49 wg_866 hL2.1 rfl rfl rfl rfl (Nat.le_of_ble_eq_true rfl) (Nat.le_of_ble_eq_true rfl) (Nat.le_of_ble_eq_true rfl) (Nat.le_of_ble_eq_true rfl) (fun hq4 qq4 => ?_)
        have s4 : Same CX CY h hq4 := s2.tr (qq4.law hC.lw)
        have hC4 := hC.scr s4
        have hL4 := hL.scr hC s4
        have hW4 := hW.scr hC s4
        refine ww_sti (lv2 := [.ref 0, .int (nI n), .int (nI 1), .int (nI 1), .int (fareT f sz kf vf n 1), .int (nI 2), .int (fareT f sz kf vf n 2)]) dX10_cheapest_52 rfl (by decide) rfl ?_
        refine ww_iload dX10_cheapest_54 rfl ?_
        refine ww_iload dX10_cheapest_56 rfl ?_
        refine ww_icmp_ge (tgt := 68) dX10_cheapest_58 (by decide) (fun c58 => ?_) (fun c58 => ?_)
        · have e2 := c58
          refine ww_incN (c := 1) (lv2 := [.ref 0, .int (nI n), .int (nI 1), .int (nI 1), .int (fareT f sz kf vf n 1), .int (nI 3), .int (fareT f sz kf vf n 2)]) dX10_cheapest_68 rfl rfl rfl (by decide) rfl ?_
          refine ww_goto (tgt := 32) dX10_cheapest_71 (by decide) ?_
          refine ww_iload dX10_cheapest_32 rfl ?_
          refine ww_iconst (v := nI 2) dX10_cheapest_34 (by decide) ?_
          refine ww_icmp_gtN (tgt := 74) dX10_cheapest_35 (by decide) (by omega) (by omega) (fun c35 => ?_) (fun c35 => ?_)
          · refine ww_iload_n dX10_cheapest_74 rfl rfl ?_
            refine ww_if_neN (tgt := 82) dX10_cheapest_75 (by decide) (by omega) (fun c75 => ?_) (fun c75 => ?_)
            · refine ww_iload dX10_cheapest_82 rfl ?_
              exact ww_iret dX10_cheapest_84 rfl ⟨by simp only [← Int32.not_lt, Classical.not_not] at e1 e2; simp [chW, e1, e2], s4⟩
            · exact absurd c75 (by decide)
          · exact absurd c35 (by decide)
        · refine ww_iload dX10_cheapest_61 rfl ?_
          refine ww_sti (lv2 := [.ref 0, .int (nI n), .int (nI 1), .int (nI 1), .int (fareT f sz kf vf n 2), .int (nI 2), .int (fareT f sz kf vf n 2)]) dX10_cheapest_63 rfl (by decide) rfl ?_
          refine ww_iload dX10_cheapest_65 rfl ?_
          refine ww_sti_n (lv2 := [.ref 0, .int (nI n), .int (nI 1), .int (nI 2), .int (fareT f sz kf vf n 2), .int (nI 2), .int (fareT f sz kf vf n 2)]) dX10_cheapest_67 rfl rfl (by decide) rfl ?_
          have e2 := c58
          refine ww_incN (c := 1) (lv2 := [.ref 0, .int (nI n), .int (nI 1), .int (nI 2), .int (fareT f sz kf vf n 2), .int (nI 3), .int (fareT f sz kf vf n 2)]) dX10_cheapest_68 rfl rfl rfl (by decide) rfl ?_
          refine ww_goto (tgt := 32) dX10_cheapest_71 (by decide) ?_
          refine ww_iload dX10_cheapest_32 rfl ?_
          refine ww_iconst (v := nI 2) dX10_cheapest_34 (by decide) ?_
          refine ww_icmp_gtN (tgt := 74) dX10_cheapest_35 (by decide) (by omega) (by omega) (fun c35 => ?_) (fun c35 => ?_)
          · refine ww_iload_n dX10_cheapest_74 rfl rfl ?_
            refine ww_if_neN (tgt := 82) dX10_cheapest_75 (by decide) (by omega) (fun c75 => ?_) (fun c75 => ?_)
            · refine ww_iload dX10_cheapest_82 rfl ?_
              exact ww_iret dX10_cheapest_84 rfl ⟨by simp only [← Int32.not_lt, Classical.not_not] at e1 e2; simp [chW, e1, e2], s4⟩
            · exact absurd c75 (by decide)
          · exact absurd c35 (by decide)
set_option maxHeartbeats 4000000 in
set_option maxRecDepth 100000 in
theorem c_K_cheapest_no0 {l : Launch} {Z : EE} (hst : l.stackTraces = false) {h : PH} {la lw bk : Nat} (hC : CL h la lw bk) {np du : Nat} {f : Nat → Int32} (hL : LandAt h la np du f) {sz : Nat} {kf vf : Nat → Int32} (hW : LawAt h lw sz kf vf) (hok : LawOK kf vf sz) {mi : Int32} (hmi : hp_F h 0 12 = .int mi) (n : Int32) (w : Int32) (hout : outR 0 60 n) : CC l Z m_X10_cheapest 7 1 6 [.ref 0, .int n, .int w] h (TH nsX (hp_sF h 0 12 (.int (mi + nI 1)))) := by
  refine ee_entry hst (by decide +kernel) rfl rfl (by simp [Value.category]) (Nat.le_of_ble_eq_true rfl) ?_
  refine ww_lv (lv2 := [.ref 0, .int n, .int w, UU, UU, UU, UU]) rfl ?_
  have hla := hC.la
  have hlw := hC.lw
  have hbk := hC.bk
  refine ww_aload_n dX10_cheapest_0 rfl rfl ?_
  refine ww_iload_n dX10_cheapest_1 rfl rfl ?_
  exact ww_cVt (M := m_X10_cheapest) (pc := 2) (st := []) (bc := 0) (bs := 0) (c_needNumber_f hst hC.K0 hmi n hout) vv_X10_needNumber dX10_cheapest_2 wg_847 (hC.K0) rfl rfl rfl rfl (Nat.le_of_ble_eq_true rfl) (Nat.le_of_ble_eq_true rfl) (Nat.le_of_ble_eq_true rfl) (Nat.le_of_ble_eq_true rfl) ⟨rfl, rfl⟩
set_option maxHeartbeats 4000000 in
set_option maxRecDepth 100000 in
theorem c_K_cheapest_no1 {l : Launch} {Z : EE} (hst : l.stackTraces = false) {h : PH} {la lw bk : Nat} (hC : CL h la lw bk) {np du : Nat} {f : Nat → Int32} (hL : LandAt h la np du f) {sz : Nat} {kf vf : Nat → Int32} (hW : LawAt h lw sz kf vf) (hok : LawOK kf vf sz) {wr : Int32} (hwr : hp_F h 0 13 = .int wr) (n : Nat) (hn : n ≤ 60) (w : Int32) (hout : ¬ (nI 0 ≤ w ∧ w ≤ nI 1)) : CC l Z m_X10_cheapest 7 1 6 [.ref 0, .int (nI n), .int w] h (TH iaX (hp_sF h 0 13 (.int (wr + nI 1)))) := by
  refine ee_entry hst (by decide +kernel) rfl rfl (by simp [Value.category]) (Nat.le_of_ble_eq_true rfl) ?_
  refine ww_lv (lv2 := [.ref 0, .int (nI n), .int w, UU, UU, UU, UU]) rfl ?_
  have hla := hC.la
  have hlw := hC.lw
  have hbk := hC.bk
  refine ww_aload_n dX10_cheapest_0 rfl rfl ?_
  refine ww_iload_n dX10_cheapest_1 rfl rfl ?_
  refine ww_cV0 (M := m_X10_cheapest) (pc := 2) (h1 := h) (st := []) (bc := 1) (bs := 6) (c_needNumber_t hst hC.K0 n hn) vv_X10_needNumber dX10_cheapest_2 wg_847 (hC.K0) rfl rfl rfl rfl (Nat.le_of_ble_eq_true rfl) (Nat.le_of_ble_eq_true rfl) (Nat.le_of_ble_eq_true rfl) (Nat.le_of_ble_eq_true rfl) ?_
  refine ww_aload_n dX10_cheapest_5 rfl rfl ?_
  refine ww_iload_n dX10_cheapest_6 rfl rfl ?_
  refine ww_iconst (v := nI 0) dX10_cheapest_7 (by decide) ?_
  refine ww_iconst (v := nI 1) dX10_cheapest_8 (by decide) ?_
  exact ww_cVt (M := m_X10_cheapest) (pc := 9) (st := []) (bc := 0) (bs := 0) (c_within_f hst hC.K0 hwr w (nI 0) (nI 1) hout) vv_X10_within dX10_cheapest_9 wg_410 (hC.K0) rfl rfl rfl rfl (Nat.le_of_ble_eq_true rfl) (Nat.le_of_ble_eq_true rfl) (Nat.le_of_ble_eq_true rfl) (Nat.le_of_ble_eq_true rfl) ⟨rfl, rfl⟩
set_option maxHeartbeats 4000000 in
set_option maxRecDepth 100000 in
theorem l_K_dearest {l : Launch} {Z : EE} (hst : l.stackTraces = false) {h : PH} {la lw bk : Nat} (hC : CL h la lw bk) {g : Nat → Int32} (hg : hp_I h 29 = g) (a b : Nat) (hab : a ≤ b) (hb : b ≤ 60) (w : Int32) {Post : Res → PH → Prop} : ∀ (j k : Nat), k + j = b - a + 1 → WW l Z m_X10_dearest 5 0 0 93 [.ref 0, .int (nI a), .int (nI b), .int w, .int (nI ((deF g a ((b - a + 1))).1)), .int ((deF g a ((b - a + 1))).2), .int (nI (a + ((b - a + 1))))] [] h Post → WW l Z m_X10_dearest 5 0 0 48 [.ref 0, .int (nI a), .int (nI b), .int w, .int (nI ((deF g a k).1)), .int ((deF g a k).2), .int (nI (a + k))] [] h Post := by
  intro j
  induction j with
  | zero =>
    intro k hk hex
    refine ww_iload dX10_dearest_48 rfl ?_
    refine ww_iload_n dX10_dearest_50 rfl rfl ?_
    refine ww_icmp_gtN (tgt := 93) dX10_dearest_51 (by decide) (by omega) (by omega) (fun c51 => ?_) (fun c51 => ?_)
    · have hk9 : k = b - a + 1 := by omega
      subst hk9
      exact hex
    · exfalso; omega
  | succ j ih =>
    intro k hk hex
    have hle := deF_le g a k
    refine ww_iload dX10_dearest_48 rfl ?_
    refine ww_iload_n dX10_dearest_50 rfl rfl ?_
    refine ww_icmp_gtN (tgt := 93) dX10_dearest_51 (by decide) (by omega) (by omega) (fun c51 => ?_) (fun c51 => ?_)
    · exfalso; omega
    · refine ww_iload dX10_dearest_54 rfl ?_
      refine ww_aload_n dX10_dearest_56 rfl rfl ?_
      refine ww_get 14 dX10_dearest_57 (hC.K0) rfl (by decide) inX10 wg_278 (hC.R0_14) ?_
      refine ww_iload dX10_dearest_60 rfl ?_
      refine ww_ialdF dX10_dearest_62 (hC.K29) hg (by omega) (by omega) ?_
      refine ww_iadd dX10_dearest_63 ?_
      refine ww_sti (lv2 := [.ref 0, .int (nI a), .int (nI b), .int w, .int (nI ((deF g a k).1)), .int (((deF g a k).2) + (g (a + k))), .int (nI (a + k))]) dX10_dearest_64 rfl (by decide) rfl ?_
      refine ww_aload_n dX10_dearest_66 rfl rfl ?_
      refine ww_get 14 dX10_dearest_67 (hC.K0) rfl (by decide) inX10 wg_278 (hC.R0_14) ?_
      refine ww_iload dX10_dearest_70 rfl ?_
      refine ww_ialdF dX10_dearest_72 (hC.K29) hg (by omega) (by omega) ?_
      refine ww_aload_n dX10_dearest_73 rfl rfl ?_
      refine ww_get 14 dX10_dearest_74 (hC.K0) rfl (by decide) inX10 wg_278 (hC.R0_14) ?_
      refine ww_iload dX10_dearest_77 rfl ?_
      refine ww_ialdF dX10_dearest_79 (hC.K29) hg (by omega) (by omega) ?_
      refine ww_icmp_le (tgt := 87) dX10_dearest_80 (by decide) (fun c80 => ?_) (fun c80 => ?_)
      · refine ww_incN (c := 1) (lv2 := [.ref 0, .int (nI a), .int (nI b), .int w, .int (nI ((deF g a k).1)), .int (((deF g a k).2) + (g (a + k))), .int (nI (a + k + 1))]) dX10_dearest_87 rfl rfl rfl (by decide) rfl ?_
        refine ww_goto (tgt := 48) dX10_dearest_90 (by decide) ?_
        refine ww_lv (lv2 := [.ref 0, .int (nI a), .int (nI b), .int w, .int (nI ((deF g a ((k + 1))).1)), .int ((deF g a ((k + 1))).2), .int (nI (a + ((k + 1))))]) (by simp only [← Int32.not_lt, Classical.not_not] at c80; simp [deF, c80, Nat.add_assoc]) ?_
        exact ih (k + 1) (by omega) hex
      · refine ww_iload dX10_dearest_83 rfl ?_
        refine ww_sti (lv2 := [.ref 0, .int (nI a), .int (nI b), .int w, .int (nI (a + k)), .int (((deF g a k).2) + (g (a + k))), .int (nI (a + k))]) dX10_dearest_85 rfl (by decide) rfl ?_
        refine ww_incN (c := 1) (lv2 := [.ref 0, .int (nI a), .int (nI b), .int w, .int (nI (a + k)), .int (((deF g a k).2) + (g (a + k))), .int (nI (a + k + 1))]) dX10_dearest_87 rfl rfl rfl (by decide) rfl ?_
        refine ww_goto (tgt := 48) dX10_dearest_90 (by decide) ?_
        refine ww_lv (lv2 := [.ref 0, .int (nI a), .int (nI b), .int w, .int (nI ((deF g a ((k + 1))).1)), .int ((deF g a ((k + 1))).2), .int (nI (a + ((k + 1))))]) (by simp only [← Int32.not_lt, Classical.not_not] at c80; simp [deF, c80, Nat.add_assoc]) ?_
        exact ih (k + 1) (by omega) hex
set_option maxHeartbeats 4000000 in
set_option maxRecDepth 100000 in
theorem c_K_dearest0 {l : Launch} {Z : EE} (hst : l.stackTraces = false) {h : PH} {la lw bk : Nat} (hC : CL h la lw bk) {np du : Nat} {f : Nat → Int32} (hL : LandAt h la np du f) {sz : Nat} {kf vf : Nat → Int32} (hW : LawAt h lw sz kf vf) (hok : LawOK kf vf sz) (a b : Nat) (hab : a ≤ b) (hb : b ≤ 60) : CC l Z m_X10_dearest 5 0 0 [.ref 0, .int (nI a), .int (nI b), .int (nI 0)] h (COk (nI (deF (fun i => fareT f sz kf vf i 1) a (b - a + 1)).1) h) := by
  refine ee_entry hst (by decide +kernel) rfl rfl (by simp [Value.category]) (Nat.le_of_ble_eq_true rfl) ?_
  refine ww_lv (lv2 := [.ref 0, .int (nI a), .int (nI b), .int (nI 0), UU, UU, UU]) rfl ?_
  have hla := hC.la
  have hlw := hC.lw
  have hbk := hC.bk
  refine ww_aload_n dX10_dearest_0 rfl rfl ?_
  refine ww_iload_n dX10_dearest_1 rfl rfl ?_
  refine ww_iconst (v := nI 0) dX10_dearest_2 (by decide) ?_
  refine ww_bipush (v := nI 60) dX10_dearest_3 (by decide) ?_
  refine ww_cV0 (M := m_X10_dearest) (pc := 5) (h1 := h) (st := []) (bc := 0) (bs := 0) (c_within_t hst (nI a) (nI 0) (nI 60) (nI_le (by omega) (by omega)) (nI_le (by omega) (by omega)) _) vv_X10_within dX10_dearest_5 wg_410 (hC.K0) rfl rfl rfl rfl (Nat.le_of_ble_eq_true rfl) (Nat.le_of_ble_eq_true rfl) (Nat.le_of_ble_eq_true rfl) (Nat.le_of_ble_eq_true rfl) ?_
  refine ww_aload_n dX10_dearest_8 rfl rfl ?_
  refine ww_iload_n dX10_dearest_9 rfl rfl ?_
  refine ww_iload_n dX10_dearest_10 rfl rfl ?_
  refine ww_bipush (v := nI 60) dX10_dearest_11 (by decide) ?_
  refine ww_cV0 (M := m_X10_dearest) (pc := 13) (h1 := h) (st := []) (bc := 0) (bs := 0) (c_within_t hst (nI b) (nI a) (nI 60) (nI_le (by omega) (by omega)) (nI_le (by omega) (by omega)) _) vv_X10_within dX10_dearest_13 wg_410 (hC.K0) rfl rfl rfl rfl (Nat.le_of_ble_eq_true rfl) (Nat.le_of_ble_eq_true rfl) (Nat.le_of_ble_eq_true rfl) (Nat.le_of_ble_eq_true rfl) ?_
  refine ww_aload_n dX10_dearest_16 rfl rfl ?_
  refine ww_iload_n dX10_dearest_17 rfl rfl ?_
  refine ww_iconst (v := nI 0) dX10_dearest_18 (by decide) ?_
  refine ww_iconst (v := nI 2) dX10_dearest_19 (by decide) ?_
  refine ww_cV0 (M := m_X10_dearest) (pc := 20) (h1 := h) (st := []) (bc := 0) (bs := 0) (c_within_t hst (nI 0) (nI 0) (nI 2) (by decide) (by decide) _) vv_X10_within dX10_dearest_20 wg_410 (hC.K0) rfl rfl rfl rfl (Nat.le_of_ble_eq_true rfl) (Nat.le_of_ble_eq_true rfl) (Nat.le_of_ble_eq_true rfl) (Nat.le_of_ble_eq_true rfl) ?_
  refine ww_aload_n dX10_dearest_23 rfl rfl ?_
  refine ww_get 1 dX10_dearest_24 (hC.K0) rfl (by decide) inX10 wg_265 hC.D1 ?_
  refine ww_aload_n dX10_dearest_27 rfl rfl ?_
  refine ww_get 3 dX10_dearest_28 (hC.K0) rfl (by decide) inX10 wg_267 hC.D3 ?_
  refine ww_iconst (v := nI 1) dX10_dearest_31 (by decide) ?_
  refine ww_aload_n dX10_dearest_32 rfl rfl ?_
  refine ww_get 14 dX10_dearest_33 (hC.K0) rfl (by decide) inX10 wg_278 (hC.R0_14) ?_
  refine ww_cVq0 (M := m_X10_dearest) (pc := 36) (st := []) (bc := 0) (bs := 0) (c_Land_faresT hst hC hL hW hok 29 (by exact hC.K29) (by omega) 1 (by omega)) vv_X2_faresBy dX10_dearest_36 wg_1013 hL.1 rfl rfl rfl rfl (Nat.le_of_ble_eq_true rfl) (Nat.le_of_ble_eq_true rfl) (Nat.le_of_ble_eq_true rfl) (Nat.le_of_ble_eq_true rfl) (fun hq1 qq1 => ?_)
  have s1 : Same CX CY h hq1 := qq1.1.fares (by omega)
  have hC1 := hC.scr s1
  have hL1 := hL.scr hC s1
  have hW1 := hW.scr hC s1
  refine ww_iload_n dX10_dearest_39 rfl rfl ?_
  refine ww_sti (lv2 := [.ref 0, .int (nI a), .int (nI b), .int (nI 0), .int (nI a), UU, UU]) dX10_dearest_40 rfl (by decide) rfl ?_
  refine ww_iconst (v := nI 0) dX10_dearest_42 (by decide) ?_
  refine ww_sti (lv2 := [.ref 0, .int (nI a), .int (nI b), .int (nI 0), .int (nI a), .int (nI 0), UU]) dX10_dearest_43 rfl (by decide) rfl ?_
  refine ww_iload_n dX10_dearest_45 rfl rfl ?_
  refine ww_sti (lv2 := [.ref 0, .int (nI a), .int (nI b), .int (nI 0), .int (nI a), .int (nI 0), .int (nI a)]) dX10_dearest_46 rfl (by decide) rfl ?_
  generalize hge : hp_I hq1 29 = g
  have hgc : ∀ i, i < a + (b - a + 1) → g i = (fun i => fareT f sz kf vf i 1) i := fun i hi => by rw [← hge]; exact qq1.2 i (by omega)
  have hde := deF_congr (c := fun i => fareT f sz kf vf i 1) (b - a + 1) hgc (fun _ => by omega)
  have hlt := deF_lt g a (b - a)
  refine ww_lv (lv2 := [.ref 0, .int (nI a), .int (nI b), .int (nI 0), .int (nI ((deF g a 0).1)), .int ((deF g a 0).2), .int (nI (a + 0))]) (by simp [deF, nI_0]) ?_
  refine l_K_dearest hst hC1 hge a b (by omega) (by omega) (nI 0) (b - a + 1) 0 (by omega) ?_
  refine ww_iload_n dX10_dearest_93 rfl rfl ?_
  refine ww_lookup (off := 26) (tgt := 120) dX10_dearest_94 (by decide) (by decide) (by decide) ?_
  refine ww_iload dX10_dearest_120 rfl ?_
  exact ww_iret dX10_dearest_122 rfl ⟨by rw [hde], s1⟩
set_option maxHeartbeats 4000000 in
set_option maxRecDepth 100000 in
theorem c_K_dearest1 {l : Launch} {Z : EE} (hst : l.stackTraces = false) {h : PH} {la lw bk : Nat} (hC : CL h la lw bk) {np du : Nat} {f : Nat → Int32} (hL : LandAt h la np du f) {sz : Nat} {kf vf : Nat → Int32} (hW : LawAt h lw sz kf vf) (hok : LawOK kf vf sz) (a b : Nat) (hab : a ≤ b) (hb : b ≤ 60) : CC l Z m_X10_dearest 5 0 0 [.ref 0, .int (nI a), .int (nI b), .int (nI 1)] h (COk (fareT f sz kf vf (deF (fun i => fareT f sz kf vf i 1) a (b - a + 1)).1 1) h) := by
  refine ee_entry hst (by decide +kernel) rfl rfl (by simp [Value.category]) (Nat.le_of_ble_eq_true rfl) ?_
  refine ww_lv (lv2 := [.ref 0, .int (nI a), .int (nI b), .int (nI 1), UU, UU, UU]) rfl ?_
  have hla := hC.la
  have hlw := hC.lw
  have hbk := hC.bk
  refine ww_aload_n dX10_dearest_0 rfl rfl ?_
  refine ww_iload_n dX10_dearest_1 rfl rfl ?_
  refine ww_iconst (v := nI 0) dX10_dearest_2 (by decide) ?_
  refine ww_bipush (v := nI 60) dX10_dearest_3 (by decide) ?_
  refine ww_cV0 (M := m_X10_dearest) (pc := 5) (h1 := h) (st := []) (bc := 0) (bs := 0) (c_within_t hst (nI a) (nI 0) (nI 60) (nI_le (by omega) (by omega)) (nI_le (by omega) (by omega)) _) vv_X10_within dX10_dearest_5 wg_410 (hC.K0) rfl rfl rfl rfl (Nat.le_of_ble_eq_true rfl) (Nat.le_of_ble_eq_true rfl) (Nat.le_of_ble_eq_true rfl) (Nat.le_of_ble_eq_true rfl) ?_
  refine ww_aload_n dX10_dearest_8 rfl rfl ?_
  refine ww_iload_n dX10_dearest_9 rfl rfl ?_
  refine ww_iload_n dX10_dearest_10 rfl rfl ?_
  refine ww_bipush (v := nI 60) dX10_dearest_11 (by decide) ?_
  refine ww_cV0 (M := m_X10_dearest) (pc := 13) (h1 := h) (st := []) (bc := 0) (bs := 0) (c_within_t hst (nI b) (nI a) (nI 60) (nI_le (by omega) (by omega)) (nI_le (by omega) (by omega)) _) vv_X10_within dX10_dearest_13 wg_410 (hC.K0) rfl rfl rfl rfl (Nat.le_of_ble_eq_true rfl) (Nat.le_of_ble_eq_true rfl) (Nat.le_of_ble_eq_true rfl) (Nat.le_of_ble_eq_true rfl) ?_
  refine ww_aload_n dX10_dearest_16 rfl rfl ?_
  refine ww_iload_n dX10_dearest_17 rfl rfl ?_
  refine ww_iconst (v := nI 0) dX10_dearest_18 (by decide) ?_
  refine ww_iconst (v := nI 2) dX10_dearest_19 (by decide) ?_
  refine ww_cV0 (M := m_X10_dearest) (pc := 20) (h1 := h) (st := []) (bc := 0) (bs := 0) (c_within_t hst (nI 1) (nI 0) (nI 2) (by decide) (by decide) _) vv_X10_within dX10_dearest_20 wg_410 (hC.K0) rfl rfl rfl rfl (Nat.le_of_ble_eq_true rfl) (Nat.le_of_ble_eq_true rfl) (Nat.le_of_ble_eq_true rfl) (Nat.le_of_ble_eq_true rfl) ?_
  refine ww_aload_n dX10_dearest_23 rfl rfl ?_
  refine ww_get 1 dX10_dearest_24 (hC.K0) rfl (by decide) inX10 wg_265 hC.D1 ?_
  refine ww_aload_n dX10_dearest_27 rfl rfl ?_
  refine ww_get 3 dX10_dearest_28 (hC.K0) rfl (by decide) inX10 wg_267 hC.D3 ?_
  refine ww_iconst (v := nI 1) dX10_dearest_31 (by decide) ?_
  refine ww_aload_n dX10_dearest_32 rfl rfl ?_
  refine ww_get 14 dX10_dearest_33 (hC.K0) rfl (by decide) inX10 wg_278 (hC.R0_14) ?_
  refine ww_cVq0 (M := m_X10_dearest) (pc := 36) (st := []) (bc := 0) (bs := 0) (c_Land_faresT hst hC hL hW hok 29 (by exact hC.K29) (by omega) 1 (by omega)) vv_X2_faresBy dX10_dearest_36 wg_1013 hL.1 rfl rfl rfl rfl (Nat.le_of_ble_eq_true rfl) (Nat.le_of_ble_eq_true rfl) (Nat.le_of_ble_eq_true rfl) (Nat.le_of_ble_eq_true rfl) (fun hq1 qq1 => ?_)
  have s1 : Same CX CY h hq1 := qq1.1.fares (by omega)
  have hC1 := hC.scr s1
  have hL1 := hL.scr hC s1
  have hW1 := hW.scr hC s1
  refine ww_iload_n dX10_dearest_39 rfl rfl ?_
  refine ww_sti (lv2 := [.ref 0, .int (nI a), .int (nI b), .int (nI 1), .int (nI a), UU, UU]) dX10_dearest_40 rfl (by decide) rfl ?_
  refine ww_iconst (v := nI 0) dX10_dearest_42 (by decide) ?_
  refine ww_sti (lv2 := [.ref 0, .int (nI a), .int (nI b), .int (nI 1), .int (nI a), .int (nI 0), UU]) dX10_dearest_43 rfl (by decide) rfl ?_
  refine ww_iload_n dX10_dearest_45 rfl rfl ?_
  refine ww_sti (lv2 := [.ref 0, .int (nI a), .int (nI b), .int (nI 1), .int (nI a), .int (nI 0), .int (nI a)]) dX10_dearest_46 rfl (by decide) rfl ?_
  generalize hge : hp_I hq1 29 = g
  have hgc : ∀ i, i < a + (b - a + 1) → g i = (fun i => fareT f sz kf vf i 1) i := fun i hi => by rw [← hge]; exact qq1.2 i (by omega)
  have hde := deF_congr (c := fun i => fareT f sz kf vf i 1) (b - a + 1) hgc (fun _ => by omega)
  have hlt := deF_lt g a (b - a)
  refine ww_lv (lv2 := [.ref 0, .int (nI a), .int (nI b), .int (nI 1), .int (nI ((deF g a 0).1)), .int ((deF g a 0).2), .int (nI (a + 0))]) (by simp [deF, nI_0]) ?_
  refine l_K_dearest hst hC1 hge a b (by omega) (by omega) (nI 1) (b - a + 1) 0 (by omega) ?_
  refine ww_iload_n dX10_dearest_93 rfl rfl ?_
  refine ww_lookup (off := 29) (tgt := 123) dX10_dearest_94 (by decide) (by decide) (by decide) ?_
  refine ww_aload_n dX10_dearest_123 rfl rfl ?_
  refine ww_get 14 dX10_dearest_124 (hC1.K0) rfl (by decide) inX10 wg_278 (hC1.R0_14) ?_
  refine ww_iload dX10_dearest_127 rfl ?_
  refine ww_ialdF dX10_dearest_129 (hC1.K29) hge (by omega) (by omega) ?_
  exact ww_iret dX10_dearest_130 rfl ⟨by rw [← hde]; rw [hgc _ (by omega)], s1⟩
set_option maxHeartbeats 4000000 in
set_option maxRecDepth 100000 in
theorem c_K_dearest2 {l : Launch} {Z : EE} (hst : l.stackTraces = false) {h : PH} {la lw bk : Nat} (hC : CL h la lw bk) {np du : Nat} {f : Nat → Int32} (hL : LandAt h la np du f) {sz : Nat} {kf vf : Nat → Int32} (hW : LawAt h lw sz kf vf) (hok : LawOK kf vf sz) (a b : Nat) (hab : a ≤ b) (hb : b ≤ 60) : CC l Z m_X10_dearest 5 0 0 [.ref 0, .int (nI a), .int (nI b), .int (nI 2)] h (COk ((deF (fun i => fareT f sz kf vf i 1) a (b - a + 1)).2) h) := by
  refine ee_entry hst (by decide +kernel) rfl rfl (by simp [Value.category]) (Nat.le_of_ble_eq_true rfl) ?_
  refine ww_lv (lv2 := [.ref 0, .int (nI a), .int (nI b), .int (nI 2), UU, UU, UU]) rfl ?_
  have hla := hC.la
  have hlw := hC.lw
  have hbk := hC.bk
  refine ww_aload_n dX10_dearest_0 rfl rfl ?_
  refine ww_iload_n dX10_dearest_1 rfl rfl ?_
  refine ww_iconst (v := nI 0) dX10_dearest_2 (by decide) ?_
  refine ww_bipush (v := nI 60) dX10_dearest_3 (by decide) ?_
  refine ww_cV0 (M := m_X10_dearest) (pc := 5) (h1 := h) (st := []) (bc := 0) (bs := 0) (c_within_t hst (nI a) (nI 0) (nI 60) (nI_le (by omega) (by omega)) (nI_le (by omega) (by omega)) _) vv_X10_within dX10_dearest_5 wg_410 (hC.K0) rfl rfl rfl rfl (Nat.le_of_ble_eq_true rfl) (Nat.le_of_ble_eq_true rfl) (Nat.le_of_ble_eq_true rfl) (Nat.le_of_ble_eq_true rfl) ?_
  refine ww_aload_n dX10_dearest_8 rfl rfl ?_
  refine ww_iload_n dX10_dearest_9 rfl rfl ?_
  refine ww_iload_n dX10_dearest_10 rfl rfl ?_
  refine ww_bipush (v := nI 60) dX10_dearest_11 (by decide) ?_
  refine ww_cV0 (M := m_X10_dearest) (pc := 13) (h1 := h) (st := []) (bc := 0) (bs := 0) (c_within_t hst (nI b) (nI a) (nI 60) (nI_le (by omega) (by omega)) (nI_le (by omega) (by omega)) _) vv_X10_within dX10_dearest_13 wg_410 (hC.K0) rfl rfl rfl rfl (Nat.le_of_ble_eq_true rfl) (Nat.le_of_ble_eq_true rfl) (Nat.le_of_ble_eq_true rfl) (Nat.le_of_ble_eq_true rfl) ?_
  refine ww_aload_n dX10_dearest_16 rfl rfl ?_
  refine ww_iload_n dX10_dearest_17 rfl rfl ?_
  refine ww_iconst (v := nI 0) dX10_dearest_18 (by decide) ?_
  refine ww_iconst (v := nI 2) dX10_dearest_19 (by decide) ?_
  refine ww_cV0 (M := m_X10_dearest) (pc := 20) (h1 := h) (st := []) (bc := 0) (bs := 0) (c_within_t hst (nI 2) (nI 0) (nI 2) (by decide) (by decide) _) vv_X10_within dX10_dearest_20 wg_410 (hC.K0) rfl rfl rfl rfl (Nat.le_of_ble_eq_true rfl) (Nat.le_of_ble_eq_true rfl) (Nat.le_of_ble_eq_true rfl) (Nat.le_of_ble_eq_true rfl) ?_
  refine ww_aload_n dX10_dearest_23 rfl rfl ?_
  refine ww_get 1 dX10_dearest_24 (hC.K0) rfl (by decide) inX10 wg_265 hC.D1 ?_
  refine ww_aload_n dX10_dearest_27 rfl rfl ?_
  refine ww_get 3 dX10_dearest_28 (hC.K0) rfl (by decide) inX10 wg_267 hC.D3 ?_
  refine ww_iconst (v := nI 1) dX10_dearest_31 (by decide) ?_
  refine ww_aload_n dX10_dearest_32 rfl rfl ?_
  refine ww_get 14 dX10_dearest_33 (hC.K0) rfl (by decide) inX10 wg_278 (hC.R0_14) ?_
  refine ww_cVq0 (M := m_X10_dearest) (pc := 36) (st := []) (bc := 0) (bs := 0) (c_Land_faresT hst hC hL hW hok 29 (by exact hC.K29) (by omega) 1 (by omega)) vv_X2_faresBy dX10_dearest_36 wg_1013 hL.1 rfl rfl rfl rfl (Nat.le_of_ble_eq_true rfl) (Nat.le_of_ble_eq_true rfl) (Nat.le_of_ble_eq_true rfl) (Nat.le_of_ble_eq_true rfl) (fun hq1 qq1 => ?_)
  have s1 : Same CX CY h hq1 := qq1.1.fares (by omega)
  have hC1 := hC.scr s1
  have hL1 := hL.scr hC s1
  have hW1 := hW.scr hC s1
  refine ww_iload_n dX10_dearest_39 rfl rfl ?_
  refine ww_sti (lv2 := [.ref 0, .int (nI a), .int (nI b), .int (nI 2), .int (nI a), UU, UU]) dX10_dearest_40 rfl (by decide) rfl ?_
  refine ww_iconst (v := nI 0) dX10_dearest_42 (by decide) ?_
  refine ww_sti (lv2 := [.ref 0, .int (nI a), .int (nI b), .int (nI 2), .int (nI a), .int (nI 0), UU]) dX10_dearest_43 rfl (by decide) rfl ?_
  refine ww_iload_n dX10_dearest_45 rfl rfl ?_
  refine ww_sti (lv2 := [.ref 0, .int (nI a), .int (nI b), .int (nI 2), .int (nI a), .int (nI 0), .int (nI a)]) dX10_dearest_46 rfl (by decide) rfl ?_
  generalize hge : hp_I hq1 29 = g
  have hgc : ∀ i, i < a + (b - a + 1) → g i = (fun i => fareT f sz kf vf i 1) i := fun i hi => by rw [← hge]; exact qq1.2 i (by omega)
  have hde := deF_congr (c := fun i => fareT f sz kf vf i 1) (b - a + 1) hgc (fun _ => by omega)
  have hlt := deF_lt g a (b - a)
  refine ww_lv (lv2 := [.ref 0, .int (nI a), .int (nI b), .int (nI 2), .int (nI ((deF g a 0).1)), .int ((deF g a 0).2), .int (nI (a + 0))]) (by simp [deF, nI_0]) ?_
  refine l_K_dearest hst hC1 hge a b (by omega) (by omega) (nI 2) (b - a + 1) 0 (by omega) ?_
  refine ww_iload_n dX10_dearest_93 rfl rfl ?_
  refine ww_lookup (off := 37) (tgt := 131) dX10_dearest_94 (by decide) (by decide) (by decide) ?_
  refine ww_iload dX10_dearest_131 rfl ?_
  exact ww_iret dX10_dearest_133 rfl ⟨by rw [hde], s1⟩
set_option maxHeartbeats 4000000 in
set_option maxRecDepth 100000 in
theorem c_K_dearest_no0 {l : Launch} {Z : EE} (hst : l.stackTraces = false) {h : PH} {la lw bk : Nat} (hC : CL h la lw bk) {wr : Int32} (hwr : hp_F h 0 13 = .int wr) (a b w : Int32) (hout : ¬ (nI 0 ≤ a ∧ a ≤ nI 60)) : CC l Z m_X10_dearest 7 1 6 [.ref 0, .int a, .int b, .int w] h (TH iaX (hp_sF h 0 13 (.int (wr + nI 1)))) := by
  refine ee_entry hst (by decide +kernel) rfl rfl (by simp [Value.category]) (Nat.le_of_ble_eq_true rfl) ?_
  refine ww_lv (lv2 := [.ref 0, .int a, .int b, .int w, UU, UU, UU]) rfl ?_
  refine ww_aload_n dX10_dearest_0 rfl rfl ?_
  refine ww_iload_n dX10_dearest_1 rfl rfl ?_
  refine ww_iconst (v := nI 0) dX10_dearest_2 (by decide) ?_
  refine ww_bipush (v := nI 60) dX10_dearest_3 (by decide) ?_
  exact ww_cVt (M := m_X10_dearest) (pc := 5) (st := []) (bc := 0) (bs := 0) (c_within_f hst hC.K0 hwr a (nI 0) (nI 60) hout) vv_X10_within dX10_dearest_5 wg_410 (hC.K0) rfl rfl rfl rfl (Nat.le_of_ble_eq_true rfl) (Nat.le_of_ble_eq_true rfl) (Nat.le_of_ble_eq_true rfl) (Nat.le_of_ble_eq_true rfl) ⟨rfl, rfl⟩
set_option maxHeartbeats 4000000 in
set_option maxRecDepth 100000 in
theorem c_K_dearest_no1 {l : Launch} {Z : EE} (hst : l.stackTraces = false) {h : PH} {la lw bk : Nat} (hC : CL h la lw bk) {wr : Int32} (hwr : hp_F h 0 13 = .int wr) (a : Nat) (ha : a ≤ 60) (b w : Int32) (hout : ¬ (nI a ≤ b ∧ b ≤ nI 60)) : CC l Z m_X10_dearest 7 1 6 [.ref 0, .int (nI a), .int b, .int w] h (TH iaX (hp_sF h 0 13 (.int (wr + nI 1)))) := by
  refine ee_entry hst (by decide +kernel) rfl rfl (by simp [Value.category]) (Nat.le_of_ble_eq_true rfl) ?_
  refine ww_lv (lv2 := [.ref 0, .int (nI a), .int b, .int w, UU, UU, UU]) rfl ?_
  refine ww_aload_n dX10_dearest_0 rfl rfl ?_
  refine ww_iload_n dX10_dearest_1 rfl rfl ?_
  refine ww_iconst (v := nI 0) dX10_dearest_2 (by decide) ?_
  refine ww_bipush (v := nI 60) dX10_dearest_3 (by decide) ?_
  refine ww_cV0 (M := m_X10_dearest) (pc := 5) (h1 := h) (st := []) (bc := 1) (bs := 6) (c_within_t hst (nI a) (nI 0) (nI 60) (nI_le (by omega) (by omega)) (nI_le (by omega) (by omega)) _) vv_X10_within dX10_dearest_5 wg_410 (hC.K0) rfl rfl rfl rfl (Nat.le_of_ble_eq_true rfl) (Nat.le_of_ble_eq_true rfl) (Nat.le_of_ble_eq_true rfl) (Nat.le_of_ble_eq_true rfl) ?_
  refine ww_aload_n dX10_dearest_8 rfl rfl ?_
  refine ww_iload_n dX10_dearest_9 rfl rfl ?_
  refine ww_iload_n dX10_dearest_10 rfl rfl ?_
  refine ww_bipush (v := nI 60) dX10_dearest_11 (by decide) ?_
  exact ww_cVt (M := m_X10_dearest) (pc := 13) (st := []) (bc := 0) (bs := 0) (c_within_f hst hC.K0 hwr b (nI a) (nI 60) hout) vv_X10_within dX10_dearest_13 wg_410 (hC.K0) rfl rfl rfl rfl (Nat.le_of_ble_eq_true rfl) (Nat.le_of_ble_eq_true rfl) (Nat.le_of_ble_eq_true rfl) (Nat.le_of_ble_eq_true rfl) ⟨rfl, rfl⟩
set_option maxHeartbeats 4000000 in
set_option maxRecDepth 100000 in
theorem c_K_dearest_no2 {l : Launch} {Z : EE} (hst : l.stackTraces = false) {h : PH} {la lw bk : Nat} (hC : CL h la lw bk) {wr : Int32} (hwr : hp_F h 0 13 = .int wr) (a b : Nat) (hab : a ≤ b) (hb : b ≤ 60) (w : Int32) (hout : ¬ (nI 0 ≤ w ∧ w ≤ nI 2)) : CC l Z m_X10_dearest 7 1 6 [.ref 0, .int (nI a), .int (nI b), .int w] h (TH iaX (hp_sF h 0 13 (.int (wr + nI 1)))) := by
  refine ee_entry hst (by decide +kernel) rfl rfl (by simp [Value.category]) (Nat.le_of_ble_eq_true rfl) ?_
  refine ww_lv (lv2 := [.ref 0, .int (nI a), .int (nI b), .int w, UU, UU, UU]) rfl ?_
  refine ww_aload_n dX10_dearest_0 rfl rfl ?_
  refine ww_iload_n dX10_dearest_1 rfl rfl ?_
  refine ww_iconst (v := nI 0) dX10_dearest_2 (by decide) ?_
  refine ww_bipush (v := nI 60) dX10_dearest_3 (by decide) ?_
  refine ww_cV0 (M := m_X10_dearest) (pc := 5) (h1 := h) (st := []) (bc := 1) (bs := 6) (c_within_t hst (nI a) (nI 0) (nI 60) (nI_le (by omega) (by omega)) (nI_le (by omega) (by omega)) _) vv_X10_within dX10_dearest_5 wg_410 (hC.K0) rfl rfl rfl rfl (Nat.le_of_ble_eq_true rfl) (Nat.le_of_ble_eq_true rfl) (Nat.le_of_ble_eq_true rfl) (Nat.le_of_ble_eq_true rfl) ?_
  refine ww_aload_n dX10_dearest_8 rfl rfl ?_
  refine ww_iload_n dX10_dearest_9 rfl rfl ?_
  refine ww_iload_n dX10_dearest_10 rfl rfl ?_
  refine ww_bipush (v := nI 60) dX10_dearest_11 (by decide) ?_
  refine ww_cV0 (M := m_X10_dearest) (pc := 13) (h1 := h) (st := []) (bc := 1) (bs := 6) (c_within_t hst (nI b) (nI a) (nI 60) (nI_le (by omega) (by omega)) (nI_le (by omega) (by omega)) _) vv_X10_within dX10_dearest_13 wg_410 (hC.K0) rfl rfl rfl rfl (Nat.le_of_ble_eq_true rfl) (Nat.le_of_ble_eq_true rfl) (Nat.le_of_ble_eq_true rfl) (Nat.le_of_ble_eq_true rfl) ?_
  refine ww_aload_n dX10_dearest_16 rfl rfl ?_
  refine ww_iload_n dX10_dearest_17 rfl rfl ?_
  refine ww_iconst (v := nI 0) dX10_dearest_18 (by decide) ?_
  refine ww_iconst (v := nI 2) dX10_dearest_19 (by decide) ?_
  exact ww_cVt (M := m_X10_dearest) (pc := 20) (st := []) (bc := 0) (bs := 0) (c_within_f hst hC.K0 hwr w (nI 0) (nI 2) hout) vv_X10_within dX10_dearest_20 wg_410 (hC.K0) rfl rfl rfl rfl (Nat.le_of_ble_eq_true rfl) (Nat.le_of_ble_eq_true rfl) (Nat.le_of_ble_eq_true rfl) (Nat.le_of_ble_eq_true rfl) ⟨rfl, rfl⟩
theorem gcd_half {x y : Nat} (h : x % y ≠ 0) (hy : 0 < y) : x % y < y := Nat.mod_lt _ hy
set_option maxHeartbeats 4000000 in
set_option maxRecDepth 100000 in
theorem l_K_gcd {l : Launch} {Z : EE} (hst : l.stackTraces = false) (h : PH) : ∀ (j x y i : Nat), x ≤ 100000 → y ≤ 60 → i + y < 64 → y ≤ j → WW l Z m_X10_commonDivisor 0 0 0 7 [UU, UU, .int (nI x), .int (nI y), .int (nI i), UU] [] h (RT (some (.int (nI (Nat.gcd x y)))) h) := by
  intro j
  induction j with
  | zero =>
    intro x y i hx hy hi hj
    have hy0 : y = 0 := by omega
    subst hy0
    refine ww_iload dX10_commonDivisor_7 rfl ?_
    refine ww_bipush (v := nI 64) dX10_commonDivisor_9 (by decide) ?_
    refine ww_icmp_geN (tgt := 34) dX10_commonDivisor_11 (by decide) (by omega) (by omega) (fun c11 => ?_) (fun c11 => ?_)
    · exfalso; omega
    · refine ww_iload_n dX10_commonDivisor_14 rfl rfl ?_
      refine ww_if_eqN (tgt := 34) dX10_commonDivisor_15 (by decide) (by omega) (fun c15 => ?_) (fun c15 => ?_)
      · refine ww_iload_n dX10_commonDivisor_34 rfl rfl ?_
        exact ww_iret dX10_commonDivisor_35 rfl ⟨by rw [Nat.gcd_zero_right], rfl⟩
      · exfalso; omega
  | succ j ih =>
    intro x y i hx hy hi hj
    refine ww_iload dX10_commonDivisor_7 rfl ?_
    refine ww_bipush (v := nI 64) dX10_commonDivisor_9 (by decide) ?_
    refine ww_icmp_geN (tgt := 34) dX10_commonDivisor_11 (by decide) (by omega) (by omega) (fun c11 => ?_) (fun c11 => ?_)
    · exfalso; omega
    · refine ww_iload_n dX10_commonDivisor_14 rfl rfl ?_
      refine ww_if_eqN (tgt := 34) dX10_commonDivisor_15 (by decide) (by omega) (fun c15 => ?_) (fun c15 => ?_)
      · refine ww_iload_n dX10_commonDivisor_34 rfl rfl ?_
        exact ww_iret dX10_commonDivisor_35 rfl ⟨by rw [c15, Nat.gcd_zero_right], rfl⟩
      · refine ww_iload_n dX10_commonDivisor_18 rfl rfl ?_
        refine ww_iload_n dX10_commonDivisor_19 rfl rfl ?_
        refine ww_iremN dX10_commonDivisor_20 (by omega) (by omega) (by omega) ?_
        refine ww_sti (lv2 := [UU, UU, .int (nI x), .int (nI y), .int (nI i), .int (nI (x % y))]) dX10_commonDivisor_21 rfl (by decide) rfl ?_
        refine ww_iload_n dX10_commonDivisor_23 rfl rfl ?_
        refine ww_sti_n (lv2 := [UU, UU, .int (nI y), .int (nI y), .int (nI i), .int (nI (x % y))]) dX10_commonDivisor_24 rfl rfl (by decide) rfl ?_
        refine ww_iload dX10_commonDivisor_25 rfl ?_
        refine ww_sti_n (lv2 := [UU, UU, .int (nI y), .int (nI (x % y)), .int (nI i), .int (nI (x % y))]) dX10_commonDivisor_27 rfl rfl (by decide) rfl ?_
        refine ww_incN (c := 1) (lv2 := [UU, UU, .int (nI y), .int (nI (x % y)), .int (nI (i + 1)), .int (nI (x % y))]) dX10_commonDivisor_28 rfl rfl rfl (by decide) rfl ?_
        refine ww_goto (tgt := 7) dX10_commonDivisor_31 (by decide) ?_
        refine ww_fg (lv2 := [UU, UU, .int (nI y), .int (nI (x % y)), .int (nI (i + 1)), UU]) ⟨Or.inl rfl, Or.inl rfl, Or.inr rfl, Or.inr rfl, Or.inr rfl, Or.inl rfl, trivial⟩ ?_
        have hm := Nat.mod_lt x (show 0 < y by omega)
        rw [gcd_st x y]
        exact ih y (x % y) (i + 1) (by omega) (by omega) (by omega) (by omega)
set_option maxHeartbeats 4000000 in
set_option maxRecDepth 100000 in
theorem c_K_gcd {l : Launch} {Z : EE} (hst : l.stackTraces = false) (x y : Nat) (hx : x ≤ 100000) (hy : y ≤ 60) (h : PH) : CC l Z m_X10_commonDivisor 0 0 0 [.int (nI x), .int (nI y)] h (RT (some (.int (nI (Nat.gcd x y)))) h) := by
  refine ee_entry hst (by decide +kernel) rfl rfl (by simp [Value.category]) (Nat.le_of_ble_eq_true rfl) ?_
  refine ww_lv (lv2 := [.int (nI x), .int (nI y), UU, UU, UU, UU]) rfl ?_
  refine ww_iload_n dX10_commonDivisor_0 rfl rfl ?_
  refine ww_sti_n (lv2 := [.int (nI x), .int (nI y), .int (nI x), UU, UU, UU]) dX10_commonDivisor_1 rfl rfl (by decide) rfl ?_
  refine ww_iload_n dX10_commonDivisor_2 rfl rfl ?_
  refine ww_sti_n (lv2 := [.int (nI x), .int (nI y), .int (nI x), .int (nI y), UU, UU]) dX10_commonDivisor_3 rfl rfl (by decide) rfl ?_
  refine ww_iconst (v := nI 0) dX10_commonDivisor_4 (by decide) ?_
  refine ww_sti (lv2 := [.int (nI x), .int (nI y), .int (nI x), .int (nI y), .int (nI 0), UU]) dX10_commonDivisor_5 rfl (by decide) rfl ?_
  refine ww_fg (lv2 := [UU, UU, .int (nI x), .int (nI y), .int (nI 0), UU]) ⟨Or.inl rfl, Or.inl rfl, Or.inr rfl, Or.inr rfl, Or.inr rfl, Or.inl rfl, trivial⟩ ?_
  exact l_K_gcd hst h y x y 0 hx hy (by omega) (by omega)
set_option maxHeartbeats 4000000 in
set_option maxRecDepth 100000 in
theorem l_K_dice {l : Launch} {Z : EE} (hst : l.stackTraces = false) {h : PH} {la lw bk : Nat} (hC : CL h la lw bk) {g : Nat → Int32} (hg : hp_I h 29 = g) (hg9 : ∀ i, i ≤ 60 → g i = nI (g i).toNatClampNeg) (n : Nat) (hn : n ≤ 60) (w : Int32) {Post : Res → PH → Prop} : ∀ (j k : Nat), k + j = n → WW l Z m_X10_dice 5 0 0 58 [.ref 0, .int (nI n), .int w, .int (nI ((smN (fun i => (g (i + 1)).toNatClampNeg) n))), .int (nI (n + 1))] [] h Post → WW l Z m_X10_dice 5 0 0 36 [.ref 0, .int (nI n), .int w, .int (nI ((smN (fun i => (g (i + 1)).toNatClampNeg) k))), .int (nI (k + 1))] [] h Post := by
  intro j
  induction j with
  | zero =>
    intro k hk hex
    have hk0 : k = n := by omega
    subst hk0
    refine ww_iload dX10_dice_36 rfl ?_
    refine ww_iload_n dX10_dice_38 rfl rfl ?_
    refine ww_icmp_gtN (tgt := 58) dX10_dice_39 (by decide) (by omega) (by omega) (fun c39 => ?_) (fun c39 => ?_)
    · exact hex
    · exfalso; omega
  | succ j ih =>
    intro k hk hex
    refine ww_iload dX10_dice_36 rfl ?_
    refine ww_iload_n dX10_dice_38 rfl rfl ?_
    refine ww_icmp_gtN (tgt := 58) dX10_dice_39 (by decide) (by omega) (by omega) (fun c39 => ?_) (fun c39 => ?_)
    · exfalso; omega
    · refine ww_iload_n dX10_dice_42 rfl rfl ?_
      refine ww_aload_n dX10_dice_43 rfl rfl ?_
      refine ww_get 14 dX10_dice_44 (hC.K0) rfl (by decide) inX10 wg_278 (hC.R0_14) ?_
      refine ww_iload dX10_dice_47 rfl ?_
      refine ww_ialdF dX10_dice_49 (hC.K29) hg (by omega) (by omega) ?_
      refine ww_iadd dX10_dice_50 ?_
      refine ww_sti_n (lv2 := [.ref 0, .int (nI n), .int w, .int ((nI ((smN (fun i => (g (i + 1)).toNatClampNeg) k))) + (g (k + 1))), .int (nI (k + 1))]) dX10_dice_51 rfl rfl (by decide) rfl ?_
      refine ww_incN (c := 1) (lv2 := [.ref 0, .int (nI n), .int w, .int ((nI ((smN (fun i => (g (i + 1)).toNatClampNeg) k))) + (g (k + 1))), .int (nI (k + 1 + 1))]) dX10_dice_52 rfl rfl rfl (by decide) rfl ?_
      refine ww_goto (tgt := 36) dX10_dice_55 (by decide) ?_
      refine ww_lv (lv2 := [.ref 0, .int (nI n), .int w, .int (nI ((smN (fun i => (g (i + 1)).toNatClampNeg) ((k + 1))))), .int (nI (((k + 1)) + 1))]) (by rw [hg9 (k + 1) (by omega), nI_add]; rfl) ?_
      exact ih (k + 1) (by omega) hex
theorem smN_congr {g c : Nat → Nat} : ∀ n, (∀ i, i < n → g i = c i) → smN g n = smN c n
  | 0, _ => rfl
  | n + 1, h => by simp only [smN]; rw [smN_congr n (fun i hi => h i (by omega)), h n (by omega)]
set_option maxHeartbeats 4000000 in
set_option maxRecDepth 100000 in
theorem c_K_dice0 {l : Launch} {Z : EE} (hst : l.stackTraces = false) {h : PH} {la lw bk : Nat} (hC : CL h la lw bk) {np du : Nat} {f : Nat → Int32} (hL : LandAt h la np du f) {sz : Nat} {kf vf : Nat → Int32} (hW : LawAt h lw sz kf vf) (hok : LawOK kf vf sz) (n : Nat) (ln : 1 ≤ n) (hn : n ≤ 60) : CC l Z m_X10_dice 5 0 0 [.ref 0, .int (nI n), .int (nI 0)] h (COk (nI (upN f sz kf vf n / Nat.gcd (upN f sz kf vf n) n)) h) := by
  refine ee_entry hst (by decide +kernel) rfl rfl (by simp [Value.category]) (Nat.le_of_ble_eq_true rfl) ?_
  refine ww_lv (lv2 := [.ref 0, .int (nI n), .int (nI 0), UU, UU]) rfl ?_
  have hla := hC.la
  have hlw := hC.lw
  have hbk := hC.bk
  refine ww_aload_n dX10_dice_0 rfl rfl ?_
  refine ww_iload_n dX10_dice_1 rfl rfl ?_
  refine ww_iconst (v := nI 1) dX10_dice_2 (by decide) ?_
  refine ww_bipush (v := nI 60) dX10_dice_3 (by decide) ?_
  refine ww_cV0 (M := m_X10_dice) (pc := 5) (h1 := h) (st := []) (bc := 0) (bs := 0) (c_within_t hst (nI n) (nI 1) (nI 60) (nI_le (by omega) (by omega)) (nI_le (by omega) (by omega)) _) vv_X10_within dX10_dice_5 wg_410 (hC.K0) rfl rfl rfl rfl (Nat.le_of_ble_eq_true rfl) (Nat.le_of_ble_eq_true rfl) (Nat.le_of_ble_eq_true rfl) (Nat.le_of_ble_eq_true rfl) ?_
  refine ww_aload_n dX10_dice_8 rfl rfl ?_
  refine ww_iload_n dX10_dice_9 rfl rfl ?_
  refine ww_iconst (v := nI 0) dX10_dice_10 (by decide) ?_
  refine ww_iconst (v := nI 1) dX10_dice_11 (by decide) ?_
  refine ww_cV0 (M := m_X10_dice) (pc := 12) (h1 := h) (st := []) (bc := 0) (bs := 0) (c_within_t hst (nI 0) (nI 0) (nI 1) (by decide) (by decide) _) vv_X10_within dX10_dice_12 wg_410 (hC.K0) rfl rfl rfl rfl (Nat.le_of_ble_eq_true rfl) (Nat.le_of_ble_eq_true rfl) (Nat.le_of_ble_eq_true rfl) (Nat.le_of_ble_eq_true rfl) ?_
  refine ww_aload_n dX10_dice_15 rfl rfl ?_
  refine ww_get 1 dX10_dice_16 (hC.K0) rfl (by decide) inX10 wg_265 hC.D1 ?_
  refine ww_aload_n dX10_dice_19 rfl rfl ?_
  refine ww_get 3 dX10_dice_20 (hC.K0) rfl (by decide) inX10 wg_267 hC.D3 ?_
  refine ww_iconst (v := nI 1) dX10_dice_23 (by decide) ?_
  refine ww_aload_n dX10_dice_24 rfl rfl ?_
  refine ww_get 14 dX10_dice_25 (hC.K0) rfl (by decide) inX10 wg_278 (hC.R0_14) ?_
  refine ww_cVq0 (M := m_X10_dice) (pc := 28) (st := []) (bc := 0) (bs := 0) (c_Land_faresT hst hC hL hW hok 29 (by exact hC.K29) (by omega) 1 (by omega)) vv_X2_faresBy dX10_dice_28 wg_1013 hL.1 rfl rfl rfl rfl (Nat.le_of_ble_eq_true rfl) (Nat.le_of_ble_eq_true rfl) (Nat.le_of_ble_eq_true rfl) (Nat.le_of_ble_eq_true rfl) (fun hq1 qq1 => ?_)
  have s1 : Same CX CY h hq1 := qq1.1.fares (by omega)
  have hC1 := hC.scr s1
  have hL1 := hL.scr hC s1
  have hW1 := hW.scr hC s1
  refine ww_iconst (v := nI 0) dX10_dice_31 (by decide) ?_
  refine ww_sti_n (lv2 := [.ref 0, .int (nI n), .int (nI 0), .int (nI 0), UU]) dX10_dice_32 rfl rfl (by decide) rfl ?_
  refine ww_iconst (v := nI 1) dX10_dice_33 (by decide) ?_
  refine ww_sti (lv2 := [.ref 0, .int (nI n), .int (nI 0), .int (nI 0), .int (nI 1)]) dX10_dice_34 rfl (by decide) rfl ?_
  generalize hge : hp_I hq1 29 = g
  have hgc : ∀ i, i ≤ 60 → g i = fareT f sz kf vf i 1 := fun i hi => by rw [← hge]; exact qq1.2 i hi
  have hg9 : ∀ i, i ≤ 60 → g i = nI (g i).toNatClampNeg := fun i hi => by rw [hgc i hi]; exact (fareTn_ok f sz kf vf i 1).1
  refine ww_lv (lv2 := [.ref 0, .int (nI n), .int (nI 0), .int (nI ((smN (fun i => (g (i + 1)).toNatClampNeg) 0))), .int (nI (0 + 1))]) (by rfl) ?_
  refine l_K_dice hst hC1 hge hg9 n (by omega) (nI 0) n 0 (by omega) ?_
  have hup : (smN (fun i => (g (i + 1)).toNatClampNeg) n) = upN f sz kf vf n := smN_congr n (fun i hi => by rw [hgc (i + 1) (by omega)]; rfl)
  rw [hup]
  have hul := upN_le f sz kf vf n
  have hgp : 0 < Nat.gcd (upN f sz kf vf n) n := Nat.gcd_pos_of_pos_right _ (by omega)
  have hgl : Nat.gcd (upN f sz kf vf n) n ≤ n := Nat.gcd_le_right _ (by omega)
  refine ww_iload_n dX10_dice_58 rfl rfl ?_
  refine ww_iload_n dX10_dice_59 rfl rfl ?_
  refine ww_cSr (M := m_X10_dice) (pc := 60) (v := .int (nI (Nat.gcd (upN f sz kf vf n) n))) (h1 := hq1) (st := []) (bc := 0) (bs := 0) (c_K_gcd hst (upN f sz kf vf n) n (by omega) (by omega) _) vv_X10_commonDivisor dX10_dice_60 wg_1082 rfl rfl rfl (Nat.le_of_ble_eq_true rfl) (Nat.le_of_ble_eq_true rfl) (Nat.le_of_ble_eq_true rfl) (Nat.le_of_ble_eq_true rfl) ?_
  refine ww_sti (lv2 := [.ref 0, .int (nI n), .int (nI 0), .int (nI (upN f sz kf vf n)), .int (nI (Nat.gcd (upN f sz kf vf n) n))]) dX10_dice_63 rfl (by decide) rfl ?_
  refine ww_iload dX10_dice_65 rfl ?_
  refine ww_if_neN (tgt := 72) dX10_dice_67 (by decide) (by omega) (fun c67 => ?_) (fun c67 => ?_)
  · refine ww_iload_n dX10_dice_72 rfl rfl ?_
    refine ww_if_neN (tgt := 83) dX10_dice_73 (by decide) (by omega) (fun c73 => ?_) (fun c73 => ?_)
    · exact absurd c73 (by decide)
    · refine ww_iload_n dX10_dice_76 rfl rfl ?_
      refine ww_iload dX10_dice_77 rfl ?_
      refine ww_idivN dX10_dice_79 (by omega) (by omega) (by omega) ?_
      refine ww_goto (tgt := 87) dX10_dice_80 (by decide) ?_
      exact ww_iret dX10_dice_87 rfl ⟨rfl, s1⟩
  · exfalso; omega
set_option maxHeartbeats 4000000 in
set_option maxRecDepth 100000 in
theorem c_K_dice1 {l : Launch} {Z : EE} (hst : l.stackTraces = false) {h : PH} {la lw bk : Nat} (hC : CL h la lw bk) {np du : Nat} {f : Nat → Int32} (hL : LandAt h la np du f) {sz : Nat} {kf vf : Nat → Int32} (hW : LawAt h lw sz kf vf) (hok : LawOK kf vf sz) (n : Nat) (ln : 1 ≤ n) (hn : n ≤ 60) : CC l Z m_X10_dice 5 0 0 [.ref 0, .int (nI n), .int (nI 1)] h (COk (nI (n / Nat.gcd (upN f sz kf vf n) n)) h) := by
  refine ee_entry hst (by decide +kernel) rfl rfl (by simp [Value.category]) (Nat.le_of_ble_eq_true rfl) ?_
  refine ww_lv (lv2 := [.ref 0, .int (nI n), .int (nI 1), UU, UU]) rfl ?_
  have hla := hC.la
  have hlw := hC.lw
  have hbk := hC.bk
  refine ww_aload_n dX10_dice_0 rfl rfl ?_
  refine ww_iload_n dX10_dice_1 rfl rfl ?_
  refine ww_iconst (v := nI 1) dX10_dice_2 (by decide) ?_
  refine ww_bipush (v := nI 60) dX10_dice_3 (by decide) ?_
  refine ww_cV0 (M := m_X10_dice) (pc := 5) (h1 := h) (st := []) (bc := 0) (bs := 0) (c_within_t hst (nI n) (nI 1) (nI 60) (nI_le (by omega) (by omega)) (nI_le (by omega) (by omega)) _) vv_X10_within dX10_dice_5 wg_410 (hC.K0) rfl rfl rfl rfl (Nat.le_of_ble_eq_true rfl) (Nat.le_of_ble_eq_true rfl) (Nat.le_of_ble_eq_true rfl) (Nat.le_of_ble_eq_true rfl) ?_
  refine ww_aload_n dX10_dice_8 rfl rfl ?_
  refine ww_iload_n dX10_dice_9 rfl rfl ?_
  refine ww_iconst (v := nI 0) dX10_dice_10 (by decide) ?_
  refine ww_iconst (v := nI 1) dX10_dice_11 (by decide) ?_
  refine ww_cV0 (M := m_X10_dice) (pc := 12) (h1 := h) (st := []) (bc := 0) (bs := 0) (c_within_t hst (nI 1) (nI 0) (nI 1) (by decide) (by decide) _) vv_X10_within dX10_dice_12 wg_410 (hC.K0) rfl rfl rfl rfl (Nat.le_of_ble_eq_true rfl) (Nat.le_of_ble_eq_true rfl) (Nat.le_of_ble_eq_true rfl) (Nat.le_of_ble_eq_true rfl) ?_
  refine ww_aload_n dX10_dice_15 rfl rfl ?_
  refine ww_get 1 dX10_dice_16 (hC.K0) rfl (by decide) inX10 wg_265 hC.D1 ?_
  refine ww_aload_n dX10_dice_19 rfl rfl ?_
  refine ww_get 3 dX10_dice_20 (hC.K0) rfl (by decide) inX10 wg_267 hC.D3 ?_
  refine ww_iconst (v := nI 1) dX10_dice_23 (by decide) ?_
  refine ww_aload_n dX10_dice_24 rfl rfl ?_
  refine ww_get 14 dX10_dice_25 (hC.K0) rfl (by decide) inX10 wg_278 (hC.R0_14) ?_
  refine ww_cVq0 (M := m_X10_dice) (pc := 28) (st := []) (bc := 0) (bs := 0) (c_Land_faresT hst hC hL hW hok 29 (by exact hC.K29) (by omega) 1 (by omega)) vv_X2_faresBy dX10_dice_28 wg_1013 hL.1 rfl rfl rfl rfl (Nat.le_of_ble_eq_true rfl) (Nat.le_of_ble_eq_true rfl) (Nat.le_of_ble_eq_true rfl) (Nat.le_of_ble_eq_true rfl) (fun hq1 qq1 => ?_)
  have s1 : Same CX CY h hq1 := qq1.1.fares (by omega)
  have hC1 := hC.scr s1
  have hL1 := hL.scr hC s1
  have hW1 := hW.scr hC s1
  refine ww_iconst (v := nI 0) dX10_dice_31 (by decide) ?_
  refine ww_sti_n (lv2 := [.ref 0, .int (nI n), .int (nI 1), .int (nI 0), UU]) dX10_dice_32 rfl rfl (by decide) rfl ?_
  refine ww_iconst (v := nI 1) dX10_dice_33 (by decide) ?_
  refine ww_sti (lv2 := [.ref 0, .int (nI n), .int (nI 1), .int (nI 0), .int (nI 1)]) dX10_dice_34 rfl (by decide) rfl ?_
  generalize hge : hp_I hq1 29 = g
  have hgc : ∀ i, i ≤ 60 → g i = fareT f sz kf vf i 1 := fun i hi => by rw [← hge]; exact qq1.2 i hi
  have hg9 : ∀ i, i ≤ 60 → g i = nI (g i).toNatClampNeg := fun i hi => by rw [hgc i hi]; exact (fareTn_ok f sz kf vf i 1).1
  refine ww_lv (lv2 := [.ref 0, .int (nI n), .int (nI 1), .int (nI ((smN (fun i => (g (i + 1)).toNatClampNeg) 0))), .int (nI (0 + 1))]) (by rfl) ?_
  refine l_K_dice hst hC1 hge hg9 n (by omega) (nI 1) n 0 (by omega) ?_
  have hup : (smN (fun i => (g (i + 1)).toNatClampNeg) n) = upN f sz kf vf n := smN_congr n (fun i hi => by rw [hgc (i + 1) (by omega)]; rfl)
  rw [hup]
  have hul := upN_le f sz kf vf n
  have hgp : 0 < Nat.gcd (upN f sz kf vf n) n := Nat.gcd_pos_of_pos_right _ (by omega)
  have hgl : Nat.gcd (upN f sz kf vf n) n ≤ n := Nat.gcd_le_right _ (by omega)
  refine ww_iload_n dX10_dice_58 rfl rfl ?_
  refine ww_iload_n dX10_dice_59 rfl rfl ?_
  refine ww_cSr (M := m_X10_dice) (pc := 60) (v := .int (nI (Nat.gcd (upN f sz kf vf n) n))) (h1 := hq1) (st := []) (bc := 0) (bs := 0) (c_K_gcd hst (upN f sz kf vf n) n (by omega) (by omega) _) vv_X10_commonDivisor dX10_dice_60 wg_1082 rfl rfl rfl (Nat.le_of_ble_eq_true rfl) (Nat.le_of_ble_eq_true rfl) (Nat.le_of_ble_eq_true rfl) (Nat.le_of_ble_eq_true rfl) ?_
  refine ww_sti (lv2 := [.ref 0, .int (nI n), .int (nI 1), .int (nI (upN f sz kf vf n)), .int (nI (Nat.gcd (upN f sz kf vf n) n))]) dX10_dice_63 rfl (by decide) rfl ?_
  refine ww_iload dX10_dice_65 rfl ?_
  refine ww_if_neN (tgt := 72) dX10_dice_67 (by decide) (by omega) (fun c67 => ?_) (fun c67 => ?_)
  · refine ww_iload_n dX10_dice_72 rfl rfl ?_
    refine ww_if_neN (tgt := 83) dX10_dice_73 (by decide) (by omega) (fun c73 => ?_) (fun c73 => ?_)
    · refine ww_iload_n dX10_dice_83 rfl rfl ?_
      refine ww_iload dX10_dice_84 rfl ?_
      refine ww_idivN dX10_dice_86 (by omega) (by omega) (by omega) ?_
      exact ww_iret dX10_dice_87 rfl ⟨rfl, s1⟩
    · exact absurd c73 (by decide)
  · exfalso; omega
set_option maxHeartbeats 4000000 in
set_option maxRecDepth 100000 in
theorem c_K_dice_no0 {l : Launch} {Z : EE} (hst : l.stackTraces = false) {h : PH} {la lw bk : Nat} (hC : CL h la lw bk) {np du : Nat} {f : Nat → Int32} (hL : LandAt h la np du f) {sz : Nat} {kf vf : Nat → Int32} (hW : LawAt h lw sz kf vf) (hok : LawOK kf vf sz) {wr : Int32} (hwr : hp_F h 0 13 = .int wr) (n : Int32) (w : Int32) (hout : ¬ (nI 1 ≤ n ∧ n ≤ nI 60)) : CC l Z m_X10_dice 7 1 6 [.ref 0, .int n, .int w] h (TH iaX (hp_sF h 0 13 (.int (wr + nI 1)))) := by
  refine ee_entry hst (by decide +kernel) rfl rfl (by simp [Value.category]) (Nat.le_of_ble_eq_true rfl) ?_
  refine ww_lv (lv2 := [.ref 0, .int n, .int w, UU, UU]) rfl ?_
  have hla := hC.la
  have hlw := hC.lw
  have hbk := hC.bk
  refine ww_aload_n dX10_dice_0 rfl rfl ?_
  refine ww_iload_n dX10_dice_1 rfl rfl ?_
  refine ww_iconst (v := nI 1) dX10_dice_2 (by decide) ?_
  refine ww_bipush (v := nI 60) dX10_dice_3 (by decide) ?_
  exact ww_cVt (M := m_X10_dice) (pc := 5) (st := []) (bc := 0) (bs := 0) (c_within_f hst hC.K0 hwr n (nI 1) (nI 60) hout) vv_X10_within dX10_dice_5 wg_410 (hC.K0) rfl rfl rfl rfl (Nat.le_of_ble_eq_true rfl) (Nat.le_of_ble_eq_true rfl) (Nat.le_of_ble_eq_true rfl) (Nat.le_of_ble_eq_true rfl) ⟨rfl, rfl⟩
set_option maxHeartbeats 4000000 in
set_option maxRecDepth 100000 in
theorem c_K_dice_no1 {l : Launch} {Z : EE} (hst : l.stackTraces = false) {h : PH} {la lw bk : Nat} (hC : CL h la lw bk) {np du : Nat} {f : Nat → Int32} (hL : LandAt h la np du f) {sz : Nat} {kf vf : Nat → Int32} (hW : LawAt h lw sz kf vf) (hok : LawOK kf vf sz) {wr : Int32} (hwr : hp_F h 0 13 = .int wr) (n : Nat) (ln : 1 ≤ n) (hn : n ≤ 60) (w : Int32) (hout : ¬ (nI 0 ≤ w ∧ w ≤ nI 1)) : CC l Z m_X10_dice 7 1 6 [.ref 0, .int (nI n), .int w] h (TH iaX (hp_sF h 0 13 (.int (wr + nI 1)))) := by
  refine ee_entry hst (by decide +kernel) rfl rfl (by simp [Value.category]) (Nat.le_of_ble_eq_true rfl) ?_
  refine ww_lv (lv2 := [.ref 0, .int (nI n), .int w, UU, UU]) rfl ?_
  have hla := hC.la
  have hlw := hC.lw
  have hbk := hC.bk
  refine ww_aload_n dX10_dice_0 rfl rfl ?_
  refine ww_iload_n dX10_dice_1 rfl rfl ?_
  refine ww_iconst (v := nI 1) dX10_dice_2 (by decide) ?_
  refine ww_bipush (v := nI 60) dX10_dice_3 (by decide) ?_
  refine ww_cV0 (M := m_X10_dice) (pc := 5) (h1 := h) (st := []) (bc := 1) (bs := 6) (c_within_t hst (nI n) (nI 1) (nI 60) (nI_le (by omega) (by omega)) (nI_le (by omega) (by omega)) _) vv_X10_within dX10_dice_5 wg_410 (hC.K0) rfl rfl rfl rfl (Nat.le_of_ble_eq_true rfl) (Nat.le_of_ble_eq_true rfl) (Nat.le_of_ble_eq_true rfl) (Nat.le_of_ble_eq_true rfl) ?_
  refine ww_aload_n dX10_dice_8 rfl rfl ?_
  refine ww_iload_n dX10_dice_9 rfl rfl ?_
  refine ww_iconst (v := nI 0) dX10_dice_10 (by decide) ?_
  refine ww_iconst (v := nI 1) dX10_dice_11 (by decide) ?_
  exact ww_cVt (M := m_X10_dice) (pc := 12) (st := []) (bc := 0) (bs := 0) (c_within_f hst hC.K0 hwr w (nI 0) (nI 1) hout) vv_X10_within dX10_dice_12 wg_410 (hC.K0) rfl rfl rfl rfl (Nat.le_of_ble_eq_true rfl) (Nat.le_of_ble_eq_true rfl) (Nat.le_of_ble_eq_true rfl) (Nat.le_of_ble_eq_true rfl) ⟨rfl, rfl⟩
