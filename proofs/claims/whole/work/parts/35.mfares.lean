/-- in the midst of an asking by fares: shape, LAW, the row s, all as at the start but scratch, nothing thrown -/
def MI (m sz : Nat) (kf vf g : Nat → Int32) (h h2 : PH) : Prop := ModS h2 m ∧ LawM h2 m sz kf vf ∧ hp_I h2 (m + 15) = g ∧ Same (SX m) (SY m) h h2 ∧ hp_F h2 m 0 = .int (nI 0)
theorem MI.step {m sz : Nat} {kf vf g : Nat → Int32} {h h2 h3 : PH} (hi : MI m sz kf vf g h h2) (hS : Same (fun c => c = m + 10 ∨ c = m + 11) (fun _ _ => False) h2 h3) : MI m sz kf vf g h h3 :=
  ⟨hi.1.sam hS, hi.2.1.same hS (by omega) (by omega) (fun e => e), (hS.2.2.2.1 _ (by omega)).trans hi.2.2.1, hi.2.2.2.1.tr (hS.mono (fun c hc => hc.elim (fun e => e ▸ SX10 m) (fun e => e ▸ SX11 m)) (fun _ _ e => e.elim)), (hS.2.2.1 _ _ (fun e => e)).trans hi.2.2.2.2⟩
theorem MI.start {m sz : Nat} {kf vf f g : Nat → Int32} {h : PH} (hM : ModS h m) (hQ : LawM h m sz kf vf) : MI m sz kf vf (cpF f g 190) h (hp_sI (hp_sF h m 0 (.int (nI 0))) (m + 15) (cpF f g 190)) :=
  have hS : Same (SX m) (SY m) h (hp_sI (hp_sF h m 0 (.int (nI 0))) (m + 15) (cpF f g 190)) := (Same.rf.sF (SY0 m)).sI (SX15 m)
  ⟨(hM.sF (by decide)), hQ.same hS (SX_no (by decide)) (SX_no (by decide)) (SY_no (by decide)), hp_I_eq _ _ _, hS, hp_F_eq _ _ _ _⟩
set_option maxHeartbeats 4000000 in
set_option maxRecDepth 100000 in
theorem c_M_fareI {l : Launch} {Z : EE} (hst : l.stackTraces = false) {h h2 : PH} {m sz : Nat} {kf vf g : Nat → Int32} (hok : LawOK kf vf sz) (hi : MI m sz kf vf g h h2) (n : Nat) (hn : n ≤ 60) (w : Nat) (hw : w ≤ 2) : CC l Z m_X11_fareBy 4 0 0 [.ref m, .int (nI n), .int (nI w)] h2 (RQ (some (.int (fareC g sz kf vf n w))) (MI m sz kf vf g h)) :=
  cc_post (fun r h9 hp => ⟨hp.1, hi.step hp.2⟩) (c_M_fareBy hst hi.1 hi.2.1 hok hi.2.2.1 n hn w hw)
theorem clF_nat (x : Int32) : ∃ v : Nat, v ≤ 99 ∧ clF x = nI v := by
  unfold clF
  by_cases h1 : x < 0
  · exact ⟨0, by omega, by rw [if_pos h1]; rfl⟩
  · rw [if_neg h1]
    by_cases h2 : nI 99 < x
    · exact ⟨99, by omega, by rw [if_pos h2]⟩
    · rw [if_neg h2]
      obtain ⟨j, hj, e⟩ := nI_of2 (M := nI 99) (n := 99) (by rfl) h1 (Int32.not_lt.mp h2)
      exact ⟨j, hj, e⟩
theorem fareC_nat (f : Nat → Int32) (sz : Nat) (kf vf : Nat → Int32) (n w : Nat) : ∃ v : Nat, v ≤ 99 ∧ fareC f sz kf vf n w = nI v := by
  unfold fareC
  by_cases h1 : f n = -1
  · exact ⟨0, by omega, by rw [if_pos h1]; rfl⟩
  · rw [if_neg h1]; exact clF_nat _
def fareN (f : Nat → Int32) (sz : Nat) (kf vf : Nat → Int32) (n w : Nat) : Nat := (fareC f sz kf vf n w).toNatClampNeg
theorem fareN_ok (f : Nat → Int32) (sz : Nat) (kf vf : Nat → Int32) (n w : Nat) : fareC f sz kf vf n w = nI (fareN f sz kf vf n w) ∧ fareN f sz kf vf n w ≤ 99 := by
  obtain ⟨v, hv, e⟩ := fareC_nat f sz kf vf n w
  unfold fareN
  rw [e, nI_clamp (by omega)]
  exact ⟨rfl, hv⟩
/-- a fare, 0 beyond 60 -/
def fareT (f : Nat → Int32) (sz : Nat) (kf vf : Nat → Int32) (n w : Nat) : Int32 := if n ≤ 60 then fareC f sz kf vf n w else 0
theorem fareT_in {f : Nat → Int32} {sz : Nat} {kf vf : Nat → Int32} {n w : Nat} (hn : n ≤ 60) : fareT f sz kf vf n w = fareC f sz kf vf n w := if_pos hn
theorem fareT_eq {f g : Nat → Int32} (hfg : ∀ i, i < 190 → f i = g i) (sz : Nat) (kf vf : Nat → Int32) : fareT f sz kf vf = fareT g sz kf vf := by
  funext n w
  unfold fareT
  by_cases hn : n ≤ 60
  · rw [if_pos hn, if_pos hn, fareC_congr hfg hn]
  · rw [if_neg hn, if_neg hn]
theorem fareT_nat (f : Nat → Int32) (sz : Nat) (kf vf : Nat → Int32) (n w : Nat) : ∃ v : Nat, v ≤ 99 ∧ fareT f sz kf vf n w = nI v := by
  unfold fareT
  by_cases hn : n ≤ 60
  · rw [if_pos hn]; exact fareC_nat f sz kf vf n w
  · rw [if_neg hn]; exact ⟨0, by omega, rfl⟩
def chW (a b c : Int32) : Nat := if c < (if b < a then b else a) then 2 else if b < a then 1 else 0
/-- the dearest of a, a + 1 ..: which, and all together -/
def deF (c : Nat → Int32) (a : Nat) : Nat → Nat × Int32
  | 0 => (a, 0)
  | k + 1 => (if c (deF c a k).1 < c (a + k) then a + k else (deF c a k).1, (deF c a k).2 + c (a + k))
theorem deF_le (c : Nat → Int32) (a : Nat) : ∀ k, (deF c a k).1 ≤ a + k
  | 0 => Nat.le_refl _
  | k + 1 => by have := deF_le c a k; simp only [deF]; split <;> omega
theorem deF_lt (c : Nat → Int32) (a : Nat) (k : Nat) : (deF c a (k + 1)).1 ≤ a + k := by
  have := deF_le c a k
  simp only [deF]
  split <;> omega
set_option maxHeartbeats 4000000 in
set_option maxRecDepth 100000 in
theorem c_M_fareT {l : Launch} {Z : EE} (hst : l.stackTraces = false) {h h2 : PH} {m sz : Nat} {kf vf g : Nat → Int32} (hok : LawOK kf vf sz) (hi : MI m sz kf vf g h h2) (n : Nat) (hn : n ≤ 60) (w : Nat) (hw : w ≤ 2) : CC l Z m_X11_fareBy 4 0 0 [.ref m, .int (nI n), .int (nI w)] h2 (RQ (some (.int (fareT g sz kf vf n w))) (MI m sz kf vf g h)) := by
  rw [fareT_in hn]
  exact c_M_fareI hst hok hi n hn w hw
set_option maxHeartbeats 4000000 in
set_option maxRecDepth 100000 in
theorem c_M_cheapest0 {l : Launch} {Z : EE} (hst : l.stackTraces = false) {h : PH} {m : Nat} (hM : ModS h m) {f : Nat → Int32} (hf : hp_I h (m + 14) = f) {g : Nat → Int32} (hs : hp_I h (m + 15) = g) {sz : Nat} {kf vf : Nat → Int32} (hQ : LawM h m sz kf vf) (hok : LawOK kf vf sz) (n : Nat) (hn : n ≤ 60) : CC l Z m_X11_cheapest 5 0 0 [.ref m, .int (nI n), .int (nI 0)] h (MOk (nI (chW (fareT f sz kf vf n 0) (fareT f sz kf vf n 1) (fareT f sz kf vf n 2))) m h) := by
  refine ee_entry hst (by decide +kernel) rfl rfl (by simp [Value.category]) (Nat.le_of_ble_eq_true rfl) ?_
  refine ww_lv (lv2 := [.ref m, .int (nI n), .int (nI 0), UU, UU]) rfl ?_
  refine ww_aload_n dX11_cheapest_0 rfl rfl ?_
  refine ww_iconst (v := nI 0) dX11_cheapest_1 (by decide) ?_
  refine ww_pfI tyX11 0 dX11_cheapest_2 hM.K0 rfl (by decide) inX11 tyX11_ok nmX11 wg_1240 rfl rfl ?_
  refine ww_aload_n dX11_cheapest_5 rfl rfl ?_
  refine ww_iload_n dX11_cheapest_6 rfl rfl ?_
  refine ww_iconst (v := nI 1) dX11_cheapest_7 (by decide) ?_
  refine ww_cVr (M := m_X11_cheapest) (pc := 8) (v := .int (nI 1)) (h1 := hp_sF h m 0 (.int (nI 0))) (st := []) (bc := 0) (bs := 0) (c_M_isThere_t hst (h := hp_sF h m 0 (.int (nI 0))) (ModS.sF hM (by decide)) (hp_F_eq _ _ _ _) n hn) vv_X11_isThere dX11_cheapest_8 wg_1620 hM.K0 rfl rfl rfl rfl (Nat.le_of_ble_eq_true rfl) (Nat.le_of_ble_eq_true rfl) (Nat.le_of_ble_eq_true rfl) (Nat.le_of_ble_eq_true rfl) ?_
  refine ww_if_eqN (tgt := 29) dX11_cheapest_11 (by decide) (by omega) (fun c11 => ?_) (fun c11 => ?_)
  · exact absurd c11 (by decide)
  · refine ww_aload_n dX11_cheapest_14 rfl rfl ?_
    refine ww_iload_n dX11_cheapest_15 rfl rfl ?_
    refine ww_iconst (v := nI 0) dX11_cheapest_16 (by decide) ?_
    refine ww_iconst (v := nI 1) dX11_cheapest_17 (by decide) ?_
    refine ww_cSr (M := m_X11_cheapest) (pc := 18) (v := .int (nI 1)) (h1 := hp_sF h m 0 (.int (nI 0))) (st := [.ref m]) (bc := 0) (bs := 0) (c_M_within_t hst (nI 0) (nI 0) (nI 1) (by decide) (by decide) _) vv_X11_within dX11_cheapest_18 wg_1601 rfl rfl rfl (Nat.le_of_ble_eq_true rfl) (Nat.le_of_ble_eq_true rfl) (Nat.le_of_ble_eq_true rfl) (Nat.le_of_ble_eq_true rfl) ?_
    refine ww_iconst (v := nI 2) dX11_cheapest_21 (by decide) ?_
    refine ww_iconst (v := nI 1) dX11_cheapest_22 (by decide) ?_
    refine ww_cVr (M := m_X11_cheapest) (pc := 23) (v := .int (nI 1)) (h1 := hp_sF h m 0 (.int (nI 0))) (st := []) (bc := 0) (bs := 0) (c_M_may_t hst (h := hp_sF h m 0 (.int (nI 0))) (ModS.sF hM (by decide)) (hp_F_eq _ _ _ _) (nI 2) (nI 1)) vv_X11_may dX11_cheapest_23 wg_1413 hM.K0 rfl rfl rfl rfl (Nat.le_of_ble_eq_true rfl) (Nat.le_of_ble_eq_true rfl) (Nat.le_of_ble_eq_true rfl) (Nat.le_of_ble_eq_true rfl) ?_
    refine ww_if_neN (tgt := 31) dX11_cheapest_26 (by decide) (by omega) (fun c26 => ?_) (fun c26 => ?_)
    · refine ww_aload_n dX11_cheapest_31 rfl rfl ?_
      refine ww_cV0 (M := m_X11_cheapest) (pc := 32) (h1 := hp_sI (hp_sF h m 0 (.int (nI 0))) (m + 15) (cpF f g 190)) (st := []) (bc := 0) (bs := 0) (c_M_take hst (h := hp_sF h m 0 (.int (nI 0))) (ModS.sF hM (by decide)) hf hs) vv_X11_take dX11_cheapest_32 wg_1539 hM.K0 rfl rfl rfl rfl (Nat.le_of_ble_eq_true rfl) (Nat.le_of_ble_eq_true rfl) (Nat.le_of_ble_eq_true rfl) (Nat.le_of_ble_eq_true rfl) ?_
      have hI0 : MI m sz kf vf (cpF f g 190) h (hp_sI (hp_sF h m 0 (.int (nI 0))) (m + 15) (cpF f g 190)) := MI.start hM hQ
      generalize hp_sI (hp_sF h m 0 (.int (nI 0))) (m + 15) (cpF f g 190) = hq0 at hI0 ⊢
      generalize hge : cpF f g 190 = g9 at hI0
      have hg9 : ∀ i, i < 190 → g9 i = f i := fun i hi => by rw [← hge]; exact cpF_in hi
      refine ww_iconst (v := nI 0) dX11_cheapest_35 (by decide) ?_
      refine ww_sti_n (lv2 := [.ref m, .int (nI n), .int (nI 0), .int (nI 0), UU]) dX11_cheapest_36 rfl rfl (by decide) rfl ?_
      refine ww_iconst (v := nI 1) dX11_cheapest_37 (by decide) ?_
      refine ww_sti (lv2 := [.ref m, .int (nI n), .int (nI 0), .int (nI 0), .int (nI 1)]) dX11_cheapest_38 rfl (by decide) rfl ?_
      refine ww_iload dX11_cheapest_40 rfl ?_
      refine ww_iconst (v := nI 2) dX11_cheapest_42 (by decide) ?_
      refine ww_icmp_gtN (tgt := 75) dX11_cheapest_43 (by decide) (by omega) (by omega) (fun c43 => ?_) (fun c43 => ?_)
      · exact absurd c43 (by decide)
      · refine ww_aload_n dX11_cheapest_46 rfl rfl ?_
        refine ww_iload_n dX11_cheapest_47 rfl rfl ?_
        refine ww_iload dX11_cheapest_48 rfl ?_
        refine ww_cVq (M := m_X11_cheapest) (pc := 50) (v := .int (fareT g9 sz kf vf n 1)) (st := []) (bc := 0) (bs := 0) (c_M_fareT hst hok hI0 n (by omega) 1 (by omega)) vv_X11_fareBy dX11_cheapest_50 wg_1555 hI0.1.K0 rfl rfl rfl rfl (Nat.le_of_ble_eq_true rfl) (Nat.le_of_ble_eq_true rfl) (Nat.le_of_ble_eq_true rfl) (Nat.le_of_ble_eq_true rfl) (fun hq1 qq1 => ?_)
        refine ww_aload_n dX11_cheapest_53 rfl rfl ?_
        refine ww_iload_n dX11_cheapest_54 rfl rfl ?_
        refine ww_iload_n dX11_cheapest_55 rfl rfl ?_
        refine ww_cVq (M := m_X11_cheapest) (pc := 56) (v := .int (fareT g9 sz kf vf n 0)) (st := [.int (fareT g9 sz kf vf n 1)]) (bc := 0) (bs := 0) (c_M_fareT hst hok qq1 n (by omega) 0 (by omega)) vv_X11_fareBy dX11_cheapest_56 wg_1555 qq1.1.K0 rfl rfl rfl rfl (Nat.le_of_ble_eq_true rfl) (Nat.le_of_ble_eq_true rfl) (Nat.le_of_ble_eq_true rfl) (Nat.le_of_ble_eq_true rfl) (fun hq2 qq2 => ?_)
        refine ww_icmp_ge (tgt := 67) dX11_cheapest_59 (by decide) (fun c59 => ?_) (fun c59 => ?_)
        · refine ww_iload_n dX11_cheapest_67 rfl rfl ?_
          refine ww_sti_n (lv2 := [.ref m, .int (nI n), .int (nI 0), .int (nI 0), .int (nI 1)]) dX11_cheapest_68 rfl rfl (by decide) rfl ?_
          refine ww_incN (c := 1) (lv2 := [.ref m, .int (nI n), .int (nI 0), .int (nI 0), .int (nI 2)]) dX11_cheapest_69 rfl rfl rfl (by decide) rfl ?_
          refine ww_goto (tgt := 40) dX11_cheapest_72 (by decide) ?_
          refine ww_iload dX11_cheapest_40 rfl ?_
          refine ww_iconst (v := nI 2) dX11_cheapest_42 (by decide) ?_
          refine ww_icmp_gtN (tgt := 75) dX11_cheapest_43 (by decide) (by omega) (by omega) (fun c43 => ?_) (fun c43 => ?_)
          · exact absurd c43 (by decide)
          · refine ww_aload_n dX11_cheapest_46 rfl rfl ?_
            refine ww_iload_n dX11_cheapest_47 rfl rfl ?_
            refine ww_iload dX11_cheapest_48 rfl ?_
            refine ww_cVq (M := m_X11_cheapest) (pc := 50) (v := .int (fareT g9 sz kf vf n 2)) (st := []) (bc := 0) (bs := 0) (c_M_fareT hst hok qq2 n (by omega) 2 (by omega)) vv_X11_fareBy dX11_cheapest_50 wg_1555 qq2.1.K0 rfl rfl rfl rfl (Nat.le_of_ble_eq_true rfl) (Nat.le_of_ble_eq_true rfl) (Nat.le_of_ble_eq_true rfl) (Nat.le_of_ble_eq_true rfl) (fun hq3 qq3 => ?_)
            refine ww_aload_n dX11_cheapest_53 rfl rfl ?_
            refine ww_iload_n dX11_cheapest_54 rfl rfl ?_
            refine ww_iload_n dX11_cheapest_55 rfl rfl ?_
            refine ww_cVq (M := m_X11_cheapest) (pc := 56) (v := .int (fareT g9 sz kf vf n 0)) (st := [.int (fareT g9 sz kf vf n 2)]) (bc := 0) (bs := 0) (c_M_fareT hst hok qq3 n (by omega) 0 (by omega)) vv_X11_fareBy dX11_cheapest_56 wg_1555 qq3.1.K0 rfl rfl rfl rfl (Nat.le_of_ble_eq_true rfl) (Nat.le_of_ble_eq_true rfl) (Nat.le_of_ble_eq_true rfl) (Nat.le_of_ble_eq_true rfl) (fun hq4 qq4 => ?_)
            refine ww_icmp_ge (tgt := 67) dX11_cheapest_59 (by decide) (fun c59 => ?_) (fun c59 => ?_)
            · refine ww_iload_n dX11_cheapest_67 rfl rfl ?_
              refine ww_sti_n (lv2 := [.ref m, .int (nI n), .int (nI 0), .int (nI 0), .int (nI 2)]) dX11_cheapest_68 rfl rfl (by decide) rfl ?_
              refine ww_incN (c := 1) (lv2 := [.ref m, .int (nI n), .int (nI 0), .int (nI 0), .int (nI 3)]) dX11_cheapest_69 rfl rfl rfl (by decide) rfl ?_
              refine ww_goto (tgt := 40) dX11_cheapest_72 (by decide) ?_
              refine ww_iload dX11_cheapest_40 rfl ?_
              refine ww_iconst (v := nI 2) dX11_cheapest_42 (by decide) ?_
              refine ww_icmp_gtN (tgt := 75) dX11_cheapest_43 (by decide) (by omega) (by omega) (fun c43 => ?_) (fun c43 => ?_)
              · refine ww_iload_n dX11_cheapest_75 rfl rfl ?_
                refine ww_if_neN (tgt := 83) dX11_cheapest_76 (by decide) (by omega) (fun c76 => ?_) (fun c76 => ?_)
                · exact absurd c76 (by decide)
                · refine ww_iload_n dX11_cheapest_79 rfl rfl ?_
                  refine ww_goto (tgt := 89) dX11_cheapest_80 (by decide) ?_
                  exact ww_iret dX11_cheapest_89 rfl ⟨by rw [← fareT_eq hg9]; simp only [← Int32.not_lt, Classical.not_not] at *; simp [chW, *], qq4.2.2.2.1, qq4.2.2.2.2⟩
              · exact absurd c43 (by decide)
            · refine ww_iload dX11_cheapest_62 rfl ?_
              refine ww_goto (tgt := 68) dX11_cheapest_64 (by decide) ?_
              refine ww_sti_n (lv2 := [.ref m, .int (nI n), .int (nI 0), .int (nI 2), .int (nI 2)]) dX11_cheapest_68 rfl rfl (by decide) rfl ?_
              refine ww_incN (c := 1) (lv2 := [.ref m, .int (nI n), .int (nI 0), .int (nI 2), .int (nI 3)]) dX11_cheapest_69 rfl rfl rfl (by decide) rfl ?_
              refine ww_goto (tgt := 40) dX11_cheapest_72 (by decide) ?_
              refine ww_iload dX11_cheapest_40 rfl ?_
              refine ww_iconst (v := nI 2) dX11_cheapest_42 (by decide) ?_
              refine ww_icmp_gtN (tgt := 75) dX11_cheapest_43 (by decide) (by omega) (by omega) (fun c43 => ?_) (fun c43 => ?_)
              · refine ww_iload_n dX11_cheapest_75 rfl rfl ?_
                refine ww_if_neN (tgt := 83) dX11_cheapest_76 (by decide) (by omega) (fun c76 => ?_) (fun c76 => ?_)
                · exact absurd c76 (by decide)
                · refine ww_iload_n dX11_cheapest_79 rfl rfl ?_
                  refine ww_goto (tgt := 89) dX11_cheapest_80 (by decide) ?_
                  exact ww_iret dX11_cheapest_89 rfl ⟨by rw [← fareT_eq hg9]; simp only [← Int32.not_lt, Classical.not_not] at *; simp [chW, *], qq4.2.2.2.1, qq4.2.2.2.2⟩
              · exact absurd c43 (by decide)
        · refine ww_iload dX11_cheapest_62 rfl ?_
          refine ww_goto (tgt := 68) dX11_cheapest_64 (by decide) ?_
          refine ww_sti_n (lv2 := [.ref m, .int (nI n), .int (nI 0), .int (nI 1), .int (nI 1)]) dX11_cheapest_68 rfl rfl (by decide) rfl ?_
          refine ww_incN (c := 1) (lv2 := [.ref m, .int (nI n), .int (nI 0), .int (nI 1), .int (nI 2)]) dX11_cheapest_69 rfl rfl rfl (by decide) rfl ?_
          refine ww_goto (tgt := 40) dX11_cheapest_72 (by decide) ?_
          refine ww_iload dX11_cheapest_40 rfl ?_
          refine ww_iconst (v := nI 2) dX11_cheapest_42 (by decide) ?_
          refine ww_icmp_gtN (tgt := 75) dX11_cheapest_43 (by decide) (by omega) (by omega) (fun c43 => ?_) (fun c43 => ?_)
          · exact absurd c43 (by decide)
          · refine ww_aload_n dX11_cheapest_46 rfl rfl ?_
            refine ww_iload_n dX11_cheapest_47 rfl rfl ?_
            refine ww_iload dX11_cheapest_48 rfl ?_
            refine ww_cVq (M := m_X11_cheapest) (pc := 50) (v := .int (fareT g9 sz kf vf n 2)) (st := []) (bc := 0) (bs := 0) (c_M_fareT hst hok qq2 n (by omega) 2 (by omega)) vv_X11_fareBy dX11_cheapest_50 wg_1555 qq2.1.K0 rfl rfl rfl rfl (Nat.le_of_ble_eq_true rfl) (Nat.le_of_ble_eq_true rfl) (Nat.le_of_ble_eq_true rfl) (Nat.le_of_ble_eq_true rfl) (fun hq5 qq5 => ?_)
            refine ww_aload_n dX11_cheapest_53 rfl rfl ?_
            refine ww_iload_n dX11_cheapest_54 rfl rfl ?_
            refine ww_iload_n dX11_cheapest_55 rfl rfl ?_
            refine ww_cVq (M := m_X11_cheapest) (pc := 56) (v := .int (fareT g9 sz kf vf n 1)) (st := [.int (fareT g9 sz kf vf n 2)]) (bc := 0) (bs := 0) (c_M_fareT hst hok qq5 n (by omega) 1 (by omega)) vv_X11_fareBy dX11_cheapest_56 wg_1555 qq5.1.K0 rfl rfl rfl rfl (Nat.le_of_ble_eq_true rfl) (Nat.le_of_ble_eq_true rfl) (Nat.le_of_ble_eq_true rfl) (Nat.le_of_ble_eq_true rfl) (fun hq6 qq6 => ?_)
            refine ww_icmp_ge (tgt := 67) dX11_cheapest_59 (by decide) (fun c59 => ?_) (fun c59 => ?_)
            · refine ww_iload_n dX11_cheapest_67 rfl rfl ?_
              refine ww_sti_n (lv2 := [.ref m, .int (nI n), .int (nI 0), .int (nI 1), .int (nI 2)]) dX11_cheapest_68 rfl rfl (by decide) rfl ?_
              refine ww_incN (c := 1) (lv2 := [.ref m, .int (nI n), .int (nI 0), .int (nI 1), .int (nI 3)]) dX11_cheapest_69 rfl rfl rfl (by decide) rfl ?_
              refine ww_goto (tgt := 40) dX11_cheapest_72 (by decide) ?_
              refine ww_iload dX11_cheapest_40 rfl ?_
              refine ww_iconst (v := nI 2) dX11_cheapest_42 (by decide) ?_
              refine ww_icmp_gtN (tgt := 75) dX11_cheapest_43 (by decide) (by omega) (by omega) (fun c43 => ?_) (fun c43 => ?_)
              · refine ww_iload_n dX11_cheapest_75 rfl rfl ?_
                refine ww_if_neN (tgt := 83) dX11_cheapest_76 (by decide) (by omega) (fun c76 => ?_) (fun c76 => ?_)
                · exact absurd c76 (by decide)
                · refine ww_iload_n dX11_cheapest_79 rfl rfl ?_
                  refine ww_goto (tgt := 89) dX11_cheapest_80 (by decide) ?_
                  exact ww_iret dX11_cheapest_89 rfl ⟨by rw [← fareT_eq hg9]; simp only [← Int32.not_lt, Classical.not_not] at *; simp [chW, *], qq6.2.2.2.1, qq6.2.2.2.2⟩
              · exact absurd c43 (by decide)
            · refine ww_iload dX11_cheapest_62 rfl ?_
              refine ww_goto (tgt := 68) dX11_cheapest_64 (by decide) ?_
              refine ww_sti_n (lv2 := [.ref m, .int (nI n), .int (nI 0), .int (nI 2), .int (nI 2)]) dX11_cheapest_68 rfl rfl (by decide) rfl ?_
              refine ww_incN (c := 1) (lv2 := [.ref m, .int (nI n), .int (nI 0), .int (nI 2), .int (nI 3)]) dX11_cheapest_69 rfl rfl rfl (by decide) rfl ?_
              refine ww_goto (tgt := 40) dX11_cheapest_72 (by decide) ?_
              refine ww_iload dX11_cheapest_40 rfl ?_
              refine ww_iconst (v := nI 2) dX11_cheapest_42 (by decide) ?_
              refine ww_icmp_gtN (tgt := 75) dX11_cheapest_43 (by decide) (by omega) (by omega) (fun c43 => ?_) (fun c43 => ?_)
              · refine ww_iload_n dX11_cheapest_75 rfl rfl ?_
                refine ww_if_neN (tgt := 83) dX11_cheapest_76 (by decide) (by omega) (fun c76 => ?_) (fun c76 => ?_)
                · exact absurd c76 (by decide)
                · refine ww_iload_n dX11_cheapest_79 rfl rfl ?_
                  refine ww_goto (tgt := 89) dX11_cheapest_80 (by decide) ?_
                  exact ww_iret dX11_cheapest_89 rfl ⟨by rw [← fareT_eq hg9]; simp only [← Int32.not_lt, Classical.not_not] at *; simp [chW, *], qq6.2.2.2.1, qq6.2.2.2.2⟩
              · exact absurd c43 (by decide)
    · exact absurd c26 (by decide)
set_option maxHeartbeats 4000000 in
set_option maxRecDepth 100000 in
theorem c_M_cheapest1 {l : Launch} {Z : EE} (hst : l.stackTraces = false) {h : PH} {m : Nat} (hM : ModS h m) {f : Nat → Int32} (hf : hp_I h (m + 14) = f) {g : Nat → Int32} (hs : hp_I h (m + 15) = g) {sz : Nat} {kf vf : Nat → Int32} (hQ : LawM h m sz kf vf) (hok : LawOK kf vf sz) (n : Nat) (hn : n ≤ 60) : CC l Z m_X11_cheapest 5 0 0 [.ref m, .int (nI n), .int (nI 1)] h (MOk (fareT f sz kf vf n (chW (fareT f sz kf vf n 0) (fareT f sz kf vf n 1) (fareT f sz kf vf n 2))) m h) := by
  refine ee_entry hst (by decide +kernel) rfl rfl (by simp [Value.category]) (Nat.le_of_ble_eq_true rfl) ?_
  refine ww_lv (lv2 := [.ref m, .int (nI n), .int (nI 1), UU, UU]) rfl ?_
  refine ww_aload_n dX11_cheapest_0 rfl rfl ?_
  refine ww_iconst (v := nI 0) dX11_cheapest_1 (by decide) ?_
  refine ww_pfI tyX11 0 dX11_cheapest_2 hM.K0 rfl (by decide) inX11 tyX11_ok nmX11 wg_1240 rfl rfl ?_
  refine ww_aload_n dX11_cheapest_5 rfl rfl ?_
  refine ww_iload_n dX11_cheapest_6 rfl rfl ?_
  refine ww_iconst (v := nI 1) dX11_cheapest_7 (by decide) ?_
  refine ww_cVr (M := m_X11_cheapest) (pc := 8) (v := .int (nI 1)) (h1 := hp_sF h m 0 (.int (nI 0))) (st := []) (bc := 0) (bs := 0) (c_M_isThere_t hst (h := hp_sF h m 0 (.int (nI 0))) (ModS.sF hM (by decide)) (hp_F_eq _ _ _ _) n hn) vv_X11_isThere dX11_cheapest_8 wg_1620 hM.K0 rfl rfl rfl rfl (Nat.le_of_ble_eq_true rfl) (Nat.le_of_ble_eq_true rfl) (Nat.le_of_ble_eq_true rfl) (Nat.le_of_ble_eq_true rfl) ?_
  refine ww_if_eqN (tgt := 29) dX11_cheapest_11 (by decide) (by omega) (fun c11 => ?_) (fun c11 => ?_)
  · exact absurd c11 (by decide)
  · refine ww_aload_n dX11_cheapest_14 rfl rfl ?_
    refine ww_iload_n dX11_cheapest_15 rfl rfl ?_
    refine ww_iconst (v := nI 0) dX11_cheapest_16 (by decide) ?_
    refine ww_iconst (v := nI 1) dX11_cheapest_17 (by decide) ?_
    refine ww_cSr (M := m_X11_cheapest) (pc := 18) (v := .int (nI 1)) (h1 := hp_sF h m 0 (.int (nI 0))) (st := [.ref m]) (bc := 0) (bs := 0) (c_M_within_t hst (nI 1) (nI 0) (nI 1) (by decide) (by decide) _) vv_X11_within dX11_cheapest_18 wg_1601 rfl rfl rfl (Nat.le_of_ble_eq_true rfl) (Nat.le_of_ble_eq_true rfl) (Nat.le_of_ble_eq_true rfl) (Nat.le_of_ble_eq_true rfl) ?_
    refine ww_iconst (v := nI 2) dX11_cheapest_21 (by decide) ?_
    refine ww_iconst (v := nI 1) dX11_cheapest_22 (by decide) ?_
    refine ww_cVr (M := m_X11_cheapest) (pc := 23) (v := .int (nI 1)) (h1 := hp_sF h m 0 (.int (nI 0))) (st := []) (bc := 0) (bs := 0) (c_M_may_t hst (h := hp_sF h m 0 (.int (nI 0))) (ModS.sF hM (by decide)) (hp_F_eq _ _ _ _) (nI 2) (nI 1)) vv_X11_may dX11_cheapest_23 wg_1413 hM.K0 rfl rfl rfl rfl (Nat.le_of_ble_eq_true rfl) (Nat.le_of_ble_eq_true rfl) (Nat.le_of_ble_eq_true rfl) (Nat.le_of_ble_eq_true rfl) ?_
    refine ww_if_neN (tgt := 31) dX11_cheapest_26 (by decide) (by omega) (fun c26 => ?_) (fun c26 => ?_)
    · refine ww_aload_n dX11_cheapest_31 rfl rfl ?_
      refine ww_cV0 (M := m_X11_cheapest) (pc := 32) (h1 := hp_sI (hp_sF h m 0 (.int (nI 0))) (m + 15) (cpF f g 190)) (st := []) (bc := 0) (bs := 0) (c_M_take hst (h := hp_sF h m 0 (.int (nI 0))) (ModS.sF hM (by decide)) hf hs) vv_X11_take dX11_cheapest_32 wg_1539 hM.K0 rfl rfl rfl rfl (Nat.le_of_ble_eq_true rfl) (Nat.le_of_ble_eq_true rfl) (Nat.le_of_ble_eq_true rfl) (Nat.le_of_ble_eq_true rfl) ?_
      have hI0 : MI m sz kf vf (cpF f g 190) h (hp_sI (hp_sF h m 0 (.int (nI 0))) (m + 15) (cpF f g 190)) := MI.start hM hQ
      generalize hp_sI (hp_sF h m 0 (.int (nI 0))) (m + 15) (cpF f g 190) = hq0 at hI0 ⊢
      generalize hge : cpF f g 190 = g9 at hI0
      have hg9 : ∀ i, i < 190 → g9 i = f i := fun i hi => by rw [← hge]; exact cpF_in hi
      refine ww_iconst (v := nI 0) dX11_cheapest_35 (by decide) ?_
      refine ww_sti_n (lv2 := [.ref m, .int (nI n), .int (nI 1), .int (nI 0), UU]) dX11_cheapest_36 rfl rfl (by decide) rfl ?_
      refine ww_iconst (v := nI 1) dX11_cheapest_37 (by decide) ?_
      refine ww_sti (lv2 := [.ref m, .int (nI n), .int (nI 1), .int (nI 0), .int (nI 1)]) dX11_cheapest_38 rfl (by decide) rfl ?_
      refine ww_iload dX11_cheapest_40 rfl ?_
      refine ww_iconst (v := nI 2) dX11_cheapest_42 (by decide) ?_
      refine ww_icmp_gtN (tgt := 75) dX11_cheapest_43 (by decide) (by omega) (by omega) (fun c43 => ?_) (fun c43 => ?_)
      · exact absurd c43 (by decide)
      · refine ww_aload_n dX11_cheapest_46 rfl rfl ?_
        refine ww_iload_n dX11_cheapest_47 rfl rfl ?_
        refine ww_iload dX11_cheapest_48 rfl ?_
        refine ww_cVq (M := m_X11_cheapest) (pc := 50) (v := .int (fareT g9 sz kf vf n 1)) (st := []) (bc := 0) (bs := 0) (c_M_fareT hst hok hI0 n (by omega) 1 (by omega)) vv_X11_fareBy dX11_cheapest_50 wg_1555 hI0.1.K0 rfl rfl rfl rfl (Nat.le_of_ble_eq_true rfl) (Nat.le_of_ble_eq_true rfl) (Nat.le_of_ble_eq_true rfl) (Nat.le_of_ble_eq_true rfl) (fun hq7 qq7 => ?_)
        refine ww_aload_n dX11_cheapest_53 rfl rfl ?_
        refine ww_iload_n dX11_cheapest_54 rfl rfl ?_
        refine ww_iload_n dX11_cheapest_55 rfl rfl ?_
        refine ww_cVq (M := m_X11_cheapest) (pc := 56) (v := .int (fareT g9 sz kf vf n 0)) (st := [.int (fareT g9 sz kf vf n 1)]) (bc := 0) (bs := 0) (c_M_fareT hst hok qq7 n (by omega) 0 (by omega)) vv_X11_fareBy dX11_cheapest_56 wg_1555 qq7.1.K0 rfl rfl rfl rfl (Nat.le_of_ble_eq_true rfl) (Nat.le_of_ble_eq_true rfl) (Nat.le_of_ble_eq_true rfl) (Nat.le_of_ble_eq_true rfl) (fun hq8 qq8 => ?_)
        refine ww_icmp_ge (tgt := 67) dX11_cheapest_59 (by decide) (fun c59 => ?_) (fun c59 => ?_)
        · refine ww_iload_n dX11_cheapest_67 rfl rfl ?_
          refine ww_sti_n (lv2 := [.ref m, .int (nI n), .int (nI 1), .int (nI 0), .int (nI 1)]) dX11_cheapest_68 rfl rfl (by decide) rfl ?_
          refine ww_incN (c := 1) (lv2 := [.ref m, .int (nI n), .int (nI 1), .int (nI 0), .int (nI 2)]) dX11_cheapest_69 rfl rfl rfl (by decide) rfl ?_
          refine ww_goto (tgt := 40) dX11_cheapest_72 (by decide) ?_
          refine ww_iload dX11_cheapest_40 rfl ?_
          refine ww_iconst (v := nI 2) dX11_cheapest_42 (by decide) ?_
          refine ww_icmp_gtN (tgt := 75) dX11_cheapest_43 (by decide) (by omega) (by omega) (fun c43 => ?_) (fun c43 => ?_)
          · exact absurd c43 (by decide)
          · refine ww_aload_n dX11_cheapest_46 rfl rfl ?_
            refine ww_iload_n dX11_cheapest_47 rfl rfl ?_
            refine ww_iload dX11_cheapest_48 rfl ?_
            refine ww_cVq (M := m_X11_cheapest) (pc := 50) (v := .int (fareT g9 sz kf vf n 2)) (st := []) (bc := 0) (bs := 0) (c_M_fareT hst hok qq8 n (by omega) 2 (by omega)) vv_X11_fareBy dX11_cheapest_50 wg_1555 qq8.1.K0 rfl rfl rfl rfl (Nat.le_of_ble_eq_true rfl) (Nat.le_of_ble_eq_true rfl) (Nat.le_of_ble_eq_true rfl) (Nat.le_of_ble_eq_true rfl) (fun hq9 qq9 => ?_)
            refine ww_aload_n dX11_cheapest_53 rfl rfl ?_
            refine ww_iload_n dX11_cheapest_54 rfl rfl ?_
            refine ww_iload_n dX11_cheapest_55 rfl rfl ?_
            refine ww_cVq (M := m_X11_cheapest) (pc := 56) (v := .int (fareT g9 sz kf vf n 0)) (st := [.int (fareT g9 sz kf vf n 2)]) (bc := 0) (bs := 0) (c_M_fareT hst hok qq9 n (by omega) 0 (by omega)) vv_X11_fareBy dX11_cheapest_56 wg_1555 qq9.1.K0 rfl rfl rfl rfl (Nat.le_of_ble_eq_true rfl) (Nat.le_of_ble_eq_true rfl) (Nat.le_of_ble_eq_true rfl) (Nat.le_of_ble_eq_true rfl) (fun hq10 qq10 => ?_)
            refine ww_icmp_ge (tgt := 67) dX11_cheapest_59 (by decide) (fun c59 => ?_) (fun c59 => ?_)
            · refine ww_iload_n dX11_cheapest_67 rfl rfl ?_
              refine ww_sti_n (lv2 := [.ref m, .int (nI n), .int (nI 1), .int (nI 0), .int (nI 2)]) dX11_cheapest_68 rfl rfl (by decide) rfl ?_
              refine ww_incN (c := 1) (lv2 := [.ref m, .int (nI n), .int (nI 1), .int (nI 0), .int (nI 3)]) dX11_cheapest_69 rfl rfl rfl (by decide) rfl ?_
              refine ww_goto (tgt := 40) dX11_cheapest_72 (by decide) ?_
              refine ww_iload dX11_cheapest_40 rfl ?_
              refine ww_iconst (v := nI 2) dX11_cheapest_42 (by decide) ?_
              refine ww_icmp_gtN (tgt := 75) dX11_cheapest_43 (by decide) (by omega) (by omega) (fun c43 => ?_) (fun c43 => ?_)
              · refine ww_iload_n dX11_cheapest_75 rfl rfl ?_
                refine ww_if_neN (tgt := 83) dX11_cheapest_76 (by decide) (by omega) (fun c76 => ?_) (fun c76 => ?_)
                · refine ww_aload_n dX11_cheapest_83 rfl rfl ?_
                  refine ww_iload_n dX11_cheapest_84 rfl rfl ?_
                  refine ww_iload_n dX11_cheapest_85 rfl rfl ?_
                  refine ww_cVq (M := m_X11_cheapest) (pc := 86) (v := .int (fareT g9 sz kf vf n 0)) (st := []) (bc := 0) (bs := 0) (c_M_fareT hst hok qq10 n (by omega) 0 (by omega)) vv_X11_fareBy dX11_cheapest_86 wg_1555 qq10.1.K0 rfl rfl rfl rfl (Nat.le_of_ble_eq_true rfl) (Nat.le_of_ble_eq_true rfl) (Nat.le_of_ble_eq_true rfl) (Nat.le_of_ble_eq_true rfl) (fun hq11 qq11 => ?_)
                  exact ww_iret dX11_cheapest_89 rfl ⟨by rw [← fareT_eq hg9]; simp only [← Int32.not_lt, Classical.not_not] at *; simp [chW, *], qq11.2.2.2.1, qq11.2.2.2.2⟩
                · exact absurd c76 (by decide)
              · exact absurd c43 (by decide)
            · refine ww_iload dX11_cheapest_62 rfl ?_
              refine ww_goto (tgt := 68) dX11_cheapest_64 (by decide) ?_
              refine ww_sti_n (lv2 := [.ref m, .int (nI n), .int (nI 1), .int (nI 2), .int (nI 2)]) dX11_cheapest_68 rfl rfl (by decide) rfl ?_
              refine ww_incN (c := 1) (lv2 := [.ref m, .int (nI n), .int (nI 1), .int (nI 2), .int (nI 3)]) dX11_cheapest_69 rfl rfl rfl (by decide) rfl ?_
              refine ww_goto (tgt := 40) dX11_cheapest_72 (by decide) ?_
              refine ww_iload dX11_cheapest_40 rfl ?_
              refine ww_iconst (v := nI 2) dX11_cheapest_42 (by decide) ?_
              refine ww_icmp_gtN (tgt := 75) dX11_cheapest_43 (by decide) (by omega) (by omega) (fun c43 => ?_) (fun c43 => ?_)
              · refine ww_iload_n dX11_cheapest_75 rfl rfl ?_
                refine ww_if_neN (tgt := 83) dX11_cheapest_76 (by decide) (by omega) (fun c76 => ?_) (fun c76 => ?_)
                · refine ww_aload_n dX11_cheapest_83 rfl rfl ?_
                  refine ww_iload_n dX11_cheapest_84 rfl rfl ?_
                  refine ww_iload_n dX11_cheapest_85 rfl rfl ?_
                  refine ww_cVq (M := m_X11_cheapest) (pc := 86) (v := .int (fareT g9 sz kf vf n 2)) (st := []) (bc := 0) (bs := 0) (c_M_fareT hst hok qq10 n (by omega) 2 (by omega)) vv_X11_fareBy dX11_cheapest_86 wg_1555 qq10.1.K0 rfl rfl rfl rfl (Nat.le_of_ble_eq_true rfl) (Nat.le_of_ble_eq_true rfl) (Nat.le_of_ble_eq_true rfl) (Nat.le_of_ble_eq_true rfl) (fun hq12 qq12 => ?_)
                  exact ww_iret dX11_cheapest_89 rfl ⟨by rw [← fareT_eq hg9]; simp only [← Int32.not_lt, Classical.not_not] at *; simp [chW, *], qq12.2.2.2.1, qq12.2.2.2.2⟩
                · exact absurd c76 (by decide)
              · exact absurd c43 (by decide)
        · refine ww_iload dX11_cheapest_62 rfl ?_
          refine ww_goto (tgt := 68) dX11_cheapest_64 (by decide) ?_
          refine ww_sti_n (lv2 := [.ref m, .int (nI n), .int (nI 1), .int (nI 1), .int (nI 1)]) dX11_cheapest_68 rfl rfl (by decide) rfl ?_
          refine ww_incN (c := 1) (lv2 := [.ref m, .int (nI n), .int (nI 1), .int (nI 1), .int (nI 2)]) dX11_cheapest_69 rfl rfl rfl (by decide) rfl ?_
          refine ww_goto (tgt := 40) dX11_cheapest_72 (by decide) ?_
          refine ww_iload dX11_cheapest_40 rfl ?_
          refine ww_iconst (v := nI 2) dX11_cheapest_42 (by decide) ?_
          refine ww_icmp_gtN (tgt := 75) dX11_cheapest_43 (by decide) (by omega) (by omega) (fun c43 => ?_) (fun c43 => ?_)
          · exact absurd c43 (by decide)
          · refine ww_aload_n dX11_cheapest_46 rfl rfl ?_
            refine ww_iload_n dX11_cheapest_47 rfl rfl ?_
            refine ww_iload dX11_cheapest_48 rfl ?_
            refine ww_cVq (M := m_X11_cheapest) (pc := 50) (v := .int (fareT g9 sz kf vf n 2)) (st := []) (bc := 0) (bs := 0) (c_M_fareT hst hok qq8 n (by omega) 2 (by omega)) vv_X11_fareBy dX11_cheapest_50 wg_1555 qq8.1.K0 rfl rfl rfl rfl (Nat.le_of_ble_eq_true rfl) (Nat.le_of_ble_eq_true rfl) (Nat.le_of_ble_eq_true rfl) (Nat.le_of_ble_eq_true rfl) (fun hq13 qq13 => ?_)
            refine ww_aload_n dX11_cheapest_53 rfl rfl ?_
            refine ww_iload_n dX11_cheapest_54 rfl rfl ?_
            refine ww_iload_n dX11_cheapest_55 rfl rfl ?_
            refine ww_cVq (M := m_X11_cheapest) (pc := 56) (v := .int (fareT g9 sz kf vf n 1)) (st := [.int (fareT g9 sz kf vf n 2)]) (bc := 0) (bs := 0) (c_M_fareT hst hok qq13 n (by omega) 1 (by omega)) vv_X11_fareBy dX11_cheapest_56 wg_1555 qq13.1.K0 rfl rfl rfl rfl (Nat.le_of_ble_eq_true rfl) (Nat.le_of_ble_eq_true rfl) (Nat.le_of_ble_eq_true rfl) (Nat.le_of_ble_eq_true rfl) (fun hq14 qq14 => ?_)
            refine ww_icmp_ge (tgt := 67) dX11_cheapest_59 (by decide) (fun c59 => ?_) (fun c59 => ?_)
            · refine ww_iload_n dX11_cheapest_67 rfl rfl ?_
              refine ww_sti_n (lv2 := [.ref m, .int (nI n), .int (nI 1), .int (nI 1), .int (nI 2)]) dX11_cheapest_68 rfl rfl (by decide) rfl ?_
              refine ww_incN (c := 1) (lv2 := [.ref m, .int (nI n), .int (nI 1), .int (nI 1), .int (nI 3)]) dX11_cheapest_69 rfl rfl rfl (by decide) rfl ?_
              refine ww_goto (tgt := 40) dX11_cheapest_72 (by decide) ?_
              refine ww_iload dX11_cheapest_40 rfl ?_
              refine ww_iconst (v := nI 2) dX11_cheapest_42 (by decide) ?_
              refine ww_icmp_gtN (tgt := 75) dX11_cheapest_43 (by decide) (by omega) (by omega) (fun c43 => ?_) (fun c43 => ?_)
              · refine ww_iload_n dX11_cheapest_75 rfl rfl ?_
                refine ww_if_neN (tgt := 83) dX11_cheapest_76 (by decide) (by omega) (fun c76 => ?_) (fun c76 => ?_)
                · refine ww_aload_n dX11_cheapest_83 rfl rfl ?_
                  refine ww_iload_n dX11_cheapest_84 rfl rfl ?_
                  refine ww_iload_n dX11_cheapest_85 rfl rfl ?_
                  refine ww_cVq (M := m_X11_cheapest) (pc := 86) (v := .int (fareT g9 sz kf vf n 1)) (st := []) (bc := 0) (bs := 0) (c_M_fareT hst hok qq14 n (by omega) 1 (by omega)) vv_X11_fareBy dX11_cheapest_86 wg_1555 qq14.1.K0 rfl rfl rfl rfl (Nat.le_of_ble_eq_true rfl) (Nat.le_of_ble_eq_true rfl) (Nat.le_of_ble_eq_true rfl) (Nat.le_of_ble_eq_true rfl) (fun hq15 qq15 => ?_)
                  exact ww_iret dX11_cheapest_89 rfl ⟨by rw [← fareT_eq hg9]; simp only [← Int32.not_lt, Classical.not_not] at *; simp [chW, *], qq15.2.2.2.1, qq15.2.2.2.2⟩
                · exact absurd c76 (by decide)
              · exact absurd c43 (by decide)
            · refine ww_iload dX11_cheapest_62 rfl ?_
              refine ww_goto (tgt := 68) dX11_cheapest_64 (by decide) ?_
              refine ww_sti_n (lv2 := [.ref m, .int (nI n), .int (nI 1), .int (nI 2), .int (nI 2)]) dX11_cheapest_68 rfl rfl (by decide) rfl ?_
              refine ww_incN (c := 1) (lv2 := [.ref m, .int (nI n), .int (nI 1), .int (nI 2), .int (nI 3)]) dX11_cheapest_69 rfl rfl rfl (by decide) rfl ?_
              refine ww_goto (tgt := 40) dX11_cheapest_72 (by decide) ?_
              refine ww_iload dX11_cheapest_40 rfl ?_
              refine ww_iconst (v := nI 2) dX11_cheapest_42 (by decide) ?_
              refine ww_icmp_gtN (tgt := 75) dX11_cheapest_43 (by decide) (by omega) (by omega) (fun c43 => ?_) (fun c43 => ?_)
              · refine ww_iload_n dX11_cheapest_75 rfl rfl ?_
                refine ww_if_neN (tgt := 83) dX11_cheapest_76 (by decide) (by omega) (fun c76 => ?_) (fun c76 => ?_)
                · refine ww_aload_n dX11_cheapest_83 rfl rfl ?_
                  refine ww_iload_n dX11_cheapest_84 rfl rfl ?_
                  refine ww_iload_n dX11_cheapest_85 rfl rfl ?_
                  refine ww_cVq (M := m_X11_cheapest) (pc := 86) (v := .int (fareT g9 sz kf vf n 2)) (st := []) (bc := 0) (bs := 0) (c_M_fareT hst hok qq14 n (by omega) 2 (by omega)) vv_X11_fareBy dX11_cheapest_86 wg_1555 qq14.1.K0 rfl rfl rfl rfl (Nat.le_of_ble_eq_true rfl) (Nat.le_of_ble_eq_true rfl) (Nat.le_of_ble_eq_true rfl) (Nat.le_of_ble_eq_true rfl) (fun hq16 qq16 => ?_)
                  exact ww_iret dX11_cheapest_89 rfl ⟨by rw [← fareT_eq hg9]; simp only [← Int32.not_lt, Classical.not_not] at *; simp [chW, *], qq16.2.2.2.1, qq16.2.2.2.2⟩
                · exact absurd c76 (by decide)
              · exact absurd c43 (by decide)
    · exact absurd c26 (by decide)
set_option maxHeartbeats 4000000 in
set_option maxRecDepth 100000 in
theorem c_M_cheapest_no0 {l : Launch} {Z : EE} (hst : l.stackTraces = false) {h : PH} {m : Nat} (hM : ModS h m) {f : Nat → Int32} (hf : hp_I h (m + 14) = f) {g : Nat → Int32} (hs : hp_I h (m + 15) = g) {sz : Nat} {kf vf : Nat → Int32} (hQ : LawM h m sz kf vf) (hok : LawOK kf vf sz) (n : Int32) (w : Int32) (hout : outR 0 60 n) : CC l Z m_X11_cheapest 5 0 0 [.ref m, .int n, .int w] h (MNo 1 0 m h) := by
  refine ee_entry hst (by decide +kernel) rfl rfl (by simp [Value.category]) (Nat.le_of_ble_eq_true rfl) ?_
  refine ww_lv (lv2 := [.ref m, .int n, .int w, UU, UU]) rfl ?_
  refine ww_aload_n dX11_cheapest_0 rfl rfl ?_
  refine ww_iconst (v := nI 0) dX11_cheapest_1 (by decide) ?_
  refine ww_pfI tyX11 0 dX11_cheapest_2 hM.K0 rfl (by decide) inX11 tyX11_ok nmX11 wg_1240 rfl rfl ?_
  refine ww_aload_n dX11_cheapest_5 rfl rfl ?_
  refine ww_iload_n dX11_cheapest_6 rfl rfl ?_
  refine ww_iconst (v := nI 1) dX11_cheapest_7 (by decide) ?_
  refine ww_cVr (M := m_X11_cheapest) (pc := 8) (v := .int (nI 0)) (h1 := hp_sI (hp_sF (hp_sF h m 0 (.int (nI 0))) m 0 (.int (nI 1))) (m + 1) (upd (hp_I (hp_sF h m 0 (.int (nI 0))) (m + 1)) 0 (hp_I (hp_sF h m 0 (.int (nI 0))) (m + 1) 0 + nI 1))) (st := []) (bc := 0) (bs := 0) (c_M_isThere_f hst (h := hp_sF h m 0 (.int (nI 0))) (ModS.sF hM (by decide)) (hp_F_eq _ _ _ _) n hout) vv_X11_isThere dX11_cheapest_8 wg_1620 hM.K0 rfl rfl rfl rfl (Nat.le_of_ble_eq_true rfl) (Nat.le_of_ble_eq_true rfl) (Nat.le_of_ble_eq_true rfl) (Nat.le_of_ble_eq_true rfl) ?_
  refine ww_if_eqN (tgt := 29) dX11_cheapest_11 (by decide) (by omega) (fun c11 => ?_) (fun c11 => ?_)
  · refine ww_iconst (v := nI 0) dX11_cheapest_29 (by decide) ?_
    exact ww_iret dX11_cheapest_30 rfl ⟨rfl, (((Same.rf.sF (SY0 m)).sF (SY0 m)).sI (Or.inr rfl)), (hp_F_eq _ _ _ _), by rw [hp_I_eq]; rfl⟩
  · exact absurd c11 (by decide)
set_option maxHeartbeats 4000000 in
set_option maxRecDepth 100000 in
theorem c_M_cheapest_no1 {l : Launch} {Z : EE} (hst : l.stackTraces = false) {h : PH} {m : Nat} (hM : ModS h m) {f : Nat → Int32} (hf : hp_I h (m + 14) = f) {g : Nat → Int32} (hs : hp_I h (m + 15) = g) {sz : Nat} {kf vf : Nat → Int32} (hQ : LawM h m sz kf vf) (hok : LawOK kf vf sz) (n : Nat) (hn : n ≤ 60) (w : Int32) (hout : outR 0 1 w) : CC l Z m_X11_cheapest 5 0 0 [.ref m, .int (nI n), .int w] h (MNo 2 1 m h) := by
  refine ee_entry hst (by decide +kernel) rfl rfl (by simp [Value.category]) (Nat.le_of_ble_eq_true rfl) ?_
  refine ww_lv (lv2 := [.ref m, .int (nI n), .int w, UU, UU]) rfl ?_
  refine ww_aload_n dX11_cheapest_0 rfl rfl ?_
  refine ww_iconst (v := nI 0) dX11_cheapest_1 (by decide) ?_
  refine ww_pfI tyX11 0 dX11_cheapest_2 hM.K0 rfl (by decide) inX11 tyX11_ok nmX11 wg_1240 rfl rfl ?_
  refine ww_aload_n dX11_cheapest_5 rfl rfl ?_
  refine ww_iload_n dX11_cheapest_6 rfl rfl ?_
  refine ww_iconst (v := nI 1) dX11_cheapest_7 (by decide) ?_
  refine ww_cVr (M := m_X11_cheapest) (pc := 8) (v := .int (nI 1)) (h1 := hp_sF h m 0 (.int (nI 0))) (st := []) (bc := 0) (bs := 0) (c_M_isThere_t hst (h := hp_sF h m 0 (.int (nI 0))) (ModS.sF hM (by decide)) (hp_F_eq _ _ _ _) n hn) vv_X11_isThere dX11_cheapest_8 wg_1620 hM.K0 rfl rfl rfl rfl (Nat.le_of_ble_eq_true rfl) (Nat.le_of_ble_eq_true rfl) (Nat.le_of_ble_eq_true rfl) (Nat.le_of_ble_eq_true rfl) ?_
  refine ww_if_eqN (tgt := 29) dX11_cheapest_11 (by decide) (by omega) (fun c11 => ?_) (fun c11 => ?_)
  · exact absurd c11 (by decide)
  · refine ww_aload_n dX11_cheapest_14 rfl rfl ?_
    refine ww_iload_n dX11_cheapest_15 rfl rfl ?_
    refine ww_iconst (v := nI 0) dX11_cheapest_16 (by decide) ?_
    refine ww_iconst (v := nI 1) dX11_cheapest_17 (by decide) ?_
    refine ww_cSr (M := m_X11_cheapest) (pc := 18) (v := .int (nI 0)) (h1 := hp_sF h m 0 (.int (nI 0))) (st := [.ref m]) (bc := 0) (bs := 0) (c_M_within_f hst w (nI 0) (nI 1) hout _) vv_X11_within dX11_cheapest_18 wg_1601 rfl rfl rfl (Nat.le_of_ble_eq_true rfl) (Nat.le_of_ble_eq_true rfl) (Nat.le_of_ble_eq_true rfl) (Nat.le_of_ble_eq_true rfl) ?_
    refine ww_iconst (v := nI 2) dX11_cheapest_21 (by decide) ?_
    refine ww_iconst (v := nI 1) dX11_cheapest_22 (by decide) ?_
    refine ww_cVr (M := m_X11_cheapest) (pc := 23) (v := .int (nI 0)) (h1 := hp_sI (hp_sF (hp_sF h m 0 (.int (nI 0))) m 0 (.int (nI 2))) (m + 1) (upd (hp_I (hp_sF h m 0 (.int (nI 0))) (m + 1)) 1 (hp_I (hp_sF h m 0 (.int (nI 0))) (m + 1) 1 + nI 1))) (st := []) (bc := 0) (bs := 0) (c_M_may_f hst (h := hp_sF h m 0 (.int (nI 0))) (ModS.sF hM (by decide)) (hp_F_eq _ _ _ _) 2 1 (by decide) (by decide) (by decide)) vv_X11_may dX11_cheapest_23 wg_1413 hM.K0 rfl rfl rfl rfl (Nat.le_of_ble_eq_true rfl) (Nat.le_of_ble_eq_true rfl) (Nat.le_of_ble_eq_true rfl) (Nat.le_of_ble_eq_true rfl) ?_
    refine ww_if_neN (tgt := 31) dX11_cheapest_26 (by decide) (by omega) (fun c26 => ?_) (fun c26 => ?_)
    · exact absurd c26 (by decide)
    · refine ww_iconst (v := nI 0) dX11_cheapest_29 (by decide) ?_
      exact ww_iret dX11_cheapest_30 rfl ⟨rfl, (((Same.rf.sF (SY0 m)).sF (SY0 m)).sI (Or.inr rfl)), (hp_F_eq _ _ _ _), by rw [hp_I_eq]; rfl⟩
set_option maxHeartbeats 4000000 in
set_option maxRecDepth 100000 in
theorem l_M_dearest {l : Launch} {Z : EE} (hst : l.stackTraces = false) {h : PH} {m : Nat} {g9 : Nat → Int32} {sz : Nat} {kf vf : Nat → Int32} (hok : LawOK kf vf sz) (a b : Nat) (hab : a ≤ b) (hb : b ≤ 60) (w : Int32) {Post : Res → PH → Prop} (hex : ∀ h3, MI m sz kf vf g9 h h3 → WW l Z m_X11_dearest 5 0 0 118 [.ref m, .int (nI a), .int (nI b), .int w, .int (nI ((deF (fun i => fareT g9 sz kf vf i 1) a ((b - a + 1))).1)), .int ((deF (fun i => fareT g9 sz kf vf i 1) a ((b - a + 1))).2), .int (nI (a + ((b - a + 1))))] [] h3 Post) : ∀ (j k : Nat) (h2 : PH), k + j = b - a + 1 → MI m sz kf vf g9 h h2 → WW l Z m_X11_dearest 5 0 0 68 [.ref m, .int (nI a), .int (nI b), .int w, .int (nI ((deF (fun i => fareT g9 sz kf vf i 1) a k).1)), .int ((deF (fun i => fareT g9 sz kf vf i 1) a k).2), .int (nI (a + k))] [] h2 Post := by
  intro j
  induction j with
  | zero =>
    intro k h2 hk hi
    have hk0 : k = b - a + 1 := by omega
    subst hk0
    have hdl := deF_le (fun i => fareT g9 sz kf vf i 1) a (b - a + 1)
    refine ww_iload dX11_dearest_68 rfl ?_
    refine ww_iload_n dX11_dearest_70 rfl rfl ?_
    refine ww_icmp_gtN (tgt := 118) dX11_dearest_71 (by decide) (by omega) (by omega) (fun c71 => ?_) (fun c71 => ?_)
    · exact hex _ hi
    · exfalso; omega
  | succ j ih =>
    intro k h2 hk hi
    have hdl : (deF (fun i => fareT g9 sz kf vf i 1) a k).1 ≤ 60 := by
      cases k with
      | zero => simp only [deF]; omega
      | succ k => have := deF_lt (fun i => fareT g9 sz kf vf i 1) a k; omega
    refine ww_iload dX11_dearest_68 rfl ?_
    refine ww_iload_n dX11_dearest_70 rfl rfl ?_
    refine ww_icmp_gtN (tgt := 118) dX11_dearest_71 (by decide) (by omega) (by omega) (fun c71 => ?_) (fun c71 => ?_)
    · exfalso; omega
    · refine ww_iload dX11_dearest_74 rfl ?_
      refine ww_aload_n dX11_dearest_76 rfl rfl ?_
      refine ww_iload dX11_dearest_77 rfl ?_
      refine ww_iconst (v := nI 1) dX11_dearest_79 (by decide) ?_
      refine ww_cVq (M := m_X11_dearest) (pc := 80) (v := .int (fareT g9 sz kf vf (a + k) 1)) (st := [.int ((deF (fun i => fareT g9 sz kf vf i 1) a k).2)]) (bc := 0) (bs := 0) (c_M_fareT hst hok hi (a + k) (by omega) 1 (by omega)) vv_X11_fareBy dX11_dearest_80 wg_1555 hi.1.K0 rfl rfl rfl rfl (Nat.le_of_ble_eq_true rfl) (Nat.le_of_ble_eq_true rfl) (Nat.le_of_ble_eq_true rfl) (Nat.le_of_ble_eq_true rfl) (fun hq17 qq17 => ?_)
      refine ww_iadd dX11_dearest_83 ?_
      refine ww_sti (lv2 := [.ref m, .int (nI a), .int (nI b), .int w, .int (nI ((deF (fun i => fareT g9 sz kf vf i 1) a k).1)), .int (((deF (fun i => fareT g9 sz kf vf i 1) a k).2) + (fareT g9 sz kf vf (a + k) 1)), .int (nI (a + k))]) dX11_dearest_84 rfl (by decide) rfl ?_
      refine ww_aload_n dX11_dearest_86 rfl rfl ?_
      refine ww_iload dX11_dearest_87 rfl ?_
      refine ww_iconst (v := nI 1) dX11_dearest_89 (by decide) ?_
      refine ww_cVq (M := m_X11_dearest) (pc := 90) (v := .int (fareT g9 sz kf vf (a + k) 1)) (st := []) (bc := 0) (bs := 0) (c_M_fareT hst hok qq17 (a + k) (by omega) 1 (by omega)) vv_X11_fareBy dX11_dearest_90 wg_1555 qq17.1.K0 rfl rfl rfl rfl (Nat.le_of_ble_eq_true rfl) (Nat.le_of_ble_eq_true rfl) (Nat.le_of_ble_eq_true rfl) (Nat.le_of_ble_eq_true rfl) (fun hq18 qq18 => ?_)
      refine ww_aload_n dX11_dearest_93 rfl rfl ?_
      refine ww_iload dX11_dearest_94 rfl ?_
      refine ww_iconst (v := nI 1) dX11_dearest_96 (by decide) ?_
      refine ww_cVq (M := m_X11_dearest) (pc := 97) (v := .int (fareT g9 sz kf vf ((deF (fun i => fareT g9 sz kf vf i 1) a k).1) 1)) (st := [.int (fareT g9 sz kf vf (a + k) 1)]) (bc := 0) (bs := 0) (c_M_fareT hst hok qq18 ((deF (fun i => fareT g9 sz kf vf i 1) a k).1) (by omega) 1 (by omega)) vv_X11_fareBy dX11_dearest_97 wg_1555 qq18.1.K0 rfl rfl rfl rfl (Nat.le_of_ble_eq_true rfl) (Nat.le_of_ble_eq_true rfl) (Nat.le_of_ble_eq_true rfl) (Nat.le_of_ble_eq_true rfl) (fun hq19 qq19 => ?_)
      refine ww_icmp_le (tgt := 108) dX11_dearest_100 (by decide) (fun c100 => ?_) (fun c100 => ?_)
      · refine ww_iload dX11_dearest_108 rfl ?_
        refine ww_sti (lv2 := [.ref m, .int (nI a), .int (nI b), .int w, .int (nI ((deF (fun i => fareT g9 sz kf vf i 1) a k).1)), .int (((deF (fun i => fareT g9 sz kf vf i 1) a k).2) + (fareT g9 sz kf vf (a + k) 1)), .int (nI (a + k))]) dX11_dearest_110 rfl (by decide) rfl ?_
        refine ww_incN (c := 1) (lv2 := [.ref m, .int (nI a), .int (nI b), .int w, .int (nI ((deF (fun i => fareT g9 sz kf vf i 1) a k).1)), .int (((deF (fun i => fareT g9 sz kf vf i 1) a k).2) + (fareT g9 sz kf vf (a + k) 1)), .int (nI (a + k + 1))]) dX11_dearest_112 rfl rfl rfl (by decide) rfl ?_
        refine ww_goto (tgt := 68) dX11_dearest_115 (by decide) ?_
        refine ww_lv (lv2 := [.ref m, .int (nI a), .int (nI b), .int w, .int (nI ((deF (fun i => fareT g9 sz kf vf i 1) a ((k + 1))).1)), .int ((deF (fun i => fareT g9 sz kf vf i 1) a ((k + 1))).2), .int (nI (a + ((k + 1))))]) (by simp only [← Int32.not_lt, Classical.not_not] at c100; simp [deF, c100, Nat.add_assoc]) ?_
        exact ih (k + 1) _ (by omega) qq19
      · refine ww_iload dX11_dearest_103 rfl ?_
        refine ww_goto (tgt := 110) dX11_dearest_105 (by decide) ?_
        refine ww_sti (lv2 := [.ref m, .int (nI a), .int (nI b), .int w, .int (nI (a + k)), .int (((deF (fun i => fareT g9 sz kf vf i 1) a k).2) + (fareT g9 sz kf vf (a + k) 1)), .int (nI (a + k))]) dX11_dearest_110 rfl (by decide) rfl ?_
        refine ww_incN (c := 1) (lv2 := [.ref m, .int (nI a), .int (nI b), .int w, .int (nI (a + k)), .int (((deF (fun i => fareT g9 sz kf vf i 1) a k).2) + (fareT g9 sz kf vf (a + k) 1)), .int (nI (a + k + 1))]) dX11_dearest_112 rfl rfl rfl (by decide) rfl ?_
        refine ww_goto (tgt := 68) dX11_dearest_115 (by decide) ?_
        refine ww_lv (lv2 := [.ref m, .int (nI a), .int (nI b), .int w, .int (nI ((deF (fun i => fareT g9 sz kf vf i 1) a ((k + 1))).1)), .int ((deF (fun i => fareT g9 sz kf vf i 1) a ((k + 1))).2), .int (nI (a + ((k + 1))))]) (by simp only [← Int32.not_lt, Classical.not_not] at c100; simp [deF, c100, Nat.add_assoc]) ?_
        exact ih (k + 1) _ (by omega) qq19
set_option maxHeartbeats 4000000 in
set_option maxRecDepth 100000 in
theorem c_M_dearest0 {l : Launch} {Z : EE} (hst : l.stackTraces = false) {h : PH} {m : Nat} (hM : ModS h m) {f : Nat → Int32} (hf : hp_I h (m + 14) = f) {g : Nat → Int32} (hs : hp_I h (m + 15) = g) {sz : Nat} {kf vf : Nat → Int32} (hQ : LawM h m sz kf vf) (hok : LawOK kf vf sz) (a b : Nat) (hab : a ≤ b) (hb : b ≤ 60) : CC l Z m_X11_dearest 5 0 0 [.ref m, .int (nI a), .int (nI b), .int (nI 0)] h (MOk (nI (deF (fun i => fareT f sz kf vf i 1) a (b - a + 1)).1) m h) := by
  refine ee_entry hst (by decide +kernel) rfl rfl (by simp [Value.category]) (Nat.le_of_ble_eq_true rfl) ?_
  refine ww_lv (lv2 := [.ref m, .int (nI a), .int (nI b), .int (nI 0), UU, UU, UU]) rfl ?_
  refine ww_aload_n dX11_dearest_0 rfl rfl ?_
  refine ww_iconst (v := nI 0) dX11_dearest_1 (by decide) ?_
  refine ww_pfI tyX11 0 dX11_dearest_2 hM.K0 rfl (by decide) inX11 tyX11_ok nmX11 wg_1240 rfl rfl ?_
  refine ww_aload_n dX11_dearest_5 rfl rfl ?_
  refine ww_iload_n dX11_dearest_6 rfl rfl ?_
  refine ww_iconst (v := nI 0) dX11_dearest_7 (by decide) ?_
  refine ww_bipush (v := nI 60) dX11_dearest_8 (by decide) ?_
  refine ww_cSr (M := m_X11_dearest) (pc := 10) (v := .int (nI 1)) (h1 := hp_sF h m 0 (.int (nI 0))) (st := [.ref m]) (bc := 0) (bs := 0) (c_M_within_t hst (nI a) (nI 0) (nI 60) (nI_le (by omega) (by omega)) (nI_le (by omega) (by omega)) _) vv_X11_within dX11_dearest_10 wg_1601 rfl rfl rfl (Nat.le_of_ble_eq_true rfl) (Nat.le_of_ble_eq_true rfl) (Nat.le_of_ble_eq_true rfl) (Nat.le_of_ble_eq_true rfl) ?_
  refine ww_if_eqN (tgt := 44) dX11_dearest_13 (by decide) (by omega) (fun c13 => ?_) (fun c13 => ?_)
  · exact absurd c13 (by decide)
  · refine ww_iload_n dX11_dearest_16 rfl rfl ?_
    refine ww_iconst (v := nI 0) dX11_dearest_17 (by decide) ?_
    refine ww_bipush (v := nI 60) dX11_dearest_18 (by decide) ?_
    refine ww_cSr (M := m_X11_dearest) (pc := 20) (v := .int (nI 1)) (h1 := hp_sF h m 0 (.int (nI 0))) (st := [.ref m]) (bc := 0) (bs := 0) (c_M_within_t hst (nI b) (nI 0) (nI 60) (nI_le (by omega) (by omega)) (nI_le (by omega) (by omega)) _) vv_X11_within dX11_dearest_20 wg_1601 rfl rfl rfl (Nat.le_of_ble_eq_true rfl) (Nat.le_of_ble_eq_true rfl) (Nat.le_of_ble_eq_true rfl) (Nat.le_of_ble_eq_true rfl) ?_
    refine ww_if_eqN (tgt := 44) dX11_dearest_23 (by decide) (by omega) (fun c23 => ?_) (fun c23 => ?_)
    · exact absurd c23 (by decide)
    · refine ww_iload_n dX11_dearest_26 rfl rfl ?_
      refine ww_iload_n dX11_dearest_27 rfl rfl ?_
      refine ww_icmp_gtN (tgt := 44) dX11_dearest_28 (by decide) (by omega) (by omega) (fun c28 => ?_) (fun c28 => ?_)
      · exfalso; omega
      · refine ww_iload_n dX11_dearest_31 rfl rfl ?_
        refine ww_iconst (v := nI 0) dX11_dearest_32 (by decide) ?_
        refine ww_iconst (v := nI 2) dX11_dearest_33 (by decide) ?_
        refine ww_cSr (M := m_X11_dearest) (pc := 34) (v := .int (nI 1)) (h1 := hp_sF h m 0 (.int (nI 0))) (st := [.ref m]) (bc := 0) (bs := 0) (c_M_within_t hst (nI 0) (nI 0) (nI 2) (by decide) (by decide) _) vv_X11_within dX11_dearest_34 wg_1601 rfl rfl rfl (Nat.le_of_ble_eq_true rfl) (Nat.le_of_ble_eq_true rfl) (Nat.le_of_ble_eq_true rfl) (Nat.le_of_ble_eq_true rfl) ?_
        refine ww_if_eqN (tgt := 44) dX11_dearest_37 (by decide) (by omega) (fun c37 => ?_) (fun c37 => ?_)
        · exact absurd c37 (by decide)
        · refine ww_iconst (v := nI 1) dX11_dearest_40 (by decide) ?_
          refine ww_goto (tgt := 45) dX11_dearest_41 (by decide) ?_
          refine ww_iconst (v := nI 1) dX11_dearest_45 (by decide) ?_
          refine ww_iconst (v := nI 1) dX11_dearest_46 (by decide) ?_
          refine ww_cVr (M := m_X11_dearest) (pc := 47) (v := .int (nI 1)) (h1 := hp_sF h m 0 (.int (nI 0))) (st := []) (bc := 0) (bs := 0) (c_M_may_t hst (h := hp_sF h m 0 (.int (nI 0))) (ModS.sF hM (by decide)) (hp_F_eq _ _ _ _) (nI 1) (nI 1)) vv_X11_may dX11_dearest_47 wg_1413 hM.K0 rfl rfl rfl rfl (Nat.le_of_ble_eq_true rfl) (Nat.le_of_ble_eq_true rfl) (Nat.le_of_ble_eq_true rfl) (Nat.le_of_ble_eq_true rfl) ?_
          refine ww_if_neN (tgt := 55) dX11_dearest_50 (by decide) (by omega) (fun c50 => ?_) (fun c50 => ?_)
          · refine ww_aload_n dX11_dearest_55 rfl rfl ?_
            refine ww_cV0 (M := m_X11_dearest) (pc := 56) (h1 := hp_sI (hp_sF h m 0 (.int (nI 0))) (m + 15) (cpF f g 190)) (st := []) (bc := 0) (bs := 0) (c_M_take hst (h := hp_sF h m 0 (.int (nI 0))) (ModS.sF hM (by decide)) hf hs) vv_X11_take dX11_dearest_56 wg_1539 hM.K0 rfl rfl rfl rfl (Nat.le_of_ble_eq_true rfl) (Nat.le_of_ble_eq_true rfl) (Nat.le_of_ble_eq_true rfl) (Nat.le_of_ble_eq_true rfl) ?_
            have hI0 : MI m sz kf vf (cpF f g 190) h (hp_sI (hp_sF h m 0 (.int (nI 0))) (m + 15) (cpF f g 190)) := MI.start hM hQ
            generalize hp_sI (hp_sF h m 0 (.int (nI 0))) (m + 15) (cpF f g 190) = hq0 at hI0 ⊢
            generalize hge : cpF f g 190 = g9 at hI0
            have hg9 : ∀ i, i < 190 → g9 i = f i := fun i hi => by rw [← hge]; exact cpF_in hi
            refine ww_iload_n dX11_dearest_59 rfl rfl ?_
            refine ww_sti (lv2 := [.ref m, .int (nI a), .int (nI b), .int (nI 0), .int (nI a), UU, UU]) dX11_dearest_60 rfl (by decide) rfl ?_
            refine ww_iconst (v := nI 0) dX11_dearest_62 (by decide) ?_
            refine ww_sti (lv2 := [.ref m, .int (nI a), .int (nI b), .int (nI 0), .int (nI a), .int (nI 0), UU]) dX11_dearest_63 rfl (by decide) rfl ?_
            refine ww_iload_n dX11_dearest_65 rfl rfl ?_
            refine ww_sti (lv2 := [.ref m, .int (nI a), .int (nI b), .int (nI 0), .int (nI a), .int (nI 0), .int (nI a)]) dX11_dearest_66 rfl (by decide) rfl ?_
            refine l_M_dearest hst hok a b hab hb (nI 0) (fun h3 hi3 => ?_) (b - a + 1) 0 _ (by omega) hI0
            have hdl := deF_lt (fun i => fareT g9 sz kf vf i 1) a (b - a)
            refine ww_iload_n dX11_dearest_118 rfl rfl ?_
            refine ww_if_neN (tgt := 127) dX11_dearest_119 (by decide) (by omega) (fun c119 => ?_) (fun c119 => ?_)
            · exact absurd c119 (by decide)
            · refine ww_iload dX11_dearest_122 rfl ?_
              refine ww_goto (tgt := 144) dX11_dearest_124 (by decide) ?_
              exact ww_iret dX11_dearest_144 rfl ⟨by rw [fareT_eq hg9], hi3.2.2.2.1, hi3.2.2.2.2⟩
          · exact absurd c50 (by decide)
set_option maxHeartbeats 4000000 in
set_option maxRecDepth 100000 in
theorem c_M_dearest1 {l : Launch} {Z : EE} (hst : l.stackTraces = false) {h : PH} {m : Nat} (hM : ModS h m) {f : Nat → Int32} (hf : hp_I h (m + 14) = f) {g : Nat → Int32} (hs : hp_I h (m + 15) = g) {sz : Nat} {kf vf : Nat → Int32} (hQ : LawM h m sz kf vf) (hok : LawOK kf vf sz) (a b : Nat) (hab : a ≤ b) (hb : b ≤ 60) : CC l Z m_X11_dearest 5 0 0 [.ref m, .int (nI a), .int (nI b), .int (nI 1)] h (MOk (fareT f sz kf vf (deF (fun i => fareT f sz kf vf i 1) a (b - a + 1)).1 1) m h) := by
  refine ee_entry hst (by decide +kernel) rfl rfl (by simp [Value.category]) (Nat.le_of_ble_eq_true rfl) ?_
  refine ww_lv (lv2 := [.ref m, .int (nI a), .int (nI b), .int (nI 1), UU, UU, UU]) rfl ?_
  refine ww_aload_n dX11_dearest_0 rfl rfl ?_
  refine ww_iconst (v := nI 0) dX11_dearest_1 (by decide) ?_
  refine ww_pfI tyX11 0 dX11_dearest_2 hM.K0 rfl (by decide) inX11 tyX11_ok nmX11 wg_1240 rfl rfl ?_
  refine ww_aload_n dX11_dearest_5 rfl rfl ?_
  refine ww_iload_n dX11_dearest_6 rfl rfl ?_
  refine ww_iconst (v := nI 0) dX11_dearest_7 (by decide) ?_
  refine ww_bipush (v := nI 60) dX11_dearest_8 (by decide) ?_
  refine ww_cSr (M := m_X11_dearest) (pc := 10) (v := .int (nI 1)) (h1 := hp_sF h m 0 (.int (nI 0))) (st := [.ref m]) (bc := 0) (bs := 0) (c_M_within_t hst (nI a) (nI 0) (nI 60) (nI_le (by omega) (by omega)) (nI_le (by omega) (by omega)) _) vv_X11_within dX11_dearest_10 wg_1601 rfl rfl rfl (Nat.le_of_ble_eq_true rfl) (Nat.le_of_ble_eq_true rfl) (Nat.le_of_ble_eq_true rfl) (Nat.le_of_ble_eq_true rfl) ?_
  refine ww_if_eqN (tgt := 44) dX11_dearest_13 (by decide) (by omega) (fun c13 => ?_) (fun c13 => ?_)
  · exact absurd c13 (by decide)
  · refine ww_iload_n dX11_dearest_16 rfl rfl ?_
    refine ww_iconst (v := nI 0) dX11_dearest_17 (by decide) ?_
    refine ww_bipush (v := nI 60) dX11_dearest_18 (by decide) ?_
    refine ww_cSr (M := m_X11_dearest) (pc := 20) (v := .int (nI 1)) (h1 := hp_sF h m 0 (.int (nI 0))) (st := [.ref m]) (bc := 0) (bs := 0) (c_M_within_t hst (nI b) (nI 0) (nI 60) (nI_le (by omega) (by omega)) (nI_le (by omega) (by omega)) _) vv_X11_within dX11_dearest_20 wg_1601 rfl rfl rfl (Nat.le_of_ble_eq_true rfl) (Nat.le_of_ble_eq_true rfl) (Nat.le_of_ble_eq_true rfl) (Nat.le_of_ble_eq_true rfl) ?_
    refine ww_if_eqN (tgt := 44) dX11_dearest_23 (by decide) (by omega) (fun c23 => ?_) (fun c23 => ?_)
    · exact absurd c23 (by decide)
    · refine ww_iload_n dX11_dearest_26 rfl rfl ?_
      refine ww_iload_n dX11_dearest_27 rfl rfl ?_
      refine ww_icmp_gtN (tgt := 44) dX11_dearest_28 (by decide) (by omega) (by omega) (fun c28 => ?_) (fun c28 => ?_)
      · exfalso; omega
      · refine ww_iload_n dX11_dearest_31 rfl rfl ?_
        refine ww_iconst (v := nI 0) dX11_dearest_32 (by decide) ?_
        refine ww_iconst (v := nI 2) dX11_dearest_33 (by decide) ?_
        refine ww_cSr (M := m_X11_dearest) (pc := 34) (v := .int (nI 1)) (h1 := hp_sF h m 0 (.int (nI 0))) (st := [.ref m]) (bc := 0) (bs := 0) (c_M_within_t hst (nI 1) (nI 0) (nI 2) (by decide) (by decide) _) vv_X11_within dX11_dearest_34 wg_1601 rfl rfl rfl (Nat.le_of_ble_eq_true rfl) (Nat.le_of_ble_eq_true rfl) (Nat.le_of_ble_eq_true rfl) (Nat.le_of_ble_eq_true rfl) ?_
        refine ww_if_eqN (tgt := 44) dX11_dearest_37 (by decide) (by omega) (fun c37 => ?_) (fun c37 => ?_)
        · exact absurd c37 (by decide)
        · refine ww_iconst (v := nI 1) dX11_dearest_40 (by decide) ?_
          refine ww_goto (tgt := 45) dX11_dearest_41 (by decide) ?_
          refine ww_iconst (v := nI 1) dX11_dearest_45 (by decide) ?_
          refine ww_iconst (v := nI 1) dX11_dearest_46 (by decide) ?_
          refine ww_cVr (M := m_X11_dearest) (pc := 47) (v := .int (nI 1)) (h1 := hp_sF h m 0 (.int (nI 0))) (st := []) (bc := 0) (bs := 0) (c_M_may_t hst (h := hp_sF h m 0 (.int (nI 0))) (ModS.sF hM (by decide)) (hp_F_eq _ _ _ _) (nI 1) (nI 1)) vv_X11_may dX11_dearest_47 wg_1413 hM.K0 rfl rfl rfl rfl (Nat.le_of_ble_eq_true rfl) (Nat.le_of_ble_eq_true rfl) (Nat.le_of_ble_eq_true rfl) (Nat.le_of_ble_eq_true rfl) ?_
          refine ww_if_neN (tgt := 55) dX11_dearest_50 (by decide) (by omega) (fun c50 => ?_) (fun c50 => ?_)
          · refine ww_aload_n dX11_dearest_55 rfl rfl ?_
            refine ww_cV0 (M := m_X11_dearest) (pc := 56) (h1 := hp_sI (hp_sF h m 0 (.int (nI 0))) (m + 15) (cpF f g 190)) (st := []) (bc := 0) (bs := 0) (c_M_take hst (h := hp_sF h m 0 (.int (nI 0))) (ModS.sF hM (by decide)) hf hs) vv_X11_take dX11_dearest_56 wg_1539 hM.K0 rfl rfl rfl rfl (Nat.le_of_ble_eq_true rfl) (Nat.le_of_ble_eq_true rfl) (Nat.le_of_ble_eq_true rfl) (Nat.le_of_ble_eq_true rfl) ?_
            have hI0 : MI m sz kf vf (cpF f g 190) h (hp_sI (hp_sF h m 0 (.int (nI 0))) (m + 15) (cpF f g 190)) := MI.start hM hQ
            generalize hp_sI (hp_sF h m 0 (.int (nI 0))) (m + 15) (cpF f g 190) = hq0 at hI0 ⊢
            generalize hge : cpF f g 190 = g9 at hI0
            have hg9 : ∀ i, i < 190 → g9 i = f i := fun i hi => by rw [← hge]; exact cpF_in hi
            refine ww_iload_n dX11_dearest_59 rfl rfl ?_
            refine ww_sti (lv2 := [.ref m, .int (nI a), .int (nI b), .int (nI 1), .int (nI a), UU, UU]) dX11_dearest_60 rfl (by decide) rfl ?_
            refine ww_iconst (v := nI 0) dX11_dearest_62 (by decide) ?_
            refine ww_sti (lv2 := [.ref m, .int (nI a), .int (nI b), .int (nI 1), .int (nI a), .int (nI 0), UU]) dX11_dearest_63 rfl (by decide) rfl ?_
            refine ww_iload_n dX11_dearest_65 rfl rfl ?_
            refine ww_sti (lv2 := [.ref m, .int (nI a), .int (nI b), .int (nI 1), .int (nI a), .int (nI 0), .int (nI a)]) dX11_dearest_66 rfl (by decide) rfl ?_
            refine l_M_dearest hst hok a b hab hb (nI 1) (fun h3 hi3 => ?_) (b - a + 1) 0 _ (by omega) hI0
            have hdl := deF_lt (fun i => fareT g9 sz kf vf i 1) a (b - a)
            refine ww_iload_n dX11_dearest_118 rfl rfl ?_
            refine ww_if_neN (tgt := 127) dX11_dearest_119 (by decide) (by omega) (fun c119 => ?_) (fun c119 => ?_)
            · refine ww_iload_n dX11_dearest_127 rfl rfl ?_
              refine ww_iconst (v := nI 1) dX11_dearest_128 (by decide) ?_
              refine ww_icmp_neN (tgt := 142) dX11_dearest_129 (by decide) (by omega) (by omega) (fun c129 => ?_) (fun c129 => ?_)
              · exact absurd c129 (by decide)
              · refine ww_aload_n dX11_dearest_132 rfl rfl ?_
                refine ww_iload dX11_dearest_133 rfl ?_
                refine ww_iconst (v := nI 1) dX11_dearest_135 (by decide) ?_
                refine ww_cVq (M := m_X11_dearest) (pc := 136) (v := .int (fareT g9 sz kf vf ((deF (fun i => fareT g9 sz kf vf i 1) a ((b - a + 1))).1) 1)) (st := []) (bc := 0) (bs := 0) (c_M_fareT hst hok hi3 ((deF (fun i => fareT g9 sz kf vf i 1) a ((b - a + 1))).1) (by omega) 1 (by omega)) vv_X11_fareBy dX11_dearest_136 wg_1555 hi3.1.K0 rfl rfl rfl rfl (Nat.le_of_ble_eq_true rfl) (Nat.le_of_ble_eq_true rfl) (Nat.le_of_ble_eq_true rfl) (Nat.le_of_ble_eq_true rfl) (fun hq20 qq20 => ?_)
                refine ww_goto (tgt := 144) dX11_dearest_139 (by decide) ?_
                exact ww_iret dX11_dearest_144 rfl ⟨by rw [fareT_eq hg9], qq20.2.2.2.1, qq20.2.2.2.2⟩
            · exact absurd c119 (by decide)
          · exact absurd c50 (by decide)
set_option maxHeartbeats 4000000 in
set_option maxRecDepth 100000 in
theorem c_M_dearest2 {l : Launch} {Z : EE} (hst : l.stackTraces = false) {h : PH} {m : Nat} (hM : ModS h m) {f : Nat → Int32} (hf : hp_I h (m + 14) = f) {g : Nat → Int32} (hs : hp_I h (m + 15) = g) {sz : Nat} {kf vf : Nat → Int32} (hQ : LawM h m sz kf vf) (hok : LawOK kf vf sz) (a b : Nat) (hab : a ≤ b) (hb : b ≤ 60) : CC l Z m_X11_dearest 5 0 0 [.ref m, .int (nI a), .int (nI b), .int (nI 2)] h (MOk ((deF (fun i => fareT f sz kf vf i 1) a (b - a + 1)).2) m h) := by
  refine ee_entry hst (by decide +kernel) rfl rfl (by simp [Value.category]) (Nat.le_of_ble_eq_true rfl) ?_
  refine ww_lv (lv2 := [.ref m, .int (nI a), .int (nI b), .int (nI 2), UU, UU, UU]) rfl ?_
  refine ww_aload_n dX11_dearest_0 rfl rfl ?_
  refine ww_iconst (v := nI 0) dX11_dearest_1 (by decide) ?_
  refine ww_pfI tyX11 0 dX11_dearest_2 hM.K0 rfl (by decide) inX11 tyX11_ok nmX11 wg_1240 rfl rfl ?_
  refine ww_aload_n dX11_dearest_5 rfl rfl ?_
  refine ww_iload_n dX11_dearest_6 rfl rfl ?_
  refine ww_iconst (v := nI 0) dX11_dearest_7 (by decide) ?_
  refine ww_bipush (v := nI 60) dX11_dearest_8 (by decide) ?_
  refine ww_cSr (M := m_X11_dearest) (pc := 10) (v := .int (nI 1)) (h1 := hp_sF h m 0 (.int (nI 0))) (st := [.ref m]) (bc := 0) (bs := 0) (c_M_within_t hst (nI a) (nI 0) (nI 60) (nI_le (by omega) (by omega)) (nI_le (by omega) (by omega)) _) vv_X11_within dX11_dearest_10 wg_1601 rfl rfl rfl (Nat.le_of_ble_eq_true rfl) (Nat.le_of_ble_eq_true rfl) (Nat.le_of_ble_eq_true rfl) (Nat.le_of_ble_eq_true rfl) ?_
  refine ww_if_eqN (tgt := 44) dX11_dearest_13 (by decide) (by omega) (fun c13 => ?_) (fun c13 => ?_)
  · exact absurd c13 (by decide)
  · refine ww_iload_n dX11_dearest_16 rfl rfl ?_
    refine ww_iconst (v := nI 0) dX11_dearest_17 (by decide) ?_
    refine ww_bipush (v := nI 60) dX11_dearest_18 (by decide) ?_
    refine ww_cSr (M := m_X11_dearest) (pc := 20) (v := .int (nI 1)) (h1 := hp_sF h m 0 (.int (nI 0))) (st := [.ref m]) (bc := 0) (bs := 0) (c_M_within_t hst (nI b) (nI 0) (nI 60) (nI_le (by omega) (by omega)) (nI_le (by omega) (by omega)) _) vv_X11_within dX11_dearest_20 wg_1601 rfl rfl rfl (Nat.le_of_ble_eq_true rfl) (Nat.le_of_ble_eq_true rfl) (Nat.le_of_ble_eq_true rfl) (Nat.le_of_ble_eq_true rfl) ?_
    refine ww_if_eqN (tgt := 44) dX11_dearest_23 (by decide) (by omega) (fun c23 => ?_) (fun c23 => ?_)
    · exact absurd c23 (by decide)
    · refine ww_iload_n dX11_dearest_26 rfl rfl ?_
      refine ww_iload_n dX11_dearest_27 rfl rfl ?_
      refine ww_icmp_gtN (tgt := 44) dX11_dearest_28 (by decide) (by omega) (by omega) (fun c28 => ?_) (fun c28 => ?_)
      · exfalso; omega
      · refine ww_iload_n dX11_dearest_31 rfl rfl ?_
        refine ww_iconst (v := nI 0) dX11_dearest_32 (by decide) ?_
        refine ww_iconst (v := nI 2) dX11_dearest_33 (by decide) ?_
        refine ww_cSr (M := m_X11_dearest) (pc := 34) (v := .int (nI 1)) (h1 := hp_sF h m 0 (.int (nI 0))) (st := [.ref m]) (bc := 0) (bs := 0) (c_M_within_t hst (nI 2) (nI 0) (nI 2) (by decide) (by decide) _) vv_X11_within dX11_dearest_34 wg_1601 rfl rfl rfl (Nat.le_of_ble_eq_true rfl) (Nat.le_of_ble_eq_true rfl) (Nat.le_of_ble_eq_true rfl) (Nat.le_of_ble_eq_true rfl) ?_
        refine ww_if_eqN (tgt := 44) dX11_dearest_37 (by decide) (by omega) (fun c37 => ?_) (fun c37 => ?_)
        · exact absurd c37 (by decide)
        · refine ww_iconst (v := nI 1) dX11_dearest_40 (by decide) ?_
          refine ww_goto (tgt := 45) dX11_dearest_41 (by decide) ?_
          refine ww_iconst (v := nI 1) dX11_dearest_45 (by decide) ?_
          refine ww_iconst (v := nI 1) dX11_dearest_46 (by decide) ?_
          refine ww_cVr (M := m_X11_dearest) (pc := 47) (v := .int (nI 1)) (h1 := hp_sF h m 0 (.int (nI 0))) (st := []) (bc := 0) (bs := 0) (c_M_may_t hst (h := hp_sF h m 0 (.int (nI 0))) (ModS.sF hM (by decide)) (hp_F_eq _ _ _ _) (nI 1) (nI 1)) vv_X11_may dX11_dearest_47 wg_1413 hM.K0 rfl rfl rfl rfl (Nat.le_of_ble_eq_true rfl) (Nat.le_of_ble_eq_true rfl) (Nat.le_of_ble_eq_true rfl) (Nat.le_of_ble_eq_true rfl) ?_
          refine ww_if_neN (tgt := 55) dX11_dearest_50 (by decide) (by omega) (fun c50 => ?_) (fun c50 => ?_)
          · refine ww_aload_n dX11_dearest_55 rfl rfl ?_
            refine ww_cV0 (M := m_X11_dearest) (pc := 56) (h1 := hp_sI (hp_sF h m 0 (.int (nI 0))) (m + 15) (cpF f g 190)) (st := []) (bc := 0) (bs := 0) (c_M_take hst (h := hp_sF h m 0 (.int (nI 0))) (ModS.sF hM (by decide)) hf hs) vv_X11_take dX11_dearest_56 wg_1539 hM.K0 rfl rfl rfl rfl (Nat.le_of_ble_eq_true rfl) (Nat.le_of_ble_eq_true rfl) (Nat.le_of_ble_eq_true rfl) (Nat.le_of_ble_eq_true rfl) ?_
            have hI0 : MI m sz kf vf (cpF f g 190) h (hp_sI (hp_sF h m 0 (.int (nI 0))) (m + 15) (cpF f g 190)) := MI.start hM hQ
            generalize hp_sI (hp_sF h m 0 (.int (nI 0))) (m + 15) (cpF f g 190) = hq0 at hI0 ⊢
            generalize hge : cpF f g 190 = g9 at hI0
            have hg9 : ∀ i, i < 190 → g9 i = f i := fun i hi => by rw [← hge]; exact cpF_in hi
            refine ww_iload_n dX11_dearest_59 rfl rfl ?_
            refine ww_sti (lv2 := [.ref m, .int (nI a), .int (nI b), .int (nI 2), .int (nI a), UU, UU]) dX11_dearest_60 rfl (by decide) rfl ?_
            refine ww_iconst (v := nI 0) dX11_dearest_62 (by decide) ?_
            refine ww_sti (lv2 := [.ref m, .int (nI a), .int (nI b), .int (nI 2), .int (nI a), .int (nI 0), UU]) dX11_dearest_63 rfl (by decide) rfl ?_
            refine ww_iload_n dX11_dearest_65 rfl rfl ?_
            refine ww_sti (lv2 := [.ref m, .int (nI a), .int (nI b), .int (nI 2), .int (nI a), .int (nI 0), .int (nI a)]) dX11_dearest_66 rfl (by decide) rfl ?_
            refine l_M_dearest hst hok a b hab hb (nI 2) (fun h3 hi3 => ?_) (b - a + 1) 0 _ (by omega) hI0
            have hdl := deF_lt (fun i => fareT g9 sz kf vf i 1) a (b - a)
            refine ww_iload_n dX11_dearest_118 rfl rfl ?_
            refine ww_if_neN (tgt := 127) dX11_dearest_119 (by decide) (by omega) (fun c119 => ?_) (fun c119 => ?_)
            · refine ww_iload_n dX11_dearest_127 rfl rfl ?_
              refine ww_iconst (v := nI 1) dX11_dearest_128 (by decide) ?_
              refine ww_icmp_neN (tgt := 142) dX11_dearest_129 (by decide) (by omega) (by omega) (fun c129 => ?_) (fun c129 => ?_)
              · refine ww_iload dX11_dearest_142 rfl ?_
                exact ww_iret dX11_dearest_144 rfl ⟨by rw [fareT_eq hg9], hi3.2.2.2.1, hi3.2.2.2.2⟩
              · exact absurd c129 (by decide)
            · exact absurd c119 (by decide)
          · exact absurd c50 (by decide)
