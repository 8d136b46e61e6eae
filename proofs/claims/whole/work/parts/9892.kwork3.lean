/-! ===== work, as the class answers it ===== -/
/-- the cells that stood before are the same, but for these -/
def SmN (X : Nat → Prop) (Y : Nat → Nat → Prop) (h h9 : PH) : Prop := hp_N h ≤ hp_N h9 ∧ (∀ a, a < hp_N h → hp_K h9 a = hp_K h a) ∧ (∀ a j, a < hp_N h → ¬ Y a j → hp_F h9 a j = hp_F h a j) ∧ (∀ a, a < hp_N h → ¬ X a → hp_I h9 a = hp_I h a) ∧ (∀ a, a < hp_N h → ¬ X a → hp_L h9 a = hp_L h a)
theorem SmN.of {X : Nat → Prop} {Y : Nat → Nat → Prop} {h h9 : PH} (hS : Same X Y h h9) : SmN X Y h h9 := ⟨Nat.le_of_eq hS.1.symm, fun a _ => hS.2.1 a, fun a j _ => hS.2.2.1 a j, fun a _ => hS.2.2.2.1 a, fun a _ => hS.2.2.2.2 a⟩
theorem SmN.rf {X : Nat → Prop} {Y : Nat → Nat → Prop} {h : PH} : SmN X Y h h := SmN.of Same.rf
theorem SmN.tr {X : Nat → Prop} {Y : Nat → Nat → Prop} {h h1 h2 : PH} (a : SmN X Y h h1) (b : SmN X Y h1 h2) : SmN X Y h h2 :=
  ⟨Nat.le_trans a.1 b.1, fun c hc => (b.2.1 c (Nat.lt_of_lt_of_le hc a.1)).trans (a.2.1 c hc), fun c j hc hy => (b.2.2.1 c j (Nat.lt_of_lt_of_le hc a.1) hy).trans (a.2.2.1 c j hc hy), fun c hc hx => (b.2.2.2.1 c (Nat.lt_of_lt_of_le hc a.1) hx).trans (a.2.2.2.1 c hc hx), fun c hc hx => (b.2.2.2.2 c (Nat.lt_of_lt_of_le hc a.1) hx).trans (a.2.2.2.2 c hc hx)⟩
theorem SmN.mono {X X2 : Nat → Prop} {Y Y2 : Nat → Nat → Prop} {h h1 : PH} (a : SmN X Y h h1) (hX : ∀ c, X c → X2 c) (hY : ∀ c j, Y c j → Y2 c j) : SmN X2 Y2 h h1 :=
  ⟨a.1, a.2.1, fun c j hc hy => a.2.2.1 c j hc (fun e => hy (hY c j e)), fun c hc hx => a.2.2.2.1 c hc (fun e => hx (hX c e)), fun c hc hx => a.2.2.2.2 c hc (fun e => hx (hX c e))⟩
theorem SmN.nw {X : Nat → Prop} {Y : Nat → Nat → Prop} {h h1 : PH} (a : SmN X Y h h1) (t n : Nat) (fv : Nat → Value) (fi : Nat → Int32) (fl : Nat → Int64) : SmN X Y h (hp_new h1 t n fv fi fl) := by
  have hne : ∀ c, c < hp_N h → c ≠ hp_N h1 := fun c hc => by have := a.1; omega
  exact ⟨Nat.le_trans a.1 (Nat.le_succ _), fun c hc => hp_K_nw (hne c hc) (a.2.1 c hc), fun c j hc hy => hp_F_nw (hne c hc) (a.2.2.1 c j hc hy), fun c hc hx => hp_I_nw (hne c hc) (a.2.2.2.1 c hc hx), fun c hc hx => hp_L_nw (hne c hc) (a.2.2.2.2 c hc hx)⟩
theorem SmN.sF {X : Nat → Prop} {Y : Nat → Nat → Prop} {h h1 : PH} (a : SmN X Y h h1) {b k : Nat} {v : Value} (hb : Y b k ∨ hp_N h ≤ b) : SmN X Y h (hp_sF h1 b k v) := by
  refine ⟨a.1, a.2.1, fun c j hc hy => ?_, a.2.2.2.1, a.2.2.2.2⟩
  show (if c = b ∧ j = k then v else hp_F h1 c j) = _
  by_cases e : c = b ∧ j = k
  · exfalso
    rcases hb with q | q
    · exact hy (by rw [e.1, e.2]; exact q)
    · omega
  · rw [if_neg e]; exact a.2.2.1 c j hc hy
theorem LandAt.smn {h h9 : PH} {a np du : Nat} {f : Nat → Int32} {X : Nat → Prop} {Y : Nat → Nat → Prop} (hL : LandAt h a np du f) (hS : SmN X Y h h9) (hN : a + 1 < hp_N h) (hX : ¬ X (a + 1)) (hY : ∀ j, ¬ Y a j) : LandAt h9 a np du f :=
  ⟨(hS.2.1 _ (by omega)).trans hL.1, (hS.2.1 _ hN).trans hL.2.1, (hS.2.2.1 _ _ (by omega) (hY 0)).trans hL.2.2.1, (hS.2.2.1 _ _ (by omega) (hY 1)).trans hL.2.2.2.1, (hS.2.2.1 _ _ (by omega) (hY 2)).trans hL.2.2.2.2.1, (hS.2.2.2.1 _ hN hX).trans hL.2.2.2.2.2.1, hL.2.2.2.2.2.2⟩
theorem LawAt.smn {h h9 : PH} {b sz : Nat} {kf vf : Nat → Int32} {X : Nat → Prop} {Y : Nat → Nat → Prop} (hW : LawAt h b sz kf vf) (hS : SmN X Y h h9) (hN : b + 4 < hp_N h) (h1 : ¬ X (b + 1)) (h2 : ¬ X (b + 2)) (hY : ∀ j, ¬ Y b j) : LawAt h9 b sz kf vf := by
  obtain ⟨a1, a2, a3, a4, a5, a6, a7, a8, a9, b1, b2, b3, b4⟩ := hW
  exact ⟨(hS.2.1 _ (by omega)).trans a1, (hS.2.1 _ (by omega)).trans a2, (hS.2.1 _ (by omega)).trans a3, (hS.2.1 _ (by omega)).trans a4, (hS.2.1 _ (by omega)).trans a5, (hS.2.2.1 _ _ (by omega) (hY 0)).trans a6, (hS.2.2.1 _ _ (by omega) (hY 1)).trans a7, (hS.2.2.1 _ _ (by omega) (hY 2)).trans a8, (hS.2.2.1 _ _ (by omega) (hY 3)).trans a9, (hS.2.2.1 _ _ (by omega) (hY 4)).trans b1, (hS.2.2.2.1 _ (by omega) h1).trans b2, (hS.2.2.2.1 _ (by omega) h2).trans b3, b4⟩
theorem AfR.smn {h h9 : PH} {W : AF} {X : Nat → Prop} {Y : Nat → Nat → Prop} (hA : AfR h W) (hS : SmN X Y h h9) (hN : 27 < hp_N h) (hx : ∀ c, 23 ≤ c → c ≤ 27 → ¬ X c) (hy : ∀ j, j ≤ 4 → ¬ Y 23 j) : AfR h9 W := by
  obtain ⟨⟨a1, a2, a3, a4, a5, a6, a7, a8, a9⟩, b1, b2, b3, b4, b5⟩ := hA
  exact ⟨⟨(hS.2.1 _ (by omega)).trans a1, (hS.2.1 _ (by omega)).trans a2, (hS.2.1 _ (by omega)).trans a3, (hS.2.1 _ (by omega)).trans a4, (hS.2.1 _ (by omega)).trans a5, (hS.2.2.1 _ _ (by omega) (hy 0 (by omega))).trans a6, (hS.2.2.1 _ _ (by omega) (hy 1 (by omega))).trans a7, (hS.2.2.1 _ _ (by omega) (hy 2 (by omega))).trans a8, (hS.2.2.1 _ _ (by omega) (hy 3 (by omega))).trans a9⟩, (hS.2.2.1 _ _ (by omega) (hy 4 (by omega))).trans b1, (hS.2.2.2.1 _ (by omega) (hx 24 (by omega) (by omega))).trans b2, (hS.2.2.2.1 _ (by omega) (hx 25 (by omega) (by omega))).trans b3, (hS.2.2.2.1 _ (by omega) (hx 26 (by omega) (by omega))).trans b4, (hS.2.2.2.1 _ (by omega) (hx 27 (by omega) (by omega))).trans b5⟩
theorem clR_lt : ∀ e ∈ clR, e.1 < 46 := by decide
theorem CL.smn {h h9 : PH} {la lw bk : Nat} {X : Nat → Prop} {Y : Nat → Nat → Prop} (hC : CL h la lw bk) (hS : SmN X Y h h9) (hN : 46 ≤ hp_N h) (hY : ∀ e ∈ clR, ¬ Y e.1 e.2.1) (h0 : ∀ j, 1 ≤ j → j ≤ 6 → ¬ Y 0 j) : CL h9 la lw bk :=
  ⟨fun i hi => (hS.2.1 i (by omega)).trans (hC.kk i hi), fun e he => (hS.2.2.1 _ _ (by have := clR_lt e he; omega) (hY e he)).trans (hC.rr e he), (hS.2.2.1 _ _ (by omega) (h0 1 (by omega) (by omega))).trans hC.D1, (hS.2.2.1 _ _ (by omega) (h0 2 (by omega) (by omega))).trans hC.D2, (hS.2.2.1 _ _ (by omega) (h0 3 (by omega) (by omega))).trans hC.D3, (hS.2.2.1 _ _ (by omega) (h0 4 (by omega) (by omega))).trans hC.D4, (hS.2.2.1 _ _ (by omega) (h0 5 (by omega) (by omega))).trans hC.D5, (hS.2.2.1 _ _ (by omega) (h0 6 (by omega) (by omega))).trans hC.D6, hC.la, hC.lw, hC.bk⟩
def wrX (la lw : Nat) : Nat → Prop := fun c => afX c ∨ pfX la lw c
def wrY : Nat → Nat → Prop := fun a j => afY a j ∨ pfY a j ∨ (a = 0 ∧ (j = 8 ∨ j = 11))
theorem clR_wk : ∀ e ∈ clR, ¬ wrY e.1 e.2.1 := by
  unfold wrY afY pfY; decide
theorem clR_af : ∀ e ∈ clR, ¬ afY e.1 e.2.1 := by
  unfold afY; decide
theorem CL.af {h h9 : PH} {la lw bk : Nat} {X : Nat → Prop} (hC : CL h la lw bk) (hS : Same X afY h h9) (hN : 46 ≤ hp_N h) : CL h9 la lw bk := hC.smn (SmN.of hS) hN clR_af (fun j _ _ e => by unfold afY at e; omega)
set_option maxHeartbeats 4000000 in
set_option maxRecDepth 100000 in
theorem c_K_work_20 {l : Launch} {Z : EE} (hst : l.stackTraces = false) {h : PH} {la lw bk : Nat} (hC : CL h la lw bk) {np du : Nat} {f : Nat → Int32} (hL : LandAt h la np du f) {sz : Nat} {kf vf : Nat → Int32} (hW : LawAt h lw sz kf vf) (hok : LawOK kf vf sz) (hu : RowOK f np) {tf : Nat → Int32} (htf : hp_I h 2 = tf) {T : Nat → Nat} (hB : BT tf T) {tp : Nat} (htp : hp_F h 1 1 = .int (nI tp)) (ht6 : tp ≤ 600) {W : AF} (hA : AfR h W) (hN1 : 72 < hp_N h) (hN2 : hp_N h < 999990) (n : Nat) (hnt : n ≤ tp) (hn5 : n ≤ 150) {b k : Nat} (hpa : hp_F h 0 8 = .ref b) (hb72 : 72 < b) (hbn : b < hp_N h) (hkb : hp_K h b = (4, 3)) (hb : hp_F h b 2 = .int (nI k)) (hk16 : k = 16) : CC l Z m_X10_work 2 0 0 [.ref 0, .int (nI n)] h (RQ (some (.int (-20))) (fun h9 => Same (fun _ => False) afY h h9 ∧ hp_F h9 1 1 = .int (nI 0) ∧ hp_F h9 1 5 = .int (-1))) := by
  refine ee_entry hst (by decide +kernel) rfl rfl (by simp [Value.category]) (Nat.le_of_ble_eq_true rfl) ?_
  refine ww_lv (lv2 := [.ref 0, .int (nI n)]) rfl ?_
  have hla := hC.la
  have hlw := hC.lw
  have hbk := hC.bk
  have hSo : Same (fun _ => False) afY h (rdS (hp_sF h 1 1 (.int (nI 0))) n 0 0 (-1)) := Same.rd (Same.rf.sF (show afY 1 1 from Or.inl ⟨rfl, by omega⟩)) (fun j hj => Or.inl ⟨rfl, hj⟩) n 0 0 (-1)
  have hCo := hC.af hSo (by omega)
  refine ww_aload_n dX10_work_0 rfl rfl ?_
  refine ww_iload_n dX10_work_1 rfl rfl ?_
  refine ww_iconst (v := nI 0) dX10_work_2 (by decide) ?_
  refine ww_aload_n dX10_work_3 rfl rfl ?_
  refine ww_get 0 dX10_work_4 (hC.K0) rfl (by decide) inX10 wg_264 (hC.R0_0) ?_
  refine ww_getN 1 dX10_work_7 (hC.K1) rfl (by decide) inX5 wn_40 htp ?_
  refine ww_sipush (v := nI 150) dX10_work_10 (by decide) ?_
  refine ww_cSr (M := m_X10_work) (pc := 13) (v := .int (nI (min tp 150))) (h1 := h) (st := [.int (nI 0), .int (nI n), .ref 0]) (d := 2) (bc := 0) (bs := 0) (c_minN hst tp 150 (by omega) (by omega) h) vv_J9_min_7cf53 dX10_work_13 wg_603 rfl rfl rfl (Nat.le_of_ble_eq_true rfl) (Nat.le_of_ble_eq_true rfl) (Nat.le_of_ble_eq_true rfl) (Nat.le_of_ble_eq_true rfl) ?_
  refine ww_cV0 (M := m_X10_work) (pc := 16) (h1 := h) (st := []) (d := 2) (bc := 0) (bs := 0) (c_within_t hst (nI n) (nI 0) (nI (min tp 150)) (nI_le (by omega) (by omega)) (nI_le (by omega) (by omega)) _) vv_X10_within dX10_work_16 wg_410 (hC.K0) rfl rfl rfl rfl (Nat.le_of_ble_eq_true rfl) (Nat.le_of_ble_eq_true rfl) (Nat.le_of_ble_eq_true rfl) (Nat.le_of_ble_eq_true rfl) ?_
  refine ww_aload_n dX10_work_19 rfl rfl ?_
  refine ww_get 0 dX10_work_20 (hC.K0) rfl (by decide) inX10 wg_264 (hC.R0_0) ?_
  refine ww_iload_n dX10_work_23 rfl rfl ?_
  refine ww_cV0 (M := m_X10_work) (pc := 24) (h1 := rdS (hp_sF h 1 1 (.int (nI 0))) n 0 0 (-1)) (st := []) (d := 2) (bc := 0) (bs := 0) (c_Rd_open hst (tf := tf) ⟨hC.K1, hC.K2, hC.R1_0, htf⟩ n) vv_X5_open dX10_work_24 wg_481 (hC.K1) rfl rfl rfl rfl (Nat.le_of_ble_eq_true rfl) (Nat.le_of_ble_eq_true rfl) (Nat.le_of_ble_eq_true rfl) (Nat.le_of_ble_eq_true rfl) ?_
  refine ww_aload_n dX10_work_27 rfl rfl ?_
  refine ww_cVr (M := m_X10_work) (pc := 28) (v := .int (nI k)) (h1 := rdS (hp_sF h 1 1 (.int (nI 0))) n 0 0 (-1)) (st := []) (d := 2) (bc := 0) (bs := 0) (c_K_worksKept1 hst hCo (rdS_o _ _ _ _ (by omega) (hp_F_na (by omega) hpa)) hkb (rdS_o _ _ _ _ (by omega) (hp_F_na (by omega) hb))) vv_X10_worksKept dX10_work_28 wg_349 (hC.K0) rfl rfl rfl rfl (Nat.le_of_ble_eq_true rfl) (Nat.le_of_ble_eq_true rfl) (Nat.le_of_ble_eq_true rfl) (Nat.le_of_ble_eq_true rfl) ?_
  refine ww_bipush (v := nI 16) dX10_work_31 (by decide) ?_
  refine ww_icmp_ltN (tgt := 39) dX10_work_33 (by decide) (by omega) (by omega) (fun c33 => ?_) (fun c33 => ?_)
  · exfalso; omega
  · refine ww_bipush (v := -20) dX10_work_36 (by decide) ?_
    exact ww_iret dX10_work_38 rfl ⟨rfl, hSo, rdS_j _ _ _ _ (by decide) (hp_F_eq _ _ _ _), rdS_5 _ _ _ _ _⟩
set_option maxHeartbeats 4000000 in
set_option maxRecDepth 100000 in
theorem c_K_work_l0 {l : Launch} {Z : EE} (hst : l.stackTraces = false) {h : PH} {la lw bk : Nat} (hC : CL h la lw bk) {np du : Nat} {f : Nat → Int32} (hL : LandAt h la np du f) {sz : Nat} {kf vf : Nat → Int32} (hW : LawAt h lw sz kf vf) (hok : LawOK kf vf sz) (hu : RowOK f np) {tf : Nat → Int32} (htf : hp_I h 2 = tf) {T : Nat → Nat} (hB : BT tf T) {tp : Nat} (htp : hp_F h 1 1 = .int (nI tp)) (ht6 : tp ≤ 600) {W : AF} (hA : AfR h W) (hN1 : 72 < hp_N h) (hN2 : hp_N h < 999990) (n : Nat) (hnt : n ≤ tp) (hn5 : n ≤ 150) (hpa : hp_F h 0 8 = .null) {k9 q9 : Nat} (hr : wkS np T n (0, W.2.1, W.2.2.1, W.2.2.2.1, W.2.2.2.2) = .inl (k9, q9)) : CC l Z m_X10_work 27 0 0 [.ref 0, .int (nI n)] h (RQ (some (.int (nI k9 - nI 10))) (fun h9 => Same afX afY h h9 ∧ (∃ V9 : AF, AfR h9 V9) ∧ hp_F h9 1 1 = .int (nI 0) ∧ hp_F h9 1 5 = .int (nI q9))) := by
  refine ee_entry hst (by decide +kernel) rfl rfl (by simp [Value.category]) (Nat.le_of_ble_eq_true rfl) ?_
  refine ww_lv (lv2 := [.ref 0, .int (nI n)]) rfl ?_
  have hla := hC.la
  have hlw := hC.lw
  have hbk := hC.bk
  have hSo : Same (fun _ => False) afY h (rdS (hp_sF h 1 1 (.int (nI 0))) n 0 0 (-1)) := Same.rd (Same.rf.sF (show afY 1 1 from Or.inl ⟨rfl, by omega⟩)) (fun j hj => Or.inl ⟨rfl, hj⟩) n 0 0 (-1)
  have hCo := hC.af hSo (by omega)
  refine ww_aload_n dX10_work_0 rfl rfl ?_
  refine ww_iload_n dX10_work_1 rfl rfl ?_
  refine ww_iconst (v := nI 0) dX10_work_2 (by decide) ?_
  refine ww_aload_n dX10_work_3 rfl rfl ?_
  refine ww_get 0 dX10_work_4 (hC.K0) rfl (by decide) inX10 wg_264 (hC.R0_0) ?_
  refine ww_getN 1 dX10_work_7 (hC.K1) rfl (by decide) inX5 wn_40 htp ?_
  refine ww_sipush (v := nI 150) dX10_work_10 (by decide) ?_
  refine ww_cSr (M := m_X10_work) (pc := 13) (v := .int (nI (min tp 150))) (h1 := h) (st := [.int (nI 0), .int (nI n), .ref 0]) (d := 27) (bc := 0) (bs := 0) (c_minN hst tp 150 (by omega) (by omega) h) vv_J9_min_7cf53 dX10_work_13 wg_603 rfl rfl rfl (Nat.le_of_ble_eq_true rfl) (Nat.le_of_ble_eq_true rfl) (Nat.le_of_ble_eq_true rfl) (Nat.le_of_ble_eq_true rfl) ?_
  refine ww_cV0 (M := m_X10_work) (pc := 16) (h1 := h) (st := []) (d := 27) (bc := 0) (bs := 0) (c_within_t hst (nI n) (nI 0) (nI (min tp 150)) (nI_le (by omega) (by omega)) (nI_le (by omega) (by omega)) _) vv_X10_within dX10_work_16 wg_410 (hC.K0) rfl rfl rfl rfl (Nat.le_of_ble_eq_true rfl) (Nat.le_of_ble_eq_true rfl) (Nat.le_of_ble_eq_true rfl) (Nat.le_of_ble_eq_true rfl) ?_
  refine ww_aload_n dX10_work_19 rfl rfl ?_
  refine ww_get 0 dX10_work_20 (hC.K0) rfl (by decide) inX10 wg_264 (hC.R0_0) ?_
  refine ww_iload_n dX10_work_23 rfl rfl ?_
  refine ww_cV0 (M := m_X10_work) (pc := 24) (h1 := rdS (hp_sF h 1 1 (.int (nI 0))) n 0 0 (-1)) (st := []) (d := 27) (bc := 0) (bs := 0) (c_Rd_open hst (tf := tf) ⟨hC.K1, hC.K2, hC.R1_0, htf⟩ n) vv_X5_open dX10_work_24 wg_481 (hC.K1) rfl rfl rfl rfl (Nat.le_of_ble_eq_true rfl) (Nat.le_of_ble_eq_true rfl) (Nat.le_of_ble_eq_true rfl) (Nat.le_of_ble_eq_true rfl) ?_
  refine ww_aload_n dX10_work_27 rfl rfl ?_
  refine ww_cVr (M := m_X10_work) (pc := 28) (v := .int (nI 0)) (h1 := rdS (hp_sF h 1 1 (.int (nI 0))) n 0 0 (-1)) (st := []) (d := 27) (bc := 0) (bs := 0) (c_K_worksKept0 hst hCo (rdS_o _ _ _ _ (by omega) (hp_F_na (by omega) hpa))) vv_X10_worksKept dX10_work_28 wg_349 (hC.K0) rfl rfl rfl rfl (Nat.le_of_ble_eq_true rfl) (Nat.le_of_ble_eq_true rfl) (Nat.le_of_ble_eq_true rfl) (Nat.le_of_ble_eq_true rfl) ?_
  refine ww_bipush (v := nI 16) dX10_work_31 (by decide) ?_
  refine ww_icmp_ltN (tgt := 39) dX10_work_33 (by decide) (by omega) (by omega) (fun c33 => ?_) (fun c33 => ?_)
  · refine ww_aload_n dX10_work_39 rfl rfl ?_
    refine ww_get 7 dX10_work_40 (hC.K0) rfl (by decide) inX10 wg_271 (rdS_o _ _ _ _ (by omega) (hp_F_na (by omega) (hC.R0_7))) ?_
    refine ww_aload_n dX10_work_43 rfl rfl ?_
    refine ww_get 0 dX10_work_44 (hC.K0) rfl (by decide) inX10 wg_264 (rdS_o _ _ _ _ (by omega) (hp_F_na (by omega) (hC.R0_0))) ?_
    refine ww_aload_n dX10_work_47 rfl rfl ?_
    refine ww_get 1 dX10_work_48 (hC.K0) rfl (by decide) inX10 wg_265 (rdS_o _ _ _ _ (by omega) (hp_F_na (by omega) hC.D1)) ?_
    refine ww_getN 1 dX10_work_51 hL.1 rfl (by decide) inX2 wn_77 (rdS_o _ _ _ _ (by omega) (hp_F_na (by omega) hL.2.2.2.1)) ?_
    refine ww_cVq (M := m_X10_work) (pc := 54) (v := .int (nI 0)) (st := []) (d := 27) (bc := 0) (bs := 0) (c_Af_readK_l hst hC htf hB htp ht6 hA n hnt hn5 (hL.2.2.2.2.2.2.1) hr) vv_X0_read dX10_work_54 wg_645 (hC.K23) rfl rfl rfl rfl (Nat.le_of_ble_eq_true rfl) (Nat.le_of_ble_eq_true rfl) (Nat.le_of_ble_eq_true rfl) (Nat.le_of_ble_eq_true rfl) (fun hq qq => ?_)
    obtain ⟨sq, qA, q11, q14, q15⟩ := qq
    refine ww_if_neN (tgt := 68) dX10_work_57 (by decide) (by omega) (fun c57 => ?_) (fun c57 => ?_)
    · exact absurd c57 (by decide)
    · refine ww_aload_n dX10_work_60 rfl rfl ?_
      refine ww_get 0 dX10_work_61 ((sq.2.1 _).trans (hC.K0)) rfl (by decide) inX10 wg_264 ((sq.2.2.1 _ _ (fun e => by unfold afY at e; omega)).trans (hC.R0_0)) ?_
      refine ww_cVr (M := m_X10_work) (pc := 64) (v := .int (nI k9 - nI 10)) (h1 := hq) (st := []) (d := 27) (bc := 0) (bs := 0) (c_Rd_answerK hst ((sq.2.1 _).trans hC.K1) q14) vv_X5_answer dX10_work_64 wg_584 ((sq.2.1 _).trans (hC.K1)) rfl rfl rfl rfl (Nat.le_of_ble_eq_true rfl) (Nat.le_of_ble_eq_true rfl) (Nat.le_of_ble_eq_true rfl) (Nat.le_of_ble_eq_true rfl) ?_
      exact ww_iret dX10_work_67 rfl ⟨rfl, sq, qA, q11, q15⟩
  · exfalso; omega
set_option maxHeartbeats 4000000 in
set_option maxRecDepth 100000 in
theorem c_K_work_r0 {l : Launch} {Z : EE} (hst : l.stackTraces = false) {h : PH} {la lw bk : Nat} (hC : CL h la lw bk) {np du : Nat} {f : Nat → Int32} (hL : LandAt h la np du f) {sz : Nat} {kf vf : Nat → Int32} (hW : LawAt h lw sz kf vf) (hok : LawOK kf vf sz) (hu : RowOK f np) {tf : Nat → Int32} (htf : hp_I h 2 = tf) {T : Nat → Nat} (hB : BT tf T) {tp : Nat} (htp : hp_F h 1 1 = .int (nI tp)) (ht6 : tp ≤ 600) {W : AF} (hA : AfR h W) (hN1 : 72 < hp_N h) (hN2 : hp_N h < 999990) (n : Nat) (hnt : n ≤ tp) (hn5 : n ≤ 150) (hpa : hp_F h 0 8 = .null) {b9 : Nat} {V9 : AF} (hr : wkS np T n (0, W.2.1, W.2.2.1, W.2.2.2.1, W.2.2.2.2) = .inr (b9, V9)) : CC l Z m_X10_work 27 2 193 [.ref 0, .int (nI n)] h (RQ (some (.int (nI (pfK V9 (onX sz kf vf V9) 6 0 V9.1 (0, 0, 0, f)).2.1))) (fun h9 => hp_N h9 = hp_N h + 2 ∧ SmN (wrX la lw) wrY h h9 ∧ CL h9 la lw bk ∧ LandAt h9 la np du (pfK V9 (onX sz kf vf V9) 6 0 V9.1 (0, 0, 0, f)).2.2.2 ∧ AfR h9 V9 ∧ hp_F h9 0 8 = .ref (hp_N h) ∧ hp_F h9 0 11 = .int (nI (pfK V9 (onX sz kf vf V9) 6 0 V9.1 (0, 0, 0, f)).2.2.1) ∧ hp_F h9 1 1 = .int (nI 0) ∧ hp_F h9 1 5 = .int (-1) ∧ hp_K h9 (hp_N h) = (4, 3) ∧ hp_K h9 (hp_N h + 1) = (20, 190) ∧ hp_F h9 (hp_N h) 0 = .ref (hp_N h + 1) ∧ hp_F h9 (hp_N h) 1 = .null ∧ hp_F h9 (hp_N h) 2 = .int (nI 1) ∧ hp_I h9 (hp_N h + 1) = f)) := by
  refine ee_entry hst (by decide +kernel) rfl rfl (by simp [Value.category]) (Nat.le_of_ble_eq_true rfl) ?_
  refine ww_lv (lv2 := [.ref 0, .int (nI n)]) rfl ?_
  have hla := hC.la
  have hlw := hC.lw
  have hbk := hC.bk
  have hSo : Same (fun _ => False) afY h (rdS (hp_sF h 1 1 (.int (nI 0))) n 0 0 (-1)) := Same.rd (Same.rf.sF (show afY 1 1 from Or.inl ⟨rfl, by omega⟩)) (fun j hj => Or.inl ⟨rfl, hj⟩) n 0 0 (-1)
  have hCo := hC.af hSo (by omega)
  refine ww_aload_n dX10_work_0 rfl rfl ?_
  refine ww_iload_n dX10_work_1 rfl rfl ?_
  refine ww_iconst (v := nI 0) dX10_work_2 (by decide) ?_
  refine ww_aload_n dX10_work_3 rfl rfl ?_
  refine ww_get 0 dX10_work_4 (hC.K0) rfl (by decide) inX10 wg_264 (hC.R0_0) ?_
  refine ww_getN 1 dX10_work_7 (hC.K1) rfl (by decide) inX5 wn_40 htp ?_
  refine ww_sipush (v := nI 150) dX10_work_10 (by decide) ?_
  refine ww_cSr (M := m_X10_work) (pc := 13) (v := .int (nI (min tp 150))) (h1 := h) (st := [.int (nI 0), .int (nI n), .ref 0]) (d := 27) (bc := 2) (bs := 193) (c_minN hst tp 150 (by omega) (by omega) h) vv_J9_min_7cf53 dX10_work_13 wg_603 rfl rfl rfl (Nat.le_of_ble_eq_true rfl) (Nat.le_of_ble_eq_true rfl) (Nat.le_of_ble_eq_true rfl) (Nat.le_of_ble_eq_true rfl) ?_
  refine ww_cV0 (M := m_X10_work) (pc := 16) (h1 := h) (st := []) (d := 27) (bc := 2) (bs := 193) (c_within_t hst (nI n) (nI 0) (nI (min tp 150)) (nI_le (by omega) (by omega)) (nI_le (by omega) (by omega)) _) vv_X10_within dX10_work_16 wg_410 (hC.K0) rfl rfl rfl rfl (Nat.le_of_ble_eq_true rfl) (Nat.le_of_ble_eq_true rfl) (Nat.le_of_ble_eq_true rfl) (Nat.le_of_ble_eq_true rfl) ?_
  refine ww_aload_n dX10_work_19 rfl rfl ?_
  refine ww_get 0 dX10_work_20 (hC.K0) rfl (by decide) inX10 wg_264 (hC.R0_0) ?_
  refine ww_iload_n dX10_work_23 rfl rfl ?_
  refine ww_cV0 (M := m_X10_work) (pc := 24) (h1 := rdS (hp_sF h 1 1 (.int (nI 0))) n 0 0 (-1)) (st := []) (d := 27) (bc := 2) (bs := 193) (c_Rd_open hst (tf := tf) ⟨hC.K1, hC.K2, hC.R1_0, htf⟩ n) vv_X5_open dX10_work_24 wg_481 (hC.K1) rfl rfl rfl rfl (Nat.le_of_ble_eq_true rfl) (Nat.le_of_ble_eq_true rfl) (Nat.le_of_ble_eq_true rfl) (Nat.le_of_ble_eq_true rfl) ?_
  refine ww_aload_n dX10_work_27 rfl rfl ?_
  refine ww_cVr (M := m_X10_work) (pc := 28) (v := .int (nI 0)) (h1 := rdS (hp_sF h 1 1 (.int (nI 0))) n 0 0 (-1)) (st := []) (d := 27) (bc := 2) (bs := 193) (c_K_worksKept0 hst hCo (rdS_o _ _ _ _ (by omega) (hp_F_na (by omega) hpa))) vv_X10_worksKept dX10_work_28 wg_349 (hC.K0) rfl rfl rfl rfl (Nat.le_of_ble_eq_true rfl) (Nat.le_of_ble_eq_true rfl) (Nat.le_of_ble_eq_true rfl) (Nat.le_of_ble_eq_true rfl) ?_
  refine ww_bipush (v := nI 16) dX10_work_31 (by decide) ?_
  refine ww_icmp_ltN (tgt := 39) dX10_work_33 (by decide) (by omega) (by omega) (fun c33 => ?_) (fun c33 => ?_)
  · refine ww_aload_n dX10_work_39 rfl rfl ?_
    refine ww_get 7 dX10_work_40 (hC.K0) rfl (by decide) inX10 wg_271 (rdS_o _ _ _ _ (by omega) (hp_F_na (by omega) (hC.R0_7))) ?_
    refine ww_aload_n dX10_work_43 rfl rfl ?_
    refine ww_get 0 dX10_work_44 (hC.K0) rfl (by decide) inX10 wg_264 (rdS_o _ _ _ _ (by omega) (hp_F_na (by omega) (hC.R0_0))) ?_
    refine ww_aload_n dX10_work_47 rfl rfl ?_
    refine ww_get 1 dX10_work_48 (hC.K0) rfl (by decide) inX10 wg_265 (rdS_o _ _ _ _ (by omega) (hp_F_na (by omega) hC.D1)) ?_
    refine ww_getN 1 dX10_work_51 hL.1 rfl (by decide) inX2 wn_77 (rdS_o _ _ _ _ (by omega) (hp_F_na (by omega) hL.2.2.2.1)) ?_
    refine ww_cVq (M := m_X10_work) (pc := 54) (v := .int (nI 1)) (st := []) (d := 27) (bc := 2) (bs := 193) (c_Af_readK_r hst hC htf hB htp ht6 hA n hnt hn5 (hL.2.2.2.2.2.2.1) hr) vv_X0_read dX10_work_54 wg_645 (hC.K23) rfl rfl rfl rfl (Nat.le_of_ble_eq_true rfl) (Nat.le_of_ble_eq_true rfl) (Nat.le_of_ble_eq_true rfl) (Nat.le_of_ble_eq_true rfl) (fun hq qq => ?_)
    obtain ⟨sq, qA, q11, q15⟩ := qq
    refine ww_if_neN (tgt := 68) dX10_work_57 (by decide) (by omega) (fun c57 => ?_) (fun c57 => ?_)
    · have hNq : hp_N hq = hp_N h := sq.1
      have hLq := hL.same sq (by unfold afX; omega) (fun j e => by unfold afY at e; omega)
      refine ww_aload_n dX10_work_68 rfl rfl ?_
      refine ww_new (M := m_X10_work) (pc := 69) (bc := 1) (bs := 190) (t := 4) tyX4 [.null, .null, .int 0] dX10_work_69 rfl inX4 tyX4_ok wg_160 wg_357 wg_21 rfl (by decide) (by first | assumption | omega | (simp only [hp_N_new, hp_N_sF, hp_N_sI, hp_N_sL]; omega)) ?_
      refine ww_dup dX10_work_72 rfl ?_
      refine ww_aload_n dX10_work_73 rfl rfl ?_
      refine ww_get 1 dX10_work_74 (hp_K_nw (show (0 : Nat) ≠ hp_N hq by omega) ((sq.2.1 _).trans (hC.K0))) rfl (by decide) inX10 wg_265 (hp_F_nw (show (0 : Nat) ≠ hp_N hq by omega) ((sq.2.2.1 _ _ (fun e => by unfold afY at e; omega)).trans hC.D1)) ?_
      refine ww_cVr (M := m_X10_work) (pc := 77) (v := .ref (hp_N hq + 1)) (h1 := hp_new (hp_new hq 4 3 (vp_V [.null, .null, .int 0]) (fun _ => 0) (fun _ => 0)) 20 190 (fun _ => .null) f (fun _ => 0)) (st := [.ref (hp_N hq), .ref (hp_N hq), .ref 0]) (d := 27) (bc := 0) (bs := 0) (c_Land_copyOfRow hst (h := hp_new hq 4 3 (vp_V [.null, .null, .int 0]) (fun _ => 0) (fun _ => 0)) (by simp only [hp_N_new]; omega) (hLq.nw (by omega) (by omega))) vv_X2_copyOfRow dX10_work_77 wg_358 (hp_K_nw (show la ≠ hp_N hq by omega) ((sq.2.1 _).trans hL.1)) rfl rfl rfl rfl (Nat.le_of_ble_eq_true rfl) (Nat.le_of_ble_eq_true rfl) (Nat.le_of_ble_eq_true rfl) (Nat.le_of_ble_eq_true rfl) ?_
      refine ww_aload_n dX10_work_80 rfl rfl ?_
      refine ww_get 8 dX10_work_81 (hp_K_nw (show (0 : Nat) ≠ hp_N hq + 1 by omega) (hp_K_nw (show (0 : Nat) ≠ hp_N hq by omega) ((sq.2.1 _).trans (hC.K0)))) rfl (by decide) inX10 wg_272 (hp_F_nw (show (0 : Nat) ≠ hp_N hq + 1 by omega) (hp_F_nw (show (0 : Nat) ≠ hp_N hq by omega) ((sq.2.2.1 _ _ (fun e => by unfold afY at e; omega)).trans hpa))) ?_
      refine ww_cI0 (M := m_X10_work) (pc := 84) (h1 := hp_sF (hp_sF (hp_sF (hp_new (hp_new hq 4 3 (vp_V [.null, .null, .int 0]) (fun _ => 0) (fun _ => 0)) 20 190 (fun _ => .null) f (fun _ => 0)) (hp_N hq) 0 (.ref (hp_N hq + 1))) (hp_N hq) 1 (.null)) (hp_N hq) 2 (.int (nI 1))) (st := [.ref (hp_N hq), .ref 0]) (d := 27) (bc := 0) (bs := 0) (c_Past_init0 hst (h := hp_new (hp_new hq 4 3 (vp_V [.null, .null, .int 0]) (fun _ => 0) (fun _ => 0)) 20 190 (fun _ => .null) f (fun _ => 0)) (hp_K_nw (show hp_N hq ≠ hp_N hq + 1 by omega) hp_K_nq)) vv_X4_init dX10_work_84 wg_369 (by rw [(hp_K_nw (show hp_N hq ≠ hp_N hq + 1 by omega) hp_K_nq)]; decide) rfl rfl rfl (Nat.le_of_ble_eq_true rfl) (Nat.le_of_ble_eq_true rfl) (Nat.le_of_ble_eq_true rfl) (Nat.le_of_ble_eq_true rfl) ?_
      refine ww_put tyX10 8 dX10_work_87 (hp_K_sF (hp_K_sF (hp_K_sF (hp_K_nw (show (0 : Nat) ≠ hp_N hq + 1 by omega) (hp_K_nw (show (0 : Nat) ≠ hp_N hq by omega) ((sq.2.1 _).trans (hC.K0))))))) rfl (by decide) inX10 tyX10_ok nmX10 wg_272 rfl (ee_na_ref (Or.inl ⟨_, rfl⟩)) ?_
      have m1 : SmN (fun _ => False) (fun a j => a = 0 ∧ j = 8) hq (hp_sF (hp_sF (hp_sF (hp_sF (hp_new (hp_new hq 4 3 (vp_V [.null, .null, .int 0]) (fun _ => 0) (fun _ => 0)) 20 190 (fun _ => .null) f (fun _ => 0)) (hp_N hq) 0 (.ref (hp_N hq + 1))) (hp_N hq) 1 (.null)) (hp_N hq) 2 (.int (nI 1))) 0 8 (.ref (hp_N hq))) := (((((SmN.rf.nw 4 3 _ _ _).nw 20 190 _ _ _).sF (Or.inr (Nat.le_refl _))).sF (Or.inr (Nat.le_refl _))).sF (Or.inr (Nat.le_refl _))).sF (Or.inl ⟨rfl, rfl⟩)
      have n1 : hp_N (hp_sF (hp_sF (hp_sF (hp_sF (hp_new (hp_new hq 4 3 (vp_V [.null, .null, .int 0]) (fun _ => 0) (fun _ => 0)) 20 190 (fun _ => .null) f (fun _ => 0)) (hp_N hq) 0 (.ref (hp_N hq + 1))) (hp_N hq) 1 (.null)) (hp_N hq) 2 (.int (nI 1))) 0 8 (.ref (hp_N hq))) = hp_N hq + 2 := rfl
      have k1 : hp_K (hp_sF (hp_sF (hp_sF (hp_sF (hp_new (hp_new hq 4 3 (vp_V [.null, .null, .int 0]) (fun _ => 0) (fun _ => 0)) 20 190 (fun _ => .null) f (fun _ => 0)) (hp_N hq) 0 (.ref (hp_N hq + 1))) (hp_N hq) 1 (.null)) (hp_N hq) 2 (.int (nI 1))) 0 8 (.ref (hp_N hq))) (hp_N hq) = (4, 3) := (hp_K_sF (hp_K_sF (hp_K_sF (hp_K_sF (hp_K_nw (show hp_N hq ≠ hp_N hq + 1 by omega) hp_K_nq)))))
      have k2 : hp_K (hp_sF (hp_sF (hp_sF (hp_sF (hp_new (hp_new hq 4 3 (vp_V [.null, .null, .int 0]) (fun _ => 0) (fun _ => 0)) 20 190 (fun _ => .null) f (fun _ => 0)) (hp_N hq) 0 (.ref (hp_N hq + 1))) (hp_N hq) 1 (.null)) (hp_N hq) 2 (.int (nI 1))) 0 8 (.ref (hp_N hq))) (hp_N hq + 1) = (20, 190) := (hp_K_sF (hp_K_sF (hp_K_sF (hp_K_sF hp_K_nq))))
      have f0 : hp_F (hp_sF (hp_sF (hp_sF (hp_sF (hp_new (hp_new hq 4 3 (vp_V [.null, .null, .int 0]) (fun _ => 0) (fun _ => 0)) 20 190 (fun _ => .null) f (fun _ => 0)) (hp_N hq) 0 (.ref (hp_N hq + 1))) (hp_N hq) 1 (.null)) (hp_N hq) 2 (.int (nI 1))) 0 8 (.ref (hp_N hq))) (hp_N hq) 0 = .ref (hp_N hq + 1) := (hp_F_nj (by decide) (hp_F_nj (by decide) (hp_F_nj (by decide) (hp_F_eq _ _ _ _))))
      have f1 : hp_F (hp_sF (hp_sF (hp_sF (hp_sF (hp_new (hp_new hq 4 3 (vp_V [.null, .null, .int 0]) (fun _ => 0) (fun _ => 0)) 20 190 (fun _ => .null) f (fun _ => 0)) (hp_N hq) 0 (.ref (hp_N hq + 1))) (hp_N hq) 1 (.null)) (hp_N hq) 2 (.int (nI 1))) 0 8 (.ref (hp_N hq))) (hp_N hq) 1 = .null := (hp_F_nj (by decide) (hp_F_nj (by decide) (hp_F_eq _ _ _ _)))
      have f2 : hp_F (hp_sF (hp_sF (hp_sF (hp_sF (hp_new (hp_new hq 4 3 (vp_V [.null, .null, .int 0]) (fun _ => 0) (fun _ => 0)) 20 190 (fun _ => .null) f (fun _ => 0)) (hp_N hq) 0 (.ref (hp_N hq + 1))) (hp_N hq) 1 (.null)) (hp_N hq) 2 (.int (nI 1))) 0 8 (.ref (hp_N hq))) (hp_N hq) 2 = .int (nI 1) := (hp_F_nj (by decide) (hp_F_eq _ _ _ _))
      have r1 : hp_I (hp_sF (hp_sF (hp_sF (hp_sF (hp_new (hp_new hq 4 3 (vp_V [.null, .null, .int 0]) (fun _ => 0) (fun _ => 0)) 20 190 (fun _ => .null) f (fun _ => 0)) (hp_N hq) 0 (.ref (hp_N hq + 1))) (hp_N hq) 1 (.null)) (hp_N hq) 2 (.int (nI 1))) 0 8 (.ref (hp_N hq))) (hp_N hq + 1) = f := (hp_I_sF (hp_I_sF (hp_I_sF (hp_I_sF hp_I_nq))))
      have p8 : hp_F (hp_sF (hp_sF (hp_sF (hp_sF (hp_new (hp_new hq 4 3 (vp_V [.null, .null, .int 0]) (fun _ => 0) (fun _ => 0)) 20 190 (fun _ => .null) f (fun _ => 0)) (hp_N hq) 0 (.ref (hp_N hq + 1))) (hp_N hq) 1 (.null)) (hp_N hq) 2 (.int (nI 1))) 0 8 (.ref (hp_N hq))) 0 8 = .ref (hp_N hq) := hp_F_eq _ _ _ _
      generalize hp_sF (hp_sF (hp_sF (hp_sF (hp_new (hp_new hq 4 3 (vp_V [.null, .null, .int 0]) (fun _ => 0) (fun _ => 0)) 20 190 (fun _ => .null) f (fun _ => 0)) (hp_N hq) 0 (.ref (hp_N hq + 1))) (hp_N hq) 1 (.null)) (hp_N hq) 2 (.int (nI 1))) 0 8 (.ref (hp_N hq)) = h1 at m1 n1 k1 k2 f0 f1 f2 r1 p8 ⊢
      have hCq := hC.af sq (by omega)
      have hC1 := hCq.smn m1 (by omega) (by decide) (fun j g1 g2 e => by omega)
      have hL1 := hLq.smn m1 (by omega) (fun e => e) (fun j e => by omega)
      have hWq := hW.pf sq (by unfold afX; omega) (by unfold afX; omega) (fun j e => by unfold afY at e; omega)
      have hW1 := hWq.smn m1 (by omega) (fun e => e) (fun e => e) (fun j e => by omega)
      have hA1 := qA.smn m1 (by omega) (fun _ _ _ e => e) (fun j _ e => by omega)
      have hO := (wkS_O (np := np) (T := T) (n := n) (W := (0, W.2.1, W.2.2.1, W.2.2.2.1, W.2.2.2.2)) rfl).2 _ _ hr
      refine ww_aload_n dX10_work_90 rfl rfl ?_
      refine ww_get 7 dX10_work_91 (hC1.K0) rfl (by decide) inX10 wg_271 (hC1.R0_7) ?_
      refine ww_aload_n dX10_work_94 rfl rfl ?_
      refine ww_get 1 dX10_work_95 (hC1.K0) rfl (by decide) inX10 wg_265 hC1.D1 ?_
      refine ww_aload_n dX10_work_98 rfl rfl ?_
      refine ww_get 3 dX10_work_99 (hC1.K0) rfl (by decide) inX10 wg_267 hC1.D3 ?_
      refine ww_cVq0 (M := m_X10_work) (pc := 102) (st := []) (d := 27) (bc := 0) (bs := 0) (c_Pf hst hla hlw hL.2.2.2.2.2.2.1 hok (by omega) hL1 hW1 hA1 hu hO.2.2) vv_X0_perform dX10_work_102 wg_672 (hC1.K23) rfl rfl rfl rfl (Nat.le_of_ble_eq_true rfl) (Nat.le_of_ble_eq_true rfl) (Nat.le_of_ble_eq_true rfl) (Nat.le_of_ble_eq_true rfl) (fun hq2 qq2 => ?_)
      refine ww_aload_n dX10_work_105 rfl rfl ?_
      refine ww_aload_n dX10_work_106 rfl rfl ?_
      refine ww_get 7 dX10_work_107 ((qq2.2.2.1 _).trans (hC1.K0)) rfl (by decide) inX10 wg_271 ((qq2.2.2.2.1 _ _ (fun e => by unfold pfY at e; omega)).trans (hC1.R0_7)) ?_
      refine ww_getN 7 dX10_work_110 ((qq2.2.2.1 _).trans (hC1.K23)) rfl (by decide) inX0 wn_141 qq2.1.2.2.2.2.2 ?_
      refine ww_pfI tyX10 11 dX10_work_113 ((qq2.2.2.1 _).trans (hC1.K0)) rfl (by decide) inX10 tyX10_ok nmX10 wg_275 rfl rfl ?_
      refine ww_aload_n dX10_work_116 rfl rfl ?_
      refine ww_get 7 dX10_work_117 ((qq2.2.2.1 _).trans (hC1.K0)) rfl (by decide) inX10 wg_271 (hp_F_nj (by decide) ((qq2.2.2.2.1 _ _ (fun e => by unfold pfY at e; omega)).trans (hC1.R0_7))) ?_
      refine ww_getN 6 dX10_work_120 ((qq2.2.2.1 _).trans (hC1.K23)) rfl (by decide) inX0 wn_139 (hp_F_nj (by decide) qq2.1.2.2.2.2.1) ?_
      exact ww_iret dX10_work_123 rfl (by
    have s2 : SmN (wrX la lw) wrY h hq := (SmN.of sq).mono (fun _ e => Or.inl e) (fun _ _ e => Or.inl e)
    have s3 : SmN (wrX la lw) wrY h h1 := s2.tr (m1.mono (fun _ e => e.elim) (fun a j e => Or.inr (Or.inr ⟨e.1, Or.inl e.2⟩)))
    have s4 : SmN (wrX la lw) wrY h hq2 := s3.tr ((SmN.of qq2.2).mono (fun _ e => Or.inr e) (fun _ _ e => Or.inr (Or.inl e)))
    have s5 : SmN (wrX la lw) wrY h (hp_sF hq2 0 11 (.int (nI (pfK V9 (onX sz kf vf V9) 6 0 V9.1 (0, 0, 0, f)).2.2.1))) := s4.sF (Or.inl (Or.inr (Or.inr ⟨rfl, Or.inr rfl⟩)))
    have y0 : ∀ a j, a ≠ 23 → hp_F hq2 a j = hp_F h1 a j := fun a j g => qq2.2.2.2.1 _ _ (fun e => g e.1)
    have x0 : hp_I hq2 (hp_N h + 1) = hp_I h1 (hp_N h + 1) := qq2.2.2.2.2.1 _ (fun e => by unfold pfX at e; omega)
    rw [hNq] at k1 k2 f0 f1 f2 r1 p8 n1
    refine ⟨rfl, qq2.2.1.trans n1, s5, hC.smn s5 (by omega) clR_wk (fun j g1 g2 e => by unfold wrY afY pfY at e; omega), ?_, ?_, ?_, hp_F_eq _ _ _ _, ?_, ?_, (qq2.2.2.1 _).trans k1, (qq2.2.2.1 _).trans k2, ?_, ?_, ?_, x0.trans r1⟩
    · exact qq2.1.1.same (X := fun _ => False) (Y := fun a j => a = 0 ∧ j = 11) (Same.rf.sF ⟨rfl, rfl⟩) (fun e => e) (fun j e => by omega)
    · exact qq2.1.2.2.1.same (X := fun _ => False) (Y := fun a j => a = 0 ∧ j = 11) (Same.rf.sF ⟨rfl, rfl⟩) (fun _ _ _ e => e) (fun j _ e => by omega)
    · exact hp_F_nj (by decide) ((y0 0 8 (by decide)).trans p8)
    · exact hp_F_na (by decide) ((y0 1 1 (by decide)).trans ((m1.2.2.1 1 1 (by omega) (fun e => by omega)).trans q11))
    · exact hp_F_na (by decide) ((y0 1 5 (by decide)).trans ((m1.2.2.1 1 5 (by omega) (fun e => by omega)).trans q15))
    · exact hp_F_na (by omega) ((y0 _ 0 (by omega)).trans f0)
    · exact hp_F_na (by omega) ((y0 _ 1 (by omega)).trans f1)
    · exact hp_F_na (by omega) ((y0 _ 2 (by omega)).trans f2))
    · exact absurd c57 (by decide)
  · exfalso; omega
set_option maxHeartbeats 4000000 in
set_option maxRecDepth 100000 in
theorem c_K_work_l1 {l : Launch} {Z : EE} (hst : l.stackTraces = false) {h : PH} {la lw bk : Nat} (hC : CL h la lw bk) {np du : Nat} {f : Nat → Int32} (hL : LandAt h la np du f) {sz : Nat} {kf vf : Nat → Int32} (hW : LawAt h lw sz kf vf) (hok : LawOK kf vf sz) (hu : RowOK f np) {tf : Nat → Int32} (htf : hp_I h 2 = tf) {T : Nat → Nat} (hB : BT tf T) {tp : Nat} (htp : hp_F h 1 1 = .int (nI tp)) (ht6 : tp ≤ 600) {W : AF} (hA : AfR h W) (hN1 : 72 < hp_N h) (hN2 : hp_N h < 999990) (n : Nat) (hnt : n ≤ tp) (hn5 : n ≤ 150) {b k : Nat} (hpa : hp_F h 0 8 = .ref b) (hb72 : 72 < b) (hbn : b < hp_N h) (hkb : hp_K h b = (4, 3)) (hb : hp_F h b 2 = .int (nI k)) (hk16 : k < 16) {k9 q9 : Nat} (hr : wkS np T n (0, W.2.1, W.2.2.1, W.2.2.2.1, W.2.2.2.2) = .inl (k9, q9)) : CC l Z m_X10_work 27 0 0 [.ref 0, .int (nI n)] h (RQ (some (.int (nI k9 - nI 10))) (fun h9 => Same afX afY h h9 ∧ (∃ V9 : AF, AfR h9 V9) ∧ hp_F h9 1 1 = .int (nI 0) ∧ hp_F h9 1 5 = .int (nI q9))) := by
  refine ee_entry hst (by decide +kernel) rfl rfl (by simp [Value.category]) (Nat.le_of_ble_eq_true rfl) ?_
  refine ww_lv (lv2 := [.ref 0, .int (nI n)]) rfl ?_
  have hla := hC.la
  have hlw := hC.lw
  have hbk := hC.bk
  have hSo : Same (fun _ => False) afY h (rdS (hp_sF h 1 1 (.int (nI 0))) n 0 0 (-1)) := Same.rd (Same.rf.sF (show afY 1 1 from Or.inl ⟨rfl, by omega⟩)) (fun j hj => Or.inl ⟨rfl, hj⟩) n 0 0 (-1)
  have hCo := hC.af hSo (by omega)
  refine ww_aload_n dX10_work_0 rfl rfl ?_
  refine ww_iload_n dX10_work_1 rfl rfl ?_
  refine ww_iconst (v := nI 0) dX10_work_2 (by decide) ?_
  refine ww_aload_n dX10_work_3 rfl rfl ?_
  refine ww_get 0 dX10_work_4 (hC.K0) rfl (by decide) inX10 wg_264 (hC.R0_0) ?_
  refine ww_getN 1 dX10_work_7 (hC.K1) rfl (by decide) inX5 wn_40 htp ?_
  refine ww_sipush (v := nI 150) dX10_work_10 (by decide) ?_
  refine ww_cSr (M := m_X10_work) (pc := 13) (v := .int (nI (min tp 150))) (h1 := h) (st := [.int (nI 0), .int (nI n), .ref 0]) (d := 27) (bc := 0) (bs := 0) (c_minN hst tp 150 (by omega) (by omega) h) vv_J9_min_7cf53 dX10_work_13 wg_603 rfl rfl rfl (Nat.le_of_ble_eq_true rfl) (Nat.le_of_ble_eq_true rfl) (Nat.le_of_ble_eq_true rfl) (Nat.le_of_ble_eq_true rfl) ?_
  refine ww_cV0 (M := m_X10_work) (pc := 16) (h1 := h) (st := []) (d := 27) (bc := 0) (bs := 0) (c_within_t hst (nI n) (nI 0) (nI (min tp 150)) (nI_le (by omega) (by omega)) (nI_le (by omega) (by omega)) _) vv_X10_within dX10_work_16 wg_410 (hC.K0) rfl rfl rfl rfl (Nat.le_of_ble_eq_true rfl) (Nat.le_of_ble_eq_true rfl) (Nat.le_of_ble_eq_true rfl) (Nat.le_of_ble_eq_true rfl) ?_
  refine ww_aload_n dX10_work_19 rfl rfl ?_
  refine ww_get 0 dX10_work_20 (hC.K0) rfl (by decide) inX10 wg_264 (hC.R0_0) ?_
  refine ww_iload_n dX10_work_23 rfl rfl ?_
  refine ww_cV0 (M := m_X10_work) (pc := 24) (h1 := rdS (hp_sF h 1 1 (.int (nI 0))) n 0 0 (-1)) (st := []) (d := 27) (bc := 0) (bs := 0) (c_Rd_open hst (tf := tf) ⟨hC.K1, hC.K2, hC.R1_0, htf⟩ n) vv_X5_open dX10_work_24 wg_481 (hC.K1) rfl rfl rfl rfl (Nat.le_of_ble_eq_true rfl) (Nat.le_of_ble_eq_true rfl) (Nat.le_of_ble_eq_true rfl) (Nat.le_of_ble_eq_true rfl) ?_
  refine ww_aload_n dX10_work_27 rfl rfl ?_
  refine ww_cVr (M := m_X10_work) (pc := 28) (v := .int (nI k)) (h1 := rdS (hp_sF h 1 1 (.int (nI 0))) n 0 0 (-1)) (st := []) (d := 27) (bc := 0) (bs := 0) (c_K_worksKept1 hst hCo (rdS_o _ _ _ _ (by omega) (hp_F_na (by omega) hpa)) hkb (rdS_o _ _ _ _ (by omega) (hp_F_na (by omega) hb))) vv_X10_worksKept dX10_work_28 wg_349 (hC.K0) rfl rfl rfl rfl (Nat.le_of_ble_eq_true rfl) (Nat.le_of_ble_eq_true rfl) (Nat.le_of_ble_eq_true rfl) (Nat.le_of_ble_eq_true rfl) ?_
  refine ww_bipush (v := nI 16) dX10_work_31 (by decide) ?_
  refine ww_icmp_ltN (tgt := 39) dX10_work_33 (by decide) (by omega) (by omega) (fun c33 => ?_) (fun c33 => ?_)
  · refine ww_aload_n dX10_work_39 rfl rfl ?_
    refine ww_get 7 dX10_work_40 (hC.K0) rfl (by decide) inX10 wg_271 (rdS_o _ _ _ _ (by omega) (hp_F_na (by omega) (hC.R0_7))) ?_
    refine ww_aload_n dX10_work_43 rfl rfl ?_
    refine ww_get 0 dX10_work_44 (hC.K0) rfl (by decide) inX10 wg_264 (rdS_o _ _ _ _ (by omega) (hp_F_na (by omega) (hC.R0_0))) ?_
    refine ww_aload_n dX10_work_47 rfl rfl ?_
    refine ww_get 1 dX10_work_48 (hC.K0) rfl (by decide) inX10 wg_265 (rdS_o _ _ _ _ (by omega) (hp_F_na (by omega) hC.D1)) ?_
    refine ww_getN 1 dX10_work_51 hL.1 rfl (by decide) inX2 wn_77 (rdS_o _ _ _ _ (by omega) (hp_F_na (by omega) hL.2.2.2.1)) ?_
    refine ww_cVq (M := m_X10_work) (pc := 54) (v := .int (nI 0)) (st := []) (d := 27) (bc := 0) (bs := 0) (c_Af_readK_l hst hC htf hB htp ht6 hA n hnt hn5 (hL.2.2.2.2.2.2.1) hr) vv_X0_read dX10_work_54 wg_645 (hC.K23) rfl rfl rfl rfl (Nat.le_of_ble_eq_true rfl) (Nat.le_of_ble_eq_true rfl) (Nat.le_of_ble_eq_true rfl) (Nat.le_of_ble_eq_true rfl) (fun hq qq => ?_)
    obtain ⟨sq, qA, q11, q14, q15⟩ := qq
    refine ww_if_neN (tgt := 68) dX10_work_57 (by decide) (by omega) (fun c57 => ?_) (fun c57 => ?_)
    · exact absurd c57 (by decide)
    · refine ww_aload_n dX10_work_60 rfl rfl ?_
      refine ww_get 0 dX10_work_61 ((sq.2.1 _).trans (hC.K0)) rfl (by decide) inX10 wg_264 ((sq.2.2.1 _ _ (fun e => by unfold afY at e; omega)).trans (hC.R0_0)) ?_
      refine ww_cVr (M := m_X10_work) (pc := 64) (v := .int (nI k9 - nI 10)) (h1 := hq) (st := []) (d := 27) (bc := 0) (bs := 0) (c_Rd_answerK hst ((sq.2.1 _).trans hC.K1) q14) vv_X5_answer dX10_work_64 wg_584 ((sq.2.1 _).trans (hC.K1)) rfl rfl rfl rfl (Nat.le_of_ble_eq_true rfl) (Nat.le_of_ble_eq_true rfl) (Nat.le_of_ble_eq_true rfl) (Nat.le_of_ble_eq_true rfl) ?_
      exact ww_iret dX10_work_67 rfl ⟨rfl, sq, qA, q11, q15⟩
  · exfalso; omega
set_option maxHeartbeats 4000000 in
set_option maxRecDepth 100000 in
theorem c_K_work_r1 {l : Launch} {Z : EE} (hst : l.stackTraces = false) {h : PH} {la lw bk : Nat} (hC : CL h la lw bk) {np du : Nat} {f : Nat → Int32} (hL : LandAt h la np du f) {sz : Nat} {kf vf : Nat → Int32} (hW : LawAt h lw sz kf vf) (hok : LawOK kf vf sz) (hu : RowOK f np) {tf : Nat → Int32} (htf : hp_I h 2 = tf) {T : Nat → Nat} (hB : BT tf T) {tp : Nat} (htp : hp_F h 1 1 = .int (nI tp)) (ht6 : tp ≤ 600) {W : AF} (hA : AfR h W) (hN1 : 72 < hp_N h) (hN2 : hp_N h < 999990) (n : Nat) (hnt : n ≤ tp) (hn5 : n ≤ 150) {b k : Nat} (hpa : hp_F h 0 8 = .ref b) (hb72 : 72 < b) (hbn : b < hp_N h) (hkb : hp_K h b = (4, 3)) (hb : hp_F h b 2 = .int (nI k)) (hk16 : k < 16) {b9 : Nat} {V9 : AF} (hr : wkS np T n (0, W.2.1, W.2.2.1, W.2.2.2.1, W.2.2.2.2) = .inr (b9, V9)) : CC l Z m_X10_work 27 2 193 [.ref 0, .int (nI n)] h (RQ (some (.int (nI (pfK V9 (onX sz kf vf V9) 6 0 V9.1 (0, 0, 0, f)).2.1))) (fun h9 => hp_N h9 = hp_N h + 2 ∧ SmN (wrX la lw) wrY h h9 ∧ CL h9 la lw bk ∧ LandAt h9 la np du (pfK V9 (onX sz kf vf V9) 6 0 V9.1 (0, 0, 0, f)).2.2.2 ∧ AfR h9 V9 ∧ hp_F h9 0 8 = .ref (hp_N h) ∧ hp_F h9 0 11 = .int (nI (pfK V9 (onX sz kf vf V9) 6 0 V9.1 (0, 0, 0, f)).2.2.1) ∧ hp_F h9 1 1 = .int (nI 0) ∧ hp_F h9 1 5 = .int (-1) ∧ hp_K h9 (hp_N h) = (4, 3) ∧ hp_K h9 (hp_N h + 1) = (20, 190) ∧ hp_F h9 (hp_N h) 0 = .ref (hp_N h + 1) ∧ hp_F h9 (hp_N h) 1 = .ref b ∧ hp_F h9 (hp_N h) 2 = .int (nI (k + 1)) ∧ hp_I h9 (hp_N h + 1) = f)) := by
  refine ee_entry hst (by decide +kernel) rfl rfl (by simp [Value.category]) (Nat.le_of_ble_eq_true rfl) ?_
  refine ww_lv (lv2 := [.ref 0, .int (nI n)]) rfl ?_
  have hla := hC.la
  have hlw := hC.lw
  have hbk := hC.bk
  have hSo : Same (fun _ => False) afY h (rdS (hp_sF h 1 1 (.int (nI 0))) n 0 0 (-1)) := Same.rd (Same.rf.sF (show afY 1 1 from Or.inl ⟨rfl, by omega⟩)) (fun j hj => Or.inl ⟨rfl, hj⟩) n 0 0 (-1)
  have hCo := hC.af hSo (by omega)
  refine ww_aload_n dX10_work_0 rfl rfl ?_
  refine ww_iload_n dX10_work_1 rfl rfl ?_
  refine ww_iconst (v := nI 0) dX10_work_2 (by decide) ?_
  refine ww_aload_n dX10_work_3 rfl rfl ?_
  refine ww_get 0 dX10_work_4 (hC.K0) rfl (by decide) inX10 wg_264 (hC.R0_0) ?_
  refine ww_getN 1 dX10_work_7 (hC.K1) rfl (by decide) inX5 wn_40 htp ?_
  refine ww_sipush (v := nI 150) dX10_work_10 (by decide) ?_
  refine ww_cSr (M := m_X10_work) (pc := 13) (v := .int (nI (min tp 150))) (h1 := h) (st := [.int (nI 0), .int (nI n), .ref 0]) (d := 27) (bc := 2) (bs := 193) (c_minN hst tp 150 (by omega) (by omega) h) vv_J9_min_7cf53 dX10_work_13 wg_603 rfl rfl rfl (Nat.le_of_ble_eq_true rfl) (Nat.le_of_ble_eq_true rfl) (Nat.le_of_ble_eq_true rfl) (Nat.le_of_ble_eq_true rfl) ?_
  refine ww_cV0 (M := m_X10_work) (pc := 16) (h1 := h) (st := []) (d := 27) (bc := 2) (bs := 193) (c_within_t hst (nI n) (nI 0) (nI (min tp 150)) (nI_le (by omega) (by omega)) (nI_le (by omega) (by omega)) _) vv_X10_within dX10_work_16 wg_410 (hC.K0) rfl rfl rfl rfl (Nat.le_of_ble_eq_true rfl) (Nat.le_of_ble_eq_true rfl) (Nat.le_of_ble_eq_true rfl) (Nat.le_of_ble_eq_true rfl) ?_
  refine ww_aload_n dX10_work_19 rfl rfl ?_
  refine ww_get 0 dX10_work_20 (hC.K0) rfl (by decide) inX10 wg_264 (hC.R0_0) ?_
  refine ww_iload_n dX10_work_23 rfl rfl ?_
  refine ww_cV0 (M := m_X10_work) (pc := 24) (h1 := rdS (hp_sF h 1 1 (.int (nI 0))) n 0 0 (-1)) (st := []) (d := 27) (bc := 2) (bs := 193) (c_Rd_open hst (tf := tf) ⟨hC.K1, hC.K2, hC.R1_0, htf⟩ n) vv_X5_open dX10_work_24 wg_481 (hC.K1) rfl rfl rfl rfl (Nat.le_of_ble_eq_true rfl) (Nat.le_of_ble_eq_true rfl) (Nat.le_of_ble_eq_true rfl) (Nat.le_of_ble_eq_true rfl) ?_
  refine ww_aload_n dX10_work_27 rfl rfl ?_
  refine ww_cVr (M := m_X10_work) (pc := 28) (v := .int (nI k)) (h1 := rdS (hp_sF h 1 1 (.int (nI 0))) n 0 0 (-1)) (st := []) (d := 27) (bc := 2) (bs := 193) (c_K_worksKept1 hst hCo (rdS_o _ _ _ _ (by omega) (hp_F_na (by omega) hpa)) hkb (rdS_o _ _ _ _ (by omega) (hp_F_na (by omega) hb))) vv_X10_worksKept dX10_work_28 wg_349 (hC.K0) rfl rfl rfl rfl (Nat.le_of_ble_eq_true rfl) (Nat.le_of_ble_eq_true rfl) (Nat.le_of_ble_eq_true rfl) (Nat.le_of_ble_eq_true rfl) ?_
  refine ww_bipush (v := nI 16) dX10_work_31 (by decide) ?_
  refine ww_icmp_ltN (tgt := 39) dX10_work_33 (by decide) (by omega) (by omega) (fun c33 => ?_) (fun c33 => ?_)
  · refine ww_aload_n dX10_work_39 rfl rfl ?_
    refine ww_get 7 dX10_work_40 (hC.K0) rfl (by decide) inX10 wg_271 (rdS_o _ _ _ _ (by omega) (hp_F_na (by omega) (hC.R0_7))) ?_
    refine ww_aload_n dX10_work_43 rfl rfl ?_
    refine ww_get 0 dX10_work_44 (hC.K0) rfl (by decide) inX10 wg_264 (rdS_o _ _ _ _ (by omega) (hp_F_na (by omega) (hC.R0_0))) ?_
    refine ww_aload_n dX10_work_47 rfl rfl ?_
    refine ww_get 1 dX10_work_48 (hC.K0) rfl (by decide) inX10 wg_265 (rdS_o _ _ _ _ (by omega) (hp_F_na (by omega) hC.D1)) ?_
    refine ww_getN 1 dX10_work_51 hL.1 rfl (by decide) inX2 wn_77 (rdS_o _ _ _ _ (by omega) (hp_F_na (by omega) hL.2.2.2.1)) ?_
    refine ww_cVq (M := m_X10_work) (pc := 54) (v := .int (nI 1)) (st := []) (d := 27) (bc := 2) (bs := 193) (c_Af_readK_r hst hC htf hB htp ht6 hA n hnt hn5 (hL.2.2.2.2.2.2.1) hr) vv_X0_read dX10_work_54 wg_645 (hC.K23) rfl rfl rfl rfl (Nat.le_of_ble_eq_true rfl) (Nat.le_of_ble_eq_true rfl) (Nat.le_of_ble_eq_true rfl) (Nat.le_of_ble_eq_true rfl) (fun hq qq => ?_)
    obtain ⟨sq, qA, q11, q15⟩ := qq
    refine ww_if_neN (tgt := 68) dX10_work_57 (by decide) (by omega) (fun c57 => ?_) (fun c57 => ?_)
    · have hNq : hp_N hq = hp_N h := sq.1
      have hLq := hL.same sq (by unfold afX; omega) (fun j e => by unfold afY at e; omega)
      refine ww_aload_n dX10_work_68 rfl rfl ?_
      refine ww_new (M := m_X10_work) (pc := 69) (bc := 1) (bs := 190) (t := 4) tyX4 [.null, .null, .int 0] dX10_work_69 rfl inX4 tyX4_ok wg_160 wg_357 wg_21 rfl (by decide) (by first | assumption | omega | (simp only [hp_N_new, hp_N_sF, hp_N_sI, hp_N_sL]; omega)) ?_
      refine ww_dup dX10_work_72 rfl ?_
      refine ww_aload_n dX10_work_73 rfl rfl ?_
      refine ww_get 1 dX10_work_74 (hp_K_nw (show (0 : Nat) ≠ hp_N hq by omega) ((sq.2.1 _).trans (hC.K0))) rfl (by decide) inX10 wg_265 (hp_F_nw (show (0 : Nat) ≠ hp_N hq by omega) ((sq.2.2.1 _ _ (fun e => by unfold afY at e; omega)).trans hC.D1)) ?_
      refine ww_cVr (M := m_X10_work) (pc := 77) (v := .ref (hp_N hq + 1)) (h1 := hp_new (hp_new hq 4 3 (vp_V [.null, .null, .int 0]) (fun _ => 0) (fun _ => 0)) 20 190 (fun _ => .null) f (fun _ => 0)) (st := [.ref (hp_N hq), .ref (hp_N hq), .ref 0]) (d := 27) (bc := 0) (bs := 0) (c_Land_copyOfRow hst (h := hp_new hq 4 3 (vp_V [.null, .null, .int 0]) (fun _ => 0) (fun _ => 0)) (by simp only [hp_N_new]; omega) (hLq.nw (by omega) (by omega))) vv_X2_copyOfRow dX10_work_77 wg_358 (hp_K_nw (show la ≠ hp_N hq by omega) ((sq.2.1 _).trans hL.1)) rfl rfl rfl rfl (Nat.le_of_ble_eq_true rfl) (Nat.le_of_ble_eq_true rfl) (Nat.le_of_ble_eq_true rfl) (Nat.le_of_ble_eq_true rfl) ?_
      refine ww_aload_n dX10_work_80 rfl rfl ?_
      refine ww_get 8 dX10_work_81 (hp_K_nw (show (0 : Nat) ≠ hp_N hq + 1 by omega) (hp_K_nw (show (0 : Nat) ≠ hp_N hq by omega) ((sq.2.1 _).trans (hC.K0)))) rfl (by decide) inX10 wg_272 (hp_F_nw (show (0 : Nat) ≠ hp_N hq + 1 by omega) (hp_F_nw (show (0 : Nat) ≠ hp_N hq by omega) ((sq.2.2.1 _ _ (fun e => by unfold afY at e; omega)).trans hpa))) ?_
      refine ww_cI0 (M := m_X10_work) (pc := 84) (h1 := hp_sF (hp_sF (hp_sF (hp_new (hp_new hq 4 3 (vp_V [.null, .null, .int 0]) (fun _ => 0) (fun _ => 0)) 20 190 (fun _ => .null) f (fun _ => 0)) (hp_N hq) 0 (.ref (hp_N hq + 1))) (hp_N hq) 1 (.ref b)) (hp_N hq) 2 (.int (nI (k + 1)))) (st := [.ref (hp_N hq), .ref 0]) (d := 27) (bc := 0) (bs := 0) (c_Past_init1 hst (h := hp_new (hp_new hq 4 3 (vp_V [.null, .null, .int 0]) (fun _ => 0) (fun _ => 0)) 20 190 (fun _ => .null) f (fun _ => 0)) (hp_K_nw (show hp_N hq ≠ hp_N hq + 1 by omega) hp_K_nq) (hp_K_nw (show b ≠ hp_N hq + 1 by omega) (hp_K_nw (show b ≠ hp_N hq by omega) ((sq.2.1 _).trans hkb))) (hp_F_nw (show b ≠ hp_N hq + 1 by omega) (hp_F_nw (show b ≠ hp_N hq by omega) ((sq.2.2.1 _ _ (fun e => by unfold afY at e; omega)).trans hb))) (by omega)) vv_X4_init dX10_work_84 wg_369 (by rw [(hp_K_nw (show hp_N hq ≠ hp_N hq + 1 by omega) hp_K_nq)]; decide) rfl rfl rfl (Nat.le_of_ble_eq_true rfl) (Nat.le_of_ble_eq_true rfl) (Nat.le_of_ble_eq_true rfl) (Nat.le_of_ble_eq_true rfl) ?_
      refine ww_put tyX10 8 dX10_work_87 (hp_K_sF (hp_K_sF (hp_K_sF (hp_K_nw (show (0 : Nat) ≠ hp_N hq + 1 by omega) (hp_K_nw (show (0 : Nat) ≠ hp_N hq by omega) ((sq.2.1 _).trans (hC.K0))))))) rfl (by decide) inX10 tyX10_ok nmX10 wg_272 rfl (ee_na_ref (Or.inl ⟨_, rfl⟩)) ?_
      have m1 : SmN (fun _ => False) (fun a j => a = 0 ∧ j = 8) hq (hp_sF (hp_sF (hp_sF (hp_sF (hp_new (hp_new hq 4 3 (vp_V [.null, .null, .int 0]) (fun _ => 0) (fun _ => 0)) 20 190 (fun _ => .null) f (fun _ => 0)) (hp_N hq) 0 (.ref (hp_N hq + 1))) (hp_N hq) 1 (.ref b)) (hp_N hq) 2 (.int (nI (k + 1)))) 0 8 (.ref (hp_N hq))) := (((((SmN.rf.nw 4 3 _ _ _).nw 20 190 _ _ _).sF (Or.inr (Nat.le_refl _))).sF (Or.inr (Nat.le_refl _))).sF (Or.inr (Nat.le_refl _))).sF (Or.inl ⟨rfl, rfl⟩)
      have n1 : hp_N (hp_sF (hp_sF (hp_sF (hp_sF (hp_new (hp_new hq 4 3 (vp_V [.null, .null, .int 0]) (fun _ => 0) (fun _ => 0)) 20 190 (fun _ => .null) f (fun _ => 0)) (hp_N hq) 0 (.ref (hp_N hq + 1))) (hp_N hq) 1 (.ref b)) (hp_N hq) 2 (.int (nI (k + 1)))) 0 8 (.ref (hp_N hq))) = hp_N hq + 2 := rfl
      have k1 : hp_K (hp_sF (hp_sF (hp_sF (hp_sF (hp_new (hp_new hq 4 3 (vp_V [.null, .null, .int 0]) (fun _ => 0) (fun _ => 0)) 20 190 (fun _ => .null) f (fun _ => 0)) (hp_N hq) 0 (.ref (hp_N hq + 1))) (hp_N hq) 1 (.ref b)) (hp_N hq) 2 (.int (nI (k + 1)))) 0 8 (.ref (hp_N hq))) (hp_N hq) = (4, 3) := (hp_K_sF (hp_K_sF (hp_K_sF (hp_K_sF (hp_K_nw (show hp_N hq ≠ hp_N hq + 1 by omega) hp_K_nq)))))
      have k2 : hp_K (hp_sF (hp_sF (hp_sF (hp_sF (hp_new (hp_new hq 4 3 (vp_V [.null, .null, .int 0]) (fun _ => 0) (fun _ => 0)) 20 190 (fun _ => .null) f (fun _ => 0)) (hp_N hq) 0 (.ref (hp_N hq + 1))) (hp_N hq) 1 (.ref b)) (hp_N hq) 2 (.int (nI (k + 1)))) 0 8 (.ref (hp_N hq))) (hp_N hq + 1) = (20, 190) := (hp_K_sF (hp_K_sF (hp_K_sF (hp_K_sF hp_K_nq))))
      have f0 : hp_F (hp_sF (hp_sF (hp_sF (hp_sF (hp_new (hp_new hq 4 3 (vp_V [.null, .null, .int 0]) (fun _ => 0) (fun _ => 0)) 20 190 (fun _ => .null) f (fun _ => 0)) (hp_N hq) 0 (.ref (hp_N hq + 1))) (hp_N hq) 1 (.ref b)) (hp_N hq) 2 (.int (nI (k + 1)))) 0 8 (.ref (hp_N hq))) (hp_N hq) 0 = .ref (hp_N hq + 1) := (hp_F_nj (by decide) (hp_F_nj (by decide) (hp_F_nj (by decide) (hp_F_eq _ _ _ _))))
      have f1 : hp_F (hp_sF (hp_sF (hp_sF (hp_sF (hp_new (hp_new hq 4 3 (vp_V [.null, .null, .int 0]) (fun _ => 0) (fun _ => 0)) 20 190 (fun _ => .null) f (fun _ => 0)) (hp_N hq) 0 (.ref (hp_N hq + 1))) (hp_N hq) 1 (.ref b)) (hp_N hq) 2 (.int (nI (k + 1)))) 0 8 (.ref (hp_N hq))) (hp_N hq) 1 = .ref b := (hp_F_nj (by decide) (hp_F_nj (by decide) (hp_F_eq _ _ _ _)))
      have f2 : hp_F (hp_sF (hp_sF (hp_sF (hp_sF (hp_new (hp_new hq 4 3 (vp_V [.null, .null, .int 0]) (fun _ => 0) (fun _ => 0)) 20 190 (fun _ => .null) f (fun _ => 0)) (hp_N hq) 0 (.ref (hp_N hq + 1))) (hp_N hq) 1 (.ref b)) (hp_N hq) 2 (.int (nI (k + 1)))) 0 8 (.ref (hp_N hq))) (hp_N hq) 2 = .int (nI (k + 1)) := (hp_F_nj (by decide) (hp_F_eq _ _ _ _))
      have r1 : hp_I (hp_sF (hp_sF (hp_sF (hp_sF (hp_new (hp_new hq 4 3 (vp_V [.null, .null, .int 0]) (fun _ => 0) (fun _ => 0)) 20 190 (fun _ => .null) f (fun _ => 0)) (hp_N hq) 0 (.ref (hp_N hq + 1))) (hp_N hq) 1 (.ref b)) (hp_N hq) 2 (.int (nI (k + 1)))) 0 8 (.ref (hp_N hq))) (hp_N hq + 1) = f := (hp_I_sF (hp_I_sF (hp_I_sF (hp_I_sF hp_I_nq))))
      have p8 : hp_F (hp_sF (hp_sF (hp_sF (hp_sF (hp_new (hp_new hq 4 3 (vp_V [.null, .null, .int 0]) (fun _ => 0) (fun _ => 0)) 20 190 (fun _ => .null) f (fun _ => 0)) (hp_N hq) 0 (.ref (hp_N hq + 1))) (hp_N hq) 1 (.ref b)) (hp_N hq) 2 (.int (nI (k + 1)))) 0 8 (.ref (hp_N hq))) 0 8 = .ref (hp_N hq) := hp_F_eq _ _ _ _
      generalize hp_sF (hp_sF (hp_sF (hp_sF (hp_new (hp_new hq 4 3 (vp_V [.null, .null, .int 0]) (fun _ => 0) (fun _ => 0)) 20 190 (fun _ => .null) f (fun _ => 0)) (hp_N hq) 0 (.ref (hp_N hq + 1))) (hp_N hq) 1 (.ref b)) (hp_N hq) 2 (.int (nI (k + 1)))) 0 8 (.ref (hp_N hq)) = h1 at m1 n1 k1 k2 f0 f1 f2 r1 p8 ⊢
      have hCq := hC.af sq (by omega)
      have hC1 := hCq.smn m1 (by omega) (by decide) (fun j g1 g2 e => by omega)
      have hL1 := hLq.smn m1 (by omega) (fun e => e) (fun j e => by omega)
      have hWq := hW.pf sq (by unfold afX; omega) (by unfold afX; omega) (fun j e => by unfold afY at e; omega)
      have hW1 := hWq.smn m1 (by omega) (fun e => e) (fun e => e) (fun j e => by omega)
      have hA1 := qA.smn m1 (by omega) (fun _ _ _ e => e) (fun j _ e => by omega)
      have hO := (wkS_O (np := np) (T := T) (n := n) (W := (0, W.2.1, W.2.2.1, W.2.2.2.1, W.2.2.2.2)) rfl).2 _ _ hr
      refine ww_aload_n dX10_work_90 rfl rfl ?_
      refine ww_get 7 dX10_work_91 (hC1.K0) rfl (by decide) inX10 wg_271 (hC1.R0_7) ?_
      refine ww_aload_n dX10_work_94 rfl rfl ?_
      refine ww_get 1 dX10_work_95 (hC1.K0) rfl (by decide) inX10 wg_265 hC1.D1 ?_
      refine ww_aload_n dX10_work_98 rfl rfl ?_
      refine ww_get 3 dX10_work_99 (hC1.K0) rfl (by decide) inX10 wg_267 hC1.D3 ?_
      refine ww_cVq0 (M := m_X10_work) (pc := 102) (st := []) (d := 27) (bc := 0) (bs := 0) (c_Pf hst hla hlw hL.2.2.2.2.2.2.1 hok (by omega) hL1 hW1 hA1 hu hO.2.2) vv_X0_perform dX10_work_102 wg_672 (hC1.K23) rfl rfl rfl rfl (Nat.le_of_ble_eq_true rfl) (Nat.le_of_ble_eq_true rfl) (Nat.le_of_ble_eq_true rfl) (Nat.le_of_ble_eq_true rfl) (fun hq2 qq2 => ?_)
      refine ww_aload_n dX10_work_105 rfl rfl ?_
      refine ww_aload_n dX10_work_106 rfl rfl ?_
      refine ww_get 7 dX10_work_107 ((qq2.2.2.1 _).trans (hC1.K0)) rfl (by decide) inX10 wg_271 ((qq2.2.2.2.1 _ _ (fun e => by unfold pfY at e; omega)).trans (hC1.R0_7)) ?_
      refine ww_getN 7 dX10_work_110 ((qq2.2.2.1 _).trans (hC1.K23)) rfl (by decide) inX0 wn_141 qq2.1.2.2.2.2.2 ?_
      refine ww_pfI tyX10 11 dX10_work_113 ((qq2.2.2.1 _).trans (hC1.K0)) rfl (by decide) inX10 tyX10_ok nmX10 wg_275 rfl rfl ?_
      refine ww_aload_n dX10_work_116 rfl rfl ?_
      refine ww_get 7 dX10_work_117 ((qq2.2.2.1 _).trans (hC1.K0)) rfl (by decide) inX10 wg_271 (hp_F_nj (by decide) ((qq2.2.2.2.1 _ _ (fun e => by unfold pfY at e; omega)).trans (hC1.R0_7))) ?_
      refine ww_getN 6 dX10_work_120 ((qq2.2.2.1 _).trans (hC1.K23)) rfl (by decide) inX0 wn_139 (hp_F_nj (by decide) qq2.1.2.2.2.2.1) ?_
      exact ww_iret dX10_work_123 rfl (by
    have s2 : SmN (wrX la lw) wrY h hq := (SmN.of sq).mono (fun _ e => Or.inl e) (fun _ _ e => Or.inl e)
    have s3 : SmN (wrX la lw) wrY h h1 := s2.tr (m1.mono (fun _ e => e.elim) (fun a j e => Or.inr (Or.inr ⟨e.1, Or.inl e.2⟩)))
    have s4 : SmN (wrX la lw) wrY h hq2 := s3.tr ((SmN.of qq2.2).mono (fun _ e => Or.inr e) (fun _ _ e => Or.inr (Or.inl e)))
    have s5 : SmN (wrX la lw) wrY h (hp_sF hq2 0 11 (.int (nI (pfK V9 (onX sz kf vf V9) 6 0 V9.1 (0, 0, 0, f)).2.2.1))) := s4.sF (Or.inl (Or.inr (Or.inr ⟨rfl, Or.inr rfl⟩)))
    have y0 : ∀ a j, a ≠ 23 → hp_F hq2 a j = hp_F h1 a j := fun a j g => qq2.2.2.2.1 _ _ (fun e => g e.1)
    have x0 : hp_I hq2 (hp_N h + 1) = hp_I h1 (hp_N h + 1) := qq2.2.2.2.2.1 _ (fun e => by unfold pfX at e; omega)
    rw [hNq] at k1 k2 f0 f1 f2 r1 p8 n1
    refine ⟨rfl, qq2.2.1.trans n1, s5, hC.smn s5 (by omega) clR_wk (fun j g1 g2 e => by unfold wrY afY pfY at e; omega), ?_, ?_, ?_, hp_F_eq _ _ _ _, ?_, ?_, (qq2.2.2.1 _).trans k1, (qq2.2.2.1 _).trans k2, ?_, ?_, ?_, x0.trans r1⟩
    · exact qq2.1.1.same (X := fun _ => False) (Y := fun a j => a = 0 ∧ j = 11) (Same.rf.sF ⟨rfl, rfl⟩) (fun e => e) (fun j e => by omega)
    · exact qq2.1.2.2.1.same (X := fun _ => False) (Y := fun a j => a = 0 ∧ j = 11) (Same.rf.sF ⟨rfl, rfl⟩) (fun _ _ _ e => e) (fun j _ e => by omega)
    · exact hp_F_nj (by decide) ((y0 0 8 (by decide)).trans p8)
    · exact hp_F_na (by decide) ((y0 1 1 (by decide)).trans ((m1.2.2.1 1 1 (by omega) (fun e => by omega)).trans q11))
    · exact hp_F_na (by decide) ((y0 1 5 (by decide)).trans ((m1.2.2.1 1 5 (by omega) (fun e => by omega)).trans q15))
    · exact hp_F_na (by omega) ((y0 _ 0 (by omega)).trans f0)
    · exact hp_F_na (by omega) ((y0 _ 1 (by omega)).trans f1)
    · exact hp_F_na (by omega) ((y0 _ 2 (by omega)).trans f2))
    · exact absurd c57 (by decide)
  · exfalso; omega
set_option maxHeartbeats 4000000 in
set_option maxRecDepth 100000 in
theorem c_K_work_no {l : Launch} {Z : EE} (hst : l.stackTraces = false) {h : PH} {la lw bk : Nat} (hC : CL h la lw bk) {tp : Nat} (htp : hp_F h 1 1 = .int (nI tp)) (ht6 : tp ≤ 600) {wr : Int32} (hwr : hp_F h 0 13 = .int wr) (n : Int32) (hout : ¬ (nI 0 ≤ n ∧ n ≤ nI (min tp 150))) : CC l Z m_X10_work 7 1 6 [.ref 0, .int n] h (TH iaX (hp_sF h 0 13 (.int (wr + nI 1)))) := by
  refine ee_entry hst (by decide +kernel) rfl rfl (by simp [Value.category]) (Nat.le_of_ble_eq_true rfl) ?_
  refine ww_lv (lv2 := [.ref 0, .int n]) rfl ?_
  refine ww_aload_n dX10_work_0 rfl rfl ?_
  refine ww_iload_n dX10_work_1 rfl rfl ?_
  refine ww_iconst (v := nI 0) dX10_work_2 (by decide) ?_
  refine ww_aload_n dX10_work_3 rfl rfl ?_
  refine ww_get 0 dX10_work_4 (hC.K0) rfl (by decide) inX10 wg_264 (hC.R0_0) ?_
  refine ww_getN 1 dX10_work_7 (hC.K1) rfl (by decide) inX5 wn_40 htp ?_
  refine ww_sipush (v := nI 150) dX10_work_10 (by decide) ?_
  refine ww_cSr (M := m_X10_work) (pc := 13) (v := .int (nI (min tp 150))) (h1 := h) (st := [.int (nI 0), .int n, .ref 0]) (d := 7) (bc := 1) (bs := 6) (c_minN hst tp 150 (by omega) (by omega) h) vv_J9_min_7cf53 dX10_work_13 wg_603 rfl rfl rfl (Nat.le_of_ble_eq_true rfl) (Nat.le_of_ble_eq_true rfl) (Nat.le_of_ble_eq_true rfl) (Nat.le_of_ble_eq_true rfl) ?_
  exact ww_cVt (M := m_X10_work) (pc := 16) (st := []) (d := 7) (bc := 0) (bs := 0) (c_within_f hst hC.K0 hwr n (nI 0) (nI (min tp 150)) hout) vv_X10_within dX10_work_16 wg_410 (hC.K0) rfl rfl rfl rfl (Nat.le_of_ble_eq_true rfl) (Nat.le_of_ble_eq_true rfl) (Nat.le_of_ble_eq_true rfl) (Nat.le_of_ble_eq_true rfl) ⟨rfl, rfl⟩
