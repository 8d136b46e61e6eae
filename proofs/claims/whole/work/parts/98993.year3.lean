/-! ===== the year, whatever the year's land was ahead ===== -/
def LandS (h : PH) (a : Nat) (g : Nat → Int32) : Prop := hp_K h a = (2, 3) ∧ hp_K h (a + 1) = (20, 190) ∧ hp_F h a 0 = .ref (a + 1) ∧ hp_I h (a + 1) = g
theorem LandAt.S {h : PH} {a np du : Nat} {f : Nat → Int32} (hL : LandAt h a np du f) : LandS h a f := ⟨hL.1, hL.2.1, hL.2.2.1, hL.2.2.2.2.2.1⟩
theorem CL.s43 {h : PH} {la lw bk : Nat} (hC : CL h la lw bk) : LandS h 43 (hp_I h 44) := ⟨hC.K43, hC.K44, hC.R43_0, rfl⟩
set_option maxHeartbeats 4000000 in
set_option maxRecDepth 100000 in
theorem c_LandS_takeRow {l : Launch} {Z : EE} (hst : l.stackTraces = false) {h : PH} {a : Nat} {f : Nat → Int32} (hL : LandS h a f) {r : Nat} (hr : hp_K h r = (20, 190)) : CC l Z m_X2_takeRow 1 0 0 [.ref a, .ref r] h (RT none (hp_sI h (a + 1) (fun i => if i < 190 then hp_I h r i else f i))) := by
  refine ee_entry hst (by decide +kernel) rfl rfl (by simp [Value.category]) (Nat.le_of_ble_eq_true rfl) ?_
  refine ww_lv (lv2 := [.ref a, .ref r]) rfl ?_
  refine ww_aload_n dX2_takeRow_0 rfl rfl ?_
  refine ww_ifnull dX2_takeRow_1 ?_
  refine ww_aload_n dX2_takeRow_4 rfl rfl ?_
  refine ww_alenI dX2_takeRow_5 hr ?_
  refine ww_sipush (v := nI 190) dX2_takeRow_6 (by decide) ?_
  refine ww_icmp_neN (tgt := 25) dX2_takeRow_9 (by decide) (by omega) (by omega) (fun c9 => ?_) (fun c9 => ?_)
  · exact absurd c9 (by decide)
  · refine ww_aload_n dX2_takeRow_12 rfl rfl ?_
    refine ww_iconst (v := nI 0) dX2_takeRow_13 (by decide) ?_
    refine ww_aload_n dX2_takeRow_14 rfl rfl ?_
    refine ww_get 0 dX2_takeRow_15 hL.1 rfl (by decide) inX2 wg_74 hL.2.2.1 ?_
    refine ww_iconst (v := nI 0) dX2_takeRow_18 (by decide) ?_
    refine ww_sipush (v := nI 190) dX2_takeRow_19 (by decide) ?_
    refine ww_copy dX2_takeRow_22 (by decide) (Nat.le_of_ble_eq_true rfl) wg_346 wg_348 wg_347 wg_22 hr hL.2.1 (by decide) (by decide) (by decide) (by decide) (by decide) ?_
    exact ww_vret dX2_takeRow_25 rfl ⟨rfl, by rw [show (fun i => if i < 190 then hp_I h r i else f i) = va_cpy (hp_I h r) (hp_I h (a + 1)) (nI 0).toNatClampNeg (nI 0).toNatClampNeg (nI 190).toNatClampNeg from by funext i; rw [cpy_in, hL.2.2.2]]⟩
set_option maxHeartbeats 4000000 in
set_option maxRecDepth 100000 in
theorem c_LandS_become {l : Launch} {Z : EE} (hst : l.stackTraces = false) {h : PH} {la np du : Nat} {f g : Nat → Int32} (hla : la = 3 ∨ la = 5) (hL : LandAt h la np du f) (hY : LandS h 43 g) : CC l Z m_X2_become 2 0 0 [.ref 43, .ref la] h (RT none (hp_sF (hp_sF (hp_sI h (43 + 1) (fun i => if i < 190 then f i else g i)) 43 1 (.int (nI np))) 43 2 (.int (nI du)))) := by
  refine ee_entry hst (by decide +kernel) rfl rfl (by simp [Value.category]) (Nat.le_of_ble_eq_true rfl) ?_
  refine ww_lv (lv2 := [.ref 43, .ref la]) rfl ?_
  refine ww_aload_n dX2_become_0 rfl rfl ?_
  refine ww_aload_n dX2_become_1 rfl rfl ?_
  refine ww_get 0 dX2_become_2 hL.1 rfl (by decide) inX2 wg_74 hL.2.2.1 ?_
  refine ww_cV0 (M := m_X2_become) (pc := 5) (h1 := hp_sI h (43 + 1) (fun i => if i < 190 then f i else g i)) (st := []) (d := 2) (bc := 0) (bs := 0) (by have h9 := c_LandS_takeRow (Z := Z) hst hY hL.2.1; rw [hL.2.2.2.2.2.1] at h9; exact h9) vv_X2_takeRow dX2_become_5 wg_1192 hY.1 rfl rfl rfl rfl (Nat.le_of_ble_eq_true rfl) (Nat.le_of_ble_eq_true rfl) (Nat.le_of_ble_eq_true rfl) (Nat.le_of_ble_eq_true rfl) ?_
  refine ww_aload_n dX2_become_8 rfl rfl ?_
  refine ww_aload_n dX2_become_9 rfl rfl ?_
  refine ww_get 1 dX2_become_10 hL.1 rfl (by decide) inX2 wg_75 hL.2.2.2.1 ?_
  refine ww_pfI tyX2 1 dX2_become_13 hY.1 rfl (by decide) inX2 tyX2_ok nmX2 wg_75 rfl rfl ?_
  refine ww_aload_n dX2_become_16 rfl rfl ?_
  refine ww_aload_n dX2_become_17 rfl rfl ?_
  refine ww_get 2 dX2_become_18 hL.1 rfl (by decide) inX2 wg_79 (hp_F_nj (by decide) hL.2.2.2.2.1) ?_
  refine ww_pfI tyX2 2 dX2_become_21 hY.1 rfl (by decide) inX2 tyX2_ok nmX2 wg_79 rfl rfl ?_
  exact ww_vret dX2_become_24 rfl ⟨rfl, rfl⟩
set_option maxHeartbeats 4000000 in
set_option maxRecDepth 100000 in
theorem c_YrS_live {l : Launch} {Z : EE} (hst : l.stackTraces = false) {h : PH} {la lw bk : Nat} (hC : CL h la lw bk) {np du : Nat} {f0 : Nat → Int32} (hL : LandAt h la np du f0) {sz : Nat} {kf vf : Nat → Int32} (hW : LawAt h lw sz kf vf) (hok : LawOK kf vf sz) {g : Nat → Int32} (hY0 : LandS h 43 g) (hu : RowU f0 np) (sd : Int32) (us : Nat) (hus : us ≤ 96) : CC l Z m_X9_live 5 0 0 [.ref 42, .ref la, .ref lw, .int sd, .int (nI us)] h (RQ none (fun h9 => (np = 0 ∧ Same CX CY h h9 ∧ LandAt h9 43 np du (fun i => if i < 190 then f0 i else g i) ∧ hp_F h9 42 3 = .int (nI 0) ∧ hp_F h9 42 4 = .int (nI 0) ∧ ∀ i, i < 61 → hp_I h9 45 i = nI 0) ∨ (0 < np ∧ YL sz kf vf np du (fun i => if i < 190 then f0 i else g i) sd us h h9))) := by
  refine ee_entry hst (by decide +kernel) rfl rfl (by simp [Value.category]) (Nat.le_of_ble_eq_true rfl) ?_
  refine ww_lv (lv2 := [.ref 42, .ref la, .ref lw, .int sd, .int (nI us), UU]) rfl ?_
  have hla := hC.la
  have hlw := hC.lw
  have hbk := hC.bk
  have h6 := hL.2.2.2.2.2.2.1
  refine ww_aload_n dX9_live_0 rfl rfl ?_
  refine ww_get 0 dX9_live_1 (hC.K42) rfl (by decide) inX9 wg_245 (hC.R42_0) ?_
  refine ww_aload_n dX9_live_4 rfl rfl ?_
  refine ww_cV0 (M := m_X9_live) (pc := 5) (h1 := hp_sF (hp_sF (hp_sI h (43 + 1) (fun i => if i < 190 then f0 i else g i)) 43 1 (.int (nI np))) 43 2 (.int (nI du))) (st := []) (d := 5) (bc := 0) (bs := 0) (c_LandS_become hst hC.la hL hY0) vv_X2_become dX9_live_5 wg_1188 hC.K43 rfl rfl rfl rfl (Nat.le_of_ble_eq_true rfl) (Nat.le_of_ble_eq_true rfl) (Nat.le_of_ble_eq_true rfl) (Nat.le_of_ble_eq_true rfl) ?_
  refine ww_aload_n dX9_live_8 rfl rfl ?_
  refine ww_iload_n dX9_live_9 rfl rfl ?_
  refine ww_pfI tyX9 2 dX9_live_10 (hC.K42) rfl (by decide) inX9 tyX9_ok nmX9 wg_248 rfl rfl ?_
  refine ww_aload_n dX9_live_13 rfl rfl ?_
  refine ww_iconst (v := nI 0) dX9_live_14 (by decide) ?_
  refine ww_pfI tyX9 3 dX9_live_15 (hC.K42) rfl (by decide) inX9 tyX9_ok nmX9 wg_249 rfl rfl ?_
  refine ww_aload_n dX9_live_18 rfl rfl ?_
  refine ww_iconst (v := nI 0) dX9_live_19 (by decide) ?_
  refine ww_pfI tyX9 4 dX9_live_20 (hC.K42) rfl (by decide) inX9 tyX9_ok nmX9 wg_251 rfl rfl ?_
  refine ww_iconst (v := nI 0) dX9_live_23 (by decide) ?_
  refine ww_sti (lv2 := [.ref 42, .ref la, .ref lw, .int sd, .int (nI us), .int (nI 0)]) dX9_live_24 rfl (by decide) rfl ?_
  have t1 : Same CX CY h (hp_sF (hp_sF (hp_sF (hp_sF (hp_sF (hp_sI h (43 + 1) (fun i => if i < 190 then f0 i else g i)) 43 1 (.int (nI np))) 43 2 (.int (nI du))) 42 2 (.int sd)) 42 3 (.int (nI 0))) 42 4 (.int (nI 0))) := (((((Same.rf.sI (by decide)).sF (by decide)).sF (by decide)).sF (by decide)).sF (by decide)).sF (by decide)
  have l1 : LandAt (hp_sF (hp_sF (hp_sF (hp_sF (hp_sF (hp_sI h (43 + 1) (fun i => if i < 190 then f0 i else g i)) 43 1 (.int (nI np))) 43 2 (.int (nI du))) 42 2 (.int sd)) 42 3 (.int (nI 0))) 42 4 (.int (nI 0))) 43 np du (fun i => if i < 190 then f0 i else g i) := ⟨hC.K43, hC.K44, (hp_F_nj (by decide) (hp_F_nj (by decide) (hp_F_nj (by decide) (hp_F_nj (by decide) (hp_F_nj (by decide) hC.R43_0))))), (hp_F_nj (by decide) (hp_F_nj (by decide) (hp_F_nj (by decide) (hp_F_nj (by decide) (hp_F_eq _ _ _ _))))), (hp_F_nj (by decide) (hp_F_nj (by decide) (hp_F_na (by omega) (hp_F_eq _ _ _ _)))), (hp_I_sF (hp_I_sF (hp_I_sF (hp_I_sF (hp_I_sF (hp_I_eq _ _ _)))))), hL.2.2.2.2.2.2⟩
  have f2 : hp_F (hp_sF (hp_sF (hp_sF (hp_sF (hp_sF (hp_sI h (43 + 1) (fun i => if i < 190 then f0 i else g i)) 43 1 (.int (nI np))) 43 2 (.int (nI du))) 42 2 (.int sd)) 42 3 (.int (nI 0))) 42 4 (.int (nI 0))) 42 2 = .int sd := (hp_F_nj (by decide) (hp_F_nj (by decide) (hp_F_eq _ _ _ _)))
  have f3 : hp_F (hp_sF (hp_sF (hp_sF (hp_sF (hp_sF (hp_sI h (43 + 1) (fun i => if i < 190 then f0 i else g i)) 43 1 (.int (nI np))) 43 2 (.int (nI du))) 42 2 (.int sd)) 42 3 (.int (nI 0))) 42 4 (.int (nI 0))) 42 3 = .int (nI 0) := (hp_F_nj (by decide) (hp_F_eq _ _ _ _))
  have f4 : hp_F (hp_sF (hp_sF (hp_sF (hp_sF (hp_sF (hp_sI h (43 + 1) (fun i => if i < 190 then f0 i else g i)) 43 1 (.int (nI np))) 43 2 (.int (nI du))) 42 2 (.int sd)) 42 3 (.int (nI 0))) 42 4 (.int (nI 0))) 42 4 = .int (nI 0) := (hp_F_eq _ _ _ _)
  generalize hp_sF (hp_sF (hp_sF (hp_sF (hp_sF (hp_sI h (43 + 1) (fun i => if i < 190 then f0 i else g i)) 43 1 (.int (nI np))) 43 2 (.int (nI du))) 42 2 (.int sd)) 42 3 (.int (nI 0))) 42 4 (.int (nI 0)) = hq1 at t1 l1 f2 f3 f4 ⊢
  have hC1 := hC.scr t1
  refine l_Yr_clear hst hC1 sd us 61 0 hq1 Same.rf rfl (fun i hi => absurd hi (Nat.not_lt_zero _)) (fun h9 s9 z9 => ?_)
  have t2 : Same CX CY h h9 := t1.tr (s9.mono (fun c e => by subst e; decide) (fun _ _ e => e.elim))
  have l2 := l1.same s9 (by decide) (fun _ e => e)
  have hC2 := hC.scr t2
  have f32 := (s9.2.2.1 42 2 (fun e => e)).trans f2
  have f33 := (s9.2.2.1 42 3 (fun e => e)).trans f3
  have f34 := (s9.2.2.1 42 4 (fun e => e)).trans f4
  refine ww_aload_n dX9_live_47 rfl rfl ?_
  refine ww_get 0 dX9_live_48 hC2.K42 rfl (by decide) inX9 wg_245 hC2.R42_0 ?_
  refine ww_getN 1 dX9_live_51 hC2.K43 rfl (by decide) inX2 wn_76 l2.2.2.2.1 ?_
  refine ww_if_neN (tgt := 58) dX9_live_54 (by decide) (by omega) (fun c54 => ?_) (fun c54 => ?_)
  · refine ww_iconst (v := nI 1) dX9_live_58 (by decide) ?_
    refine ww_sti (lv2 := [.ref 42, .ref la, .ref lw, .int sd, .int (nI us), .int (nI 1)]) dX9_live_59 rfl (by decide) rfl ?_
    refine ww_post (fun r h8 hp => ⟨hp.1, Or.inr ⟨c54, hp.2⟩⟩) (l_Yr_live hst hC hL hW hok (g0 := (fun i => if i < 190 then f0 i else g i)) sd us hus c54 (hu.cg (fun i hi => if_pos hi)) us 0 h9 ⟨t2, l2, f32, f33, f34, fun i hi => (z9 i hi).trans rfl⟩ (by omega))
  · exact ww_vret dX9_live_57 rfl ⟨rfl, Or.inl ⟨c54, t2, l2, f33, f34, z9⟩⟩
theorem c_YrS_done {l : Launch} {Z : EE} (hst : l.stackTraces = false) {h : PH} {la lw bk : Nat} (hC : CL h la lw bk) {np du : Nat} {f : Nat → Int32} (hL : LandAt h la np du f) {sz : Nat} {kf vf : Nat → Int32} (hW : LawAt h lw sz kf vf) (hok : LawOK kf vf sz) {g : Nat → Int32} (hY0 : LandS h 43 g) (hu : RowU f np) (sd : Int32) (us : Nat) (hus : us ≤ 96) : CC l Z m_X9_live 5 0 0 [.ref 42, .ref la, .ref lw, .int sd, .int (nI us)] h (RQ none (YD np du us (yE sz kf vf np f sd us) h)) := by
  have h6 := hL.2.2.2.2.2.2.1
  refine cc_post (fun r h9 hp => ⟨hp.1, ?_⟩) (c_YrS_live hst hC hL hW hok hY0 hu sd us hus)
  have he : EqR (fun i => if i < 190 then f i else g i) f := fun i hi => if_pos hi
  rcases hp.2 with ⟨e, h1, h2, h3, h4, h5⟩ | ⟨e, h1⟩
  · subst e
    exact ⟨h1, _, h2, he, hu.cg he, h3, h4, Nat.zero_le _, h5⟩
  · have e0 : ¬ np = 0 := by omega
    have e1 : yE sz kf vf np f sd us = yF sz kf vf np f sd us := if_neg e0
    obtain ⟨q1, q2⟩ := yF_eq sz kf vf sd e h6 (hu.cg he) he us
    have hd := yF_dn sz kf vf np (fun i => if i < 190 then f i else g i) sd us
    rw [e1]
    unfold YD
    rw [← q2, if_neg e0]
    have hY := h1.2
    exact ⟨h1.1, _, hY.1, q1, yF_u sz kf vf sd e h6 (hu.cg he) us, hY.2.2.1, hY.2.2.2.1, hd, hY.2.2.2.2⟩
set_option maxHeartbeats 4000000 in
set_option maxRecDepth 100000 in
theorem c_S_year0 {l : Launch} {Z : EE} (hst : l.stackTraces = false) {h : PH} {la lw bk : Nat} (hC : CL h la lw bk) {np du : Nat} {f : Nat → Int32} (hL : LandAt h la np du f) {sz : Nat} {kf vf : Nat → Int32} (hW : LawAt h lw sz kf vf) (hok : LawOK kf vf sz) {g : Nat → Int32} (hY0 : LandS h 43 g) (hu : RowU f np) (sd : Int32) (us : Nat) (lus : 1 ≤ us) (hus : us ≤ 96) : CC l Z m_X10_year 6 0 0 [.ref 0, .int sd, .int (nI us), .int (nI 0)] h (COk (nI (yE sz kf vf np f sd us).2.2.1) h) := by
  refine ee_entry hst (by decide +kernel) rfl rfl (by simp [Value.category]) (Nat.le_of_ble_eq_true rfl) ?_
  refine ww_lv (lv2 := [.ref 0, .int sd, .int (nI us), .int (nI 0)]) rfl ?_
  have hla := hC.la
  have hlw := hC.lw
  have hbk := hC.bk
  refine ww_aload_n dX10_year_0 rfl rfl ?_
  refine ww_iload_n dX10_year_1 rfl rfl ?_
  refine ww_iconst (v := nI 1) dX10_year_2 (by decide) ?_
  refine ww_bipush (v := nI 96) dX10_year_3 (by decide) ?_
  refine ww_cV0 (M := m_X10_year) (pc := 5) (h1 := h) (st := []) (d := 6) (bc := 0) (bs := 0) (c_within_t hst (nI us) (nI 1) (nI 96) (nI_le (by omega) (by omega)) (nI_le (by omega) (by omega)) _) vv_X10_within dX10_year_5 wg_410 (hC.K0) rfl rfl rfl rfl (Nat.le_of_ble_eq_true rfl) (Nat.le_of_ble_eq_true rfl) (Nat.le_of_ble_eq_true rfl) (Nat.le_of_ble_eq_true rfl) ?_
  refine ww_aload_n dX10_year_8 rfl rfl ?_
  refine ww_iload_n dX10_year_9 rfl rfl ?_
  refine ww_iconst (v := nI 0) dX10_year_10 (by decide) ?_
  refine ww_iconst (v := nI 3) dX10_year_11 (by decide) ?_
  refine ww_cV0 (M := m_X10_year) (pc := 12) (h1 := h) (st := []) (d := 6) (bc := 0) (bs := 0) (c_within_t hst (nI 0) (nI 0) (nI 3) (by decide) (by decide) _) vv_X10_within dX10_year_12 wg_410 (hC.K0) rfl rfl rfl rfl (Nat.le_of_ble_eq_true rfl) (Nat.le_of_ble_eq_true rfl) (Nat.le_of_ble_eq_true rfl) (Nat.le_of_ble_eq_true rfl) ?_
  refine ww_aload_n dX10_year_15 rfl rfl ?_
  refine ww_get 18 dX10_year_16 (hC.K0) rfl (by decide) inX10 wg_282 (hC.R0_18) ?_
  refine ww_aload_n dX10_year_19 rfl rfl ?_
  refine ww_get 1 dX10_year_20 (hC.K0) rfl (by decide) inX10 wg_265 hC.D1 ?_
  refine ww_aload_n dX10_year_23 rfl rfl ?_
  refine ww_get 3 dX10_year_24 (hC.K0) rfl (by decide) inX10 wg_267 hC.D3 ?_
  refine ww_iload_n dX10_year_27 rfl rfl ?_
  refine ww_iload_n dX10_year_28 rfl rfl ?_
  refine ww_cVq0 (M := m_X10_year) (pc := 29) (st := []) (d := 6) (bc := 0) (bs := 0) (c_YrS_done hst hC hL hW hok hY0 hu sd us (by omega)) vv_X9_live dX10_year_29 wg_1184 (hC.K42) rfl rfl rfl rfl (Nat.le_of_ble_eq_true rfl) (Nat.le_of_ble_eq_true rfl) (Nat.le_of_ble_eq_true rfl) (Nat.le_of_ble_eq_true rfl) (fun hq1 qq1 => ?_)
  obtain ⟨t1, g9, y1, y2, yu, y3, y4, y5, y6⟩ := qq1
  have hC1 := hC.scr t1
  have h6 := hL.2.2.2.2.2.2.1
  refine ww_iload_n dX10_year_32 rfl rfl ?_
  refine ww_tableIn (off := 27) (tgt := 60) dX10_year_33 (by decide) (by decide) (by decide) (by decide) ?_
  refine ww_aload_n dX10_year_60 rfl rfl ?_
  refine ww_get 18 dX10_year_61 (hC1.K0) rfl (by decide) inX10 wg_282 (hC1.R0_18) ?_
  refine ww_getN 3 dX10_year_64 (hC1.K42) rfl (by decide) inX9 wn_250 y3 ?_
  exact ww_iret dX10_year_67 rfl ⟨rfl, t1⟩
set_option maxHeartbeats 4000000 in
set_option maxRecDepth 100000 in
theorem c_S_year1 {l : Launch} {Z : EE} (hst : l.stackTraces = false) {h : PH} {la lw bk : Nat} (hC : CL h la lw bk) {np du : Nat} {f : Nat → Int32} (hL : LandAt h la np du f) {sz : Nat} {kf vf : Nat → Int32} (hW : LawAt h lw sz kf vf) (hok : LawOK kf vf sz) {g : Nat → Int32} (hY0 : LandS h 43 g) (hu : RowU f np) (sd : Int32) (us : Nat) (lus : 1 ≤ us) (hus : us ≤ 96) : CC l Z m_X10_year 6 0 0 [.ref 0, .int sd, .int (nI us), .int (nI 1)] h (COk (smI (fun q => (yE sz kf vf np f sd us).1 (183 + q)) np) h) := by
  refine ee_entry hst (by decide +kernel) rfl rfl (by simp [Value.category]) (Nat.le_of_ble_eq_true rfl) ?_
  refine ww_lv (lv2 := [.ref 0, .int sd, .int (nI us), .int (nI 1)]) rfl ?_
  have hla := hC.la
  have hlw := hC.lw
  have hbk := hC.bk
  refine ww_aload_n dX10_year_0 rfl rfl ?_
  refine ww_iload_n dX10_year_1 rfl rfl ?_
  refine ww_iconst (v := nI 1) dX10_year_2 (by decide) ?_
  refine ww_bipush (v := nI 96) dX10_year_3 (by decide) ?_
  refine ww_cV0 (M := m_X10_year) (pc := 5) (h1 := h) (st := []) (d := 6) (bc := 0) (bs := 0) (c_within_t hst (nI us) (nI 1) (nI 96) (nI_le (by omega) (by omega)) (nI_le (by omega) (by omega)) _) vv_X10_within dX10_year_5 wg_410 (hC.K0) rfl rfl rfl rfl (Nat.le_of_ble_eq_true rfl) (Nat.le_of_ble_eq_true rfl) (Nat.le_of_ble_eq_true rfl) (Nat.le_of_ble_eq_true rfl) ?_
  refine ww_aload_n dX10_year_8 rfl rfl ?_
  refine ww_iload_n dX10_year_9 rfl rfl ?_
  refine ww_iconst (v := nI 0) dX10_year_10 (by decide) ?_
  refine ww_iconst (v := nI 3) dX10_year_11 (by decide) ?_
  refine ww_cV0 (M := m_X10_year) (pc := 12) (h1 := h) (st := []) (d := 6) (bc := 0) (bs := 0) (c_within_t hst (nI 1) (nI 0) (nI 3) (by decide) (by decide) _) vv_X10_within dX10_year_12 wg_410 (hC.K0) rfl rfl rfl rfl (Nat.le_of_ble_eq_true rfl) (Nat.le_of_ble_eq_true rfl) (Nat.le_of_ble_eq_true rfl) (Nat.le_of_ble_eq_true rfl) ?_
  refine ww_aload_n dX10_year_15 rfl rfl ?_
  refine ww_get 18 dX10_year_16 (hC.K0) rfl (by decide) inX10 wg_282 (hC.R0_18) ?_
  refine ww_aload_n dX10_year_19 rfl rfl ?_
  refine ww_get 1 dX10_year_20 (hC.K0) rfl (by decide) inX10 wg_265 hC.D1 ?_
  refine ww_aload_n dX10_year_23 rfl rfl ?_
  refine ww_get 3 dX10_year_24 (hC.K0) rfl (by decide) inX10 wg_267 hC.D3 ?_
  refine ww_iload_n dX10_year_27 rfl rfl ?_
  refine ww_iload_n dX10_year_28 rfl rfl ?_
  refine ww_cVq0 (M := m_X10_year) (pc := 29) (st := []) (d := 6) (bc := 0) (bs := 0) (c_YrS_done hst hC hL hW hok hY0 hu sd us (by omega)) vv_X9_live dX10_year_29 wg_1184 (hC.K42) rfl rfl rfl rfl (Nat.le_of_ble_eq_true rfl) (Nat.le_of_ble_eq_true rfl) (Nat.le_of_ble_eq_true rfl) (Nat.le_of_ble_eq_true rfl) (fun hq1 qq1 => ?_)
  obtain ⟨t1, g9, y1, y2, yu, y3, y4, y5, y6⟩ := qq1
  have hC1 := hC.scr t1
  have h6 := hL.2.2.2.2.2.2.1
  refine ww_iload_n dX10_year_32 rfl rfl ?_
  refine ww_tableIn (off := 35) (tgt := 68) dX10_year_33 (by decide) (by decide) (by decide) (by decide) ?_
  refine ww_aload_n dX10_year_68 rfl rfl ?_
  refine ww_get 18 dX10_year_69 (hC1.K0) rfl (by decide) inX10 wg_282 (hC1.R0_18) ?_
  refine ww_getN 0 dX10_year_72 (hC1.K42) rfl (by decide) inX9 wn_246 (hC1.R42_0) ?_
  refine ww_cVr (M := m_X10_year) (pc := 75) (v := .int (smI (fun q => mnI (nI 9999) (g9 (183 + q))) np)) (h1 := hq1) (st := []) (d := 6) (bc := 0) (bs := 0) (c_Land_allCoins hst y1) vv_X2_allCoins dX10_year_75 wg_787 (hC1.K43) rfl rfl rfl rfl (Nat.le_of_ble_eq_true rfl) (Nat.le_of_ble_eq_true rfl) (Nat.le_of_ble_eq_true rfl) (Nat.le_of_ble_eq_true rfl) ?_
  exact ww_iret dX10_year_78 rfl ⟨by rw [smI_congr np (fun q hq => (yu.mn (by omega)).trans (y2 _ (by omega)))], t1⟩
set_option maxHeartbeats 4000000 in
set_option maxRecDepth 100000 in
theorem c_S_year2 {l : Launch} {Z : EE} (hst : l.stackTraces = false) {h : PH} {la lw bk : Nat} (hC : CL h la lw bk) {np du : Nat} {f : Nat → Int32} (hL : LandAt h la np du f) {sz : Nat} {kf vf : Nat → Int32} (hW : LawAt h lw sz kf vf) (hok : LawOK kf vf sz) {g : Nat → Int32} (hY0 : LandS h 43 g) (hu : RowU f np) (sd : Int32) (us : Nat) (lus : 1 ≤ us) (hus : us ≤ 96) : CC l Z m_X10_year 6 0 0 [.ref 0, .int sd, .int (nI us), .int (nI 2)] h (COk (foI (fun q m => mxI m ((yE sz kf vf np f sd us).1 (183 + q))) 0 np) h) := by
  refine ee_entry hst (by decide +kernel) rfl rfl (by simp [Value.category]) (Nat.le_of_ble_eq_true rfl) ?_
  refine ww_lv (lv2 := [.ref 0, .int sd, .int (nI us), .int (nI 2)]) rfl ?_
  have hla := hC.la
  have hlw := hC.lw
  have hbk := hC.bk
  refine ww_aload_n dX10_year_0 rfl rfl ?_
  refine ww_iload_n dX10_year_1 rfl rfl ?_
  refine ww_iconst (v := nI 1) dX10_year_2 (by decide) ?_
  refine ww_bipush (v := nI 96) dX10_year_3 (by decide) ?_
  refine ww_cV0 (M := m_X10_year) (pc := 5) (h1 := h) (st := []) (d := 6) (bc := 0) (bs := 0) (c_within_t hst (nI us) (nI 1) (nI 96) (nI_le (by omega) (by omega)) (nI_le (by omega) (by omega)) _) vv_X10_within dX10_year_5 wg_410 (hC.K0) rfl rfl rfl rfl (Nat.le_of_ble_eq_true rfl) (Nat.le_of_ble_eq_true rfl) (Nat.le_of_ble_eq_true rfl) (Nat.le_of_ble_eq_true rfl) ?_
  refine ww_aload_n dX10_year_8 rfl rfl ?_
  refine ww_iload_n dX10_year_9 rfl rfl ?_
  refine ww_iconst (v := nI 0) dX10_year_10 (by decide) ?_
  refine ww_iconst (v := nI 3) dX10_year_11 (by decide) ?_
  refine ww_cV0 (M := m_X10_year) (pc := 12) (h1 := h) (st := []) (d := 6) (bc := 0) (bs := 0) (c_within_t hst (nI 2) (nI 0) (nI 3) (by decide) (by decide) _) vv_X10_within dX10_year_12 wg_410 (hC.K0) rfl rfl rfl rfl (Nat.le_of_ble_eq_true rfl) (Nat.le_of_ble_eq_true rfl) (Nat.le_of_ble_eq_true rfl) (Nat.le_of_ble_eq_true rfl) ?_
  refine ww_aload_n dX10_year_15 rfl rfl ?_
  refine ww_get 18 dX10_year_16 (hC.K0) rfl (by decide) inX10 wg_282 (hC.R0_18) ?_
  refine ww_aload_n dX10_year_19 rfl rfl ?_
  refine ww_get 1 dX10_year_20 (hC.K0) rfl (by decide) inX10 wg_265 hC.D1 ?_
  refine ww_aload_n dX10_year_23 rfl rfl ?_
  refine ww_get 3 dX10_year_24 (hC.K0) rfl (by decide) inX10 wg_267 hC.D3 ?_
  refine ww_iload_n dX10_year_27 rfl rfl ?_
  refine ww_iload_n dX10_year_28 rfl rfl ?_
  refine ww_cVq0 (M := m_X10_year) (pc := 29) (st := []) (d := 6) (bc := 0) (bs := 0) (c_YrS_done hst hC hL hW hok hY0 hu sd us (by omega)) vv_X9_live dX10_year_29 wg_1184 (hC.K42) rfl rfl rfl rfl (Nat.le_of_ble_eq_true rfl) (Nat.le_of_ble_eq_true rfl) (Nat.le_of_ble_eq_true rfl) (Nat.le_of_ble_eq_true rfl) (fun hq1 qq1 => ?_)
  obtain ⟨t1, g9, y1, y2, yu, y3, y4, y5, y6⟩ := qq1
  have hC1 := hC.scr t1
  have h6 := hL.2.2.2.2.2.2.1
  refine ww_iload_n dX10_year_32 rfl rfl ?_
  refine ww_tableIn (off := 46) (tgt := 79) dX10_year_33 (by decide) (by decide) (by decide) (by decide) ?_
  refine ww_aload_n dX10_year_79 rfl rfl ?_
  refine ww_get 18 dX10_year_80 (hC1.K0) rfl (by decide) inX10 wg_282 (hC1.R0_18) ?_
  refine ww_getN 0 dX10_year_83 (hC1.K42) rfl (by decide) inX9 wn_246 (hC1.R42_0) ?_
  refine ww_cVr (M := m_X10_year) (pc := 86) (v := .int (foI (fun q m => mxI m (g9 (183 + q))) 0 np)) (h1 := hq1) (st := []) (d := 6) (bc := 0) (bs := 0) (c_Land_richest hst y1) vv_X2_richest dX10_year_86 wg_1205 (hC1.K43) rfl rfl rfl rfl (Nat.le_of_ble_eq_true rfl) (Nat.le_of_ble_eq_true rfl) (Nat.le_of_ble_eq_true rfl) (Nat.le_of_ble_eq_true rfl) ?_
  exact ww_iret dX10_year_89 rfl ⟨by rw [foI_congr np (fun q hq => by funext m; rw [y2 _ (by omega)])], t1⟩
set_option maxHeartbeats 4000000 in
set_option maxRecDepth 100000 in
theorem c_S_year3 {l : Launch} {Z : EE} (hst : l.stackTraces = false) {h : PH} {la lw bk : Nat} (hC : CL h la lw bk) {np du : Nat} {f : Nat → Int32} (hL : LandAt h la np du f) {sz : Nat} {kf vf : Nat → Int32} (hW : LawAt h lw sz kf vf) (hok : LawOK kf vf sz) {g : Nat → Int32} (hY0 : LandS h 43 g) (hu : RowU f np) (sd : Int32) (us : Nat) (lus : 1 ≤ us) (hus : us ≤ 96) : CC l Z m_X10_year 6 0 0 [.ref 0, .int sd, .int (nI us), .int (nI 3)] h (COk (nI (cnt (fun i => (yE sz kf vf np f sd us).2.2.2 i != 0) 61)) h) := by
  refine ee_entry hst (by decide +kernel) rfl rfl (by simp [Value.category]) (Nat.le_of_ble_eq_true rfl) ?_
  refine ww_lv (lv2 := [.ref 0, .int sd, .int (nI us), .int (nI 3)]) rfl ?_
  have hla := hC.la
  have hlw := hC.lw
  have hbk := hC.bk
  refine ww_aload_n dX10_year_0 rfl rfl ?_
  refine ww_iload_n dX10_year_1 rfl rfl ?_
  refine ww_iconst (v := nI 1) dX10_year_2 (by decide) ?_
  refine ww_bipush (v := nI 96) dX10_year_3 (by decide) ?_
  refine ww_cV0 (M := m_X10_year) (pc := 5) (h1 := h) (st := []) (d := 6) (bc := 0) (bs := 0) (c_within_t hst (nI us) (nI 1) (nI 96) (nI_le (by omega) (by omega)) (nI_le (by omega) (by omega)) _) vv_X10_within dX10_year_5 wg_410 (hC.K0) rfl rfl rfl rfl (Nat.le_of_ble_eq_true rfl) (Nat.le_of_ble_eq_true rfl) (Nat.le_of_ble_eq_true rfl) (Nat.le_of_ble_eq_true rfl) ?_
  refine ww_aload_n dX10_year_8 rfl rfl ?_
  refine ww_iload_n dX10_year_9 rfl rfl ?_
  refine ww_iconst (v := nI 0) dX10_year_10 (by decide) ?_
  refine ww_iconst (v := nI 3) dX10_year_11 (by decide) ?_
  refine ww_cV0 (M := m_X10_year) (pc := 12) (h1 := h) (st := []) (d := 6) (bc := 0) (bs := 0) (c_within_t hst (nI 3) (nI 0) (nI 3) (by decide) (by decide) _) vv_X10_within dX10_year_12 wg_410 (hC.K0) rfl rfl rfl rfl (Nat.le_of_ble_eq_true rfl) (Nat.le_of_ble_eq_true rfl) (Nat.le_of_ble_eq_true rfl) (Nat.le_of_ble_eq_true rfl) ?_
  refine ww_aload_n dX10_year_15 rfl rfl ?_
  refine ww_get 18 dX10_year_16 (hC.K0) rfl (by decide) inX10 wg_282 (hC.R0_18) ?_
  refine ww_aload_n dX10_year_19 rfl rfl ?_
  refine ww_get 1 dX10_year_20 (hC.K0) rfl (by decide) inX10 wg_265 hC.D1 ?_
  refine ww_aload_n dX10_year_23 rfl rfl ?_
  refine ww_get 3 dX10_year_24 (hC.K0) rfl (by decide) inX10 wg_267 hC.D3 ?_
  refine ww_iload_n dX10_year_27 rfl rfl ?_
  refine ww_iload_n dX10_year_28 rfl rfl ?_
  refine ww_cVq0 (M := m_X10_year) (pc := 29) (st := []) (d := 6) (bc := 0) (bs := 0) (c_YrS_done hst hC hL hW hok hY0 hu sd us (by omega)) vv_X9_live dX10_year_29 wg_1184 (hC.K42) rfl rfl rfl rfl (Nat.le_of_ble_eq_true rfl) (Nat.le_of_ble_eq_true rfl) (Nat.le_of_ble_eq_true rfl) (Nat.le_of_ble_eq_true rfl) (fun hq1 qq1 => ?_)
  obtain ⟨t1, g9, y1, y2, yu, y3, y4, y5, y6⟩ := qq1
  have hC1 := hC.scr t1
  have h6 := hL.2.2.2.2.2.2.1
  refine ww_iload_n dX10_year_32 rfl rfl ?_
  refine ww_tableOut (tgt := 90) dX10_year_33 (by decide) (by decide) ?_
  refine ww_aload_n dX10_year_90 rfl rfl ?_
  refine ww_get 18 dX10_year_91 (hC1.K0) rfl (by decide) inX10 wg_282 (hC1.R0_18) ?_
  refine ww_cVr (M := m_X10_year) (pc := 94) (v := .int (nI (cnt (fun i => hp_I hq1 45 i != 0) 61))) (h1 := hq1) (st := []) (d := 6) (bc := 0) (bs := 0) (c_Yr_met hst hC1.K42 hC1.K45 hC1.R42_1 rfl) vv_X9_numbersMet dX10_year_94 wg_1210 (hC1.K42) rfl rfl rfl rfl (Nat.le_of_ble_eq_true rfl) (Nat.le_of_ble_eq_true rfl) (Nat.le_of_ble_eq_true rfl) (Nat.le_of_ble_eq_true rfl) ?_
  exact ww_iret dX10_year_97 rfl ⟨by rw [cnt_congr 61 (fun i hi => by rw [y6 i hi])], t1⟩
set_option maxHeartbeats 4000000 in
set_option maxRecDepth 100000 in
theorem l_S_span {l : Launch} {Z : EE} (hst : l.stackTraces = false) {h : PH} {la lw bk : Nat} (hC : CL h la lw bk) {np du : Nat} {f : Nat → Int32} (hL : LandAt h la np du f) {sz : Nat} {kf vf : Nat → Int32} (hW : LawAt h lw sz kf vf) (hok : LawOK kf vf sz) (hu : RowU f np) (sd : Int32) (us mn : Nat) (hus : us ≤ 96) (hmn : mn ≤ 20) (w : Int32) {Post : Res → PH → Prop} : ∀ (j k : Nat) (hq : PH), Same CX CY h hq → ∀ (g9 : Nat → Int32), LandS hq 43 g9 → k + j = mn → (∀ h9, Same CX CY h h9 → WW l Z m_X10_span 6 0 0 110 [.ref 0, .int sd, .int (nI mn), .int (nI us), .int w, .int (nI (spM (dnA sz kf vf np f sd us) mn)), .int (nI (spX (dnA sz kf vf np f sd us) mn)), .int (nI (spA np us (dnA sz kf vf np f sd us) mn)), .int (nI mn)] [] h9 Post) → WW l Z m_X10_span 6 0 0 37 [.ref 0, .int sd, .int (nI mn), .int (nI us), .int w, .int (nI (spM (dnA sz kf vf np f sd us) k)), .int (nI (spX (dnA sz kf vf np f sd us) k)), .int (nI (spA np us (dnA sz kf vf np f sd us) k)), .int (nI k)] [] hq Post := by
  have hdl := dnA_le sz kf vf np f sd us
  intro j
  induction j with
  | zero =>
    intro k hq s0 g9 hY9 hk hex
    have hk0 : k = mn := by omega
    subst hk0
    have hCq := hC.scr s0
    have hLq := hL.scr hC s0
    have hWq := hW.scr hC s0
    refine ww_iload dX10_span_37 rfl ?_
    refine ww_iload_n dX10_span_39 rfl rfl ?_
    refine ww_icmp_geN (tgt := 110) dX10_span_40 (by decide) (by omega) (by omega) (fun c40 => ?_) (fun c40 => ?_)
    · exact hex hq s0
    · exfalso; omega
  | succ j ih =>
    intro k hq s0 g9 hY9 hk hex
    have hCq := hC.scr s0
    have hLq := hL.scr hC s0
    have hWq := hW.scr hC s0
    have hm9 := spM_le (dnA sz kf vf np f sd us) k
    have hx9 := spX_le (d := (dnA sz kf vf np f sd us)) (us := us) hdl k
    have ha9 := cnt_le (fun i => decide (np = 0) || (dnA sz kf vf np f sd us) i == us) k
    have hd9 := hdl k
    refine ww_iload dX10_span_37 rfl ?_
    refine ww_iload_n dX10_span_39 rfl rfl ?_
    refine ww_icmp_geN (tgt := 110) dX10_span_40 (by decide) (by first | omega | (split <;> omega) | (simp only [spA]; omega)) (by first | omega | (split <;> omega) | (simp only [spA]; omega)) (fun c40 => ?_) (fun c40 => ?_)
    · exfalso; omega
    · refine ww_aload_n dX10_span_43 rfl rfl ?_
      refine ww_get 18 dX10_span_44 (hCq.K0) rfl (by decide) inX10 wg_282 (hCq.R0_18) ?_
      refine ww_aload_n dX10_span_47 rfl rfl ?_
      refine ww_get 1 dX10_span_48 (hCq.K0) rfl (by decide) inX10 wg_265 hCq.D1 ?_
      refine ww_aload_n dX10_span_51 rfl rfl ?_
      refine ww_get 3 dX10_span_52 (hCq.K0) rfl (by decide) inX10 wg_267 hCq.D3 ?_
      refine ww_iload_n dX10_span_55 rfl rfl ?_
      refine ww_iload dX10_span_56 rfl ?_
      refine ww_iadd dX10_span_58 ?_
      refine ww_iload_n dX10_span_59 rfl rfl ?_
      refine ww_cVq0 (M := m_X10_span) (pc := 60) (st := []) (d := 6) (bc := 0) (bs := 0) (c_YrS_done hst hCq hLq hWq hok hY9 hu (sd + nI k) us (by omega)) vv_X9_live dX10_span_60 wg_1184 (hCq.K42) rfl rfl rfl rfl (Nat.le_of_ble_eq_true rfl) (Nat.le_of_ble_eq_true rfl) (Nat.le_of_ble_eq_true rfl) (Nat.le_of_ble_eq_true rfl) (fun hq1 qq1 => ?_)
      obtain ⟨t1, g9, y1, y2, yu, y3, y4, y5, y6⟩ := qq1
      have hC1 := hCq.scr t1
      refine ww_iload dX10_span_63 rfl ?_
      refine ww_aload_n dX10_span_65 rfl rfl ?_
      refine ww_get 18 dX10_span_66 (hC1.K0) rfl (by decide) inX10 wg_282 (hC1.R0_18) ?_
      refine ww_getN 3 dX10_span_69 (hC1.K42) rfl (by decide) inX9 wn_250 y3 ?_
      refine ww_cSr (M := m_X10_span) (pc := 72) (v := .int (nI (min (spM (dnA sz kf vf np f sd us) k) ((dnA sz kf vf np f sd us) k)))) (h1 := hq1) (st := []) (d := 6) (bc := 0) (bs := 0) (c_minN hst (spM (dnA sz kf vf np f sd us) k) ((dnA sz kf vf np f sd us) k) (by omega) (by omega) _) vv_J9_min_7cf53 dX10_span_72 wg_603 rfl rfl rfl (Nat.le_of_ble_eq_true rfl) (Nat.le_of_ble_eq_true rfl) (Nat.le_of_ble_eq_true rfl) (Nat.le_of_ble_eq_true rfl) ?_
      refine ww_sti (lv2 := [.ref 0, .int sd, .int (nI mn), .int (nI us), .int w, .int (nI (min (spM (dnA sz kf vf np f sd us) k) ((dnA sz kf vf np f sd us) k))), .int (nI (spX (dnA sz kf vf np f sd us) k)), .int (nI (spA np us (dnA sz kf vf np f sd us) k)), .int (nI k)]) dX10_span_75 rfl (by decide) rfl ?_
      refine ww_iload dX10_span_77 rfl ?_
      refine ww_aload_n dX10_span_79 rfl rfl ?_
      refine ww_get 18 dX10_span_80 (hC1.K0) rfl (by decide) inX10 wg_282 (hC1.R0_18) ?_
      refine ww_getN 3 dX10_span_83 (hC1.K42) rfl (by decide) inX9 wn_250 y3 ?_
      refine ww_cSr (M := m_X10_span) (pc := 86) (v := .int (nI (max (spX (dnA sz kf vf np f sd us) k) ((dnA sz kf vf np f sd us) k)))) (h1 := hq1) (st := []) (d := 6) (bc := 0) (bs := 0) (c_maxN hst (spX (dnA sz kf vf np f sd us) k) ((dnA sz kf vf np f sd us) k) (by omega) (by omega) _) vv_J9_max_7cf53 dX10_span_86 wg_1221 rfl rfl rfl (Nat.le_of_ble_eq_true rfl) (Nat.le_of_ble_eq_true rfl) (Nat.le_of_ble_eq_true rfl) (Nat.le_of_ble_eq_true rfl) ?_
      refine ww_sti (lv2 := [.ref 0, .int sd, .int (nI mn), .int (nI us), .int w, .int (nI (min (spM (dnA sz kf vf np f sd us) k) ((dnA sz kf vf np f sd us) k))), .int (nI (max (spX (dnA sz kf vf np f sd us) k) ((dnA sz kf vf np f sd us) k))), .int (nI (spA np us (dnA sz kf vf np f sd us) k)), .int (nI k)]) dX10_span_89 rfl (by decide) rfl ?_
      refine ww_aload_n dX10_span_91 rfl rfl ?_
      refine ww_get 18 dX10_span_92 (hC1.K0) rfl (by decide) inX10 wg_282 (hC1.R0_18) ?_
      refine ww_getN 4 dX10_span_95 (hC1.K42) rfl (by decide) inX9 wn_252 y4 ?_
      refine ww_if_neN (tgt := 104) dX10_span_98 (by decide) (by first | omega | (split <;> omega) | (simp only [spA]; omega)) (fun c98 => ?_) (fun c98 => ?_)
      · refine ww_incN (c := 1) (lv2 := [.ref 0, .int sd, .int (nI mn), .int (nI us), .int w, .int (nI (min (spM (dnA sz kf vf np f sd us) k) ((dnA sz kf vf np f sd us) k))), .int (nI (max (spX (dnA sz kf vf np f sd us) k) ((dnA sz kf vf np f sd us) k))), .int (nI (spA np us (dnA sz kf vf np f sd us) k)), .int (nI (k + 1))]) dX10_span_104 rfl rfl rfl (by decide) rfl ?_
        refine ww_goto (tgt := 37) dX10_span_107 (by decide) ?_
        refine ww_lv (lv2 := [.ref 0, .int sd, .int (nI mn), .int (nI us), .int w, .int (nI (spM (dnA sz kf vf np f sd us) ((k + 1)))), .int (nI (spX (dnA sz kf vf np f sd us) ((k + 1)))), .int (nI (spA np us (dnA sz kf vf np f sd us) ((k + 1)))), .int (nI ((k + 1)))]) (by first | (rw [spA_1 c98 hd9]; rfl) | (rw [spA_0 c98]; rfl)) ?_
        exact ih (k + 1) hq1 (s0.tr t1) _ y1.S (by omega) hex
      · refine ww_incN (c := 1) (lv2 := [.ref 0, .int sd, .int (nI mn), .int (nI us), .int w, .int (nI (min (spM (dnA sz kf vf np f sd us) k) ((dnA sz kf vf np f sd us) k))), .int (nI (max (spX (dnA sz kf vf np f sd us) k) ((dnA sz kf vf np f sd us) k))), .int (nI (spA np us (dnA sz kf vf np f sd us) k + 1)), .int (nI k)]) dX10_span_101 rfl rfl rfl (by decide) rfl ?_
        refine ww_incN (c := 1) (lv2 := [.ref 0, .int sd, .int (nI mn), .int (nI us), .int w, .int (nI (min (spM (dnA sz kf vf np f sd us) k) ((dnA sz kf vf np f sd us) k))), .int (nI (max (spX (dnA sz kf vf np f sd us) k) ((dnA sz kf vf np f sd us) k))), .int (nI (spA np us (dnA sz kf vf np f sd us) k + 1)), .int (nI (k + 1))]) dX10_span_104 rfl rfl rfl (by decide) rfl ?_
        refine ww_goto (tgt := 37) dX10_span_107 (by decide) ?_
        refine ww_lv (lv2 := [.ref 0, .int sd, .int (nI mn), .int (nI us), .int w, .int (nI (spM (dnA sz kf vf np f sd us) ((k + 1)))), .int (nI (spX (dnA sz kf vf np f sd us) ((k + 1)))), .int (nI (spA np us (dnA sz kf vf np f sd us) ((k + 1)))), .int (nI ((k + 1)))]) (by first | (rw [spA_1 c98 hd9]; rfl) | (rw [spA_0 c98]; rfl)) ?_
        exact ih (k + 1) hq1 (s0.tr t1) _ y1.S (by omega) hex
set_option maxHeartbeats 4000000 in
set_option maxRecDepth 100000 in
theorem c_S_span0 {l : Launch} {Z : EE} (hst : l.stackTraces = false) {h : PH} {la lw bk : Nat} (hC : CL h la lw bk) {np du : Nat} {f : Nat → Int32} (hL : LandAt h la np du f) {sz : Nat} {kf vf : Nat → Int32} (hW : LawAt h lw sz kf vf) (hok : LawOK kf vf sz) {g : Nat → Int32} (hY0 : LandS h 43 g) (hu : RowU f np) (sd : Int32) (mn : Nat) (lmn : 1 ≤ mn) (hmn : mn ≤ 20) (us : Nat) (lus : 1 ≤ us) (hus : us ≤ 96) : CC l Z m_X10_span 6 0 0 [.ref 0, .int sd, .int (nI mn), .int (nI us), .int (nI 0)] h (COk (nI (spM (dnA sz kf vf np f sd us) mn)) h) := by
  refine ee_entry hst (by decide +kernel) rfl rfl (by simp [Value.category]) (Nat.le_of_ble_eq_true rfl) ?_
  refine ww_lv (lv2 := [.ref 0, .int sd, .int (nI mn), .int (nI us), .int (nI 0), UU, UU, UU, UU]) rfl ?_
  have hla := hC.la
  have hlw := hC.lw
  have hbk := hC.bk
  refine ww_aload_n dX10_span_0 rfl rfl ?_
  refine ww_iload_n dX10_span_1 rfl rfl ?_
  refine ww_iconst (v := nI 1) dX10_span_2 (by decide) ?_
  refine ww_bipush (v := nI 20) dX10_span_3 (by decide) ?_
  refine ww_cV0 (M := m_X10_span) (pc := 5) (h1 := h) (st := []) (d := 6) (bc := 0) (bs := 0) (c_within_t hst (nI mn) (nI 1) (nI 20) (nI_le (by omega) (by omega)) (nI_le (by omega) (by omega)) _) vv_X10_within dX10_span_5 wg_410 (hC.K0) rfl rfl rfl rfl (Nat.le_of_ble_eq_true rfl) (Nat.le_of_ble_eq_true rfl) (Nat.le_of_ble_eq_true rfl) (Nat.le_of_ble_eq_true rfl) ?_
  refine ww_aload_n dX10_span_8 rfl rfl ?_
  refine ww_iload_n dX10_span_9 rfl rfl ?_
  refine ww_iconst (v := nI 1) dX10_span_10 (by decide) ?_
  refine ww_bipush (v := nI 96) dX10_span_11 (by decide) ?_
  refine ww_cV0 (M := m_X10_span) (pc := 13) (h1 := h) (st := []) (d := 6) (bc := 0) (bs := 0) (c_within_t hst (nI us) (nI 1) (nI 96) (nI_le (by omega) (by omega)) (nI_le (by omega) (by omega)) _) vv_X10_within dX10_span_13 wg_410 (hC.K0) rfl rfl rfl rfl (Nat.le_of_ble_eq_true rfl) (Nat.le_of_ble_eq_true rfl) (Nat.le_of_ble_eq_true rfl) (Nat.le_of_ble_eq_true rfl) ?_
  refine ww_aload_n dX10_span_16 rfl rfl ?_
  refine ww_iload dX10_span_17 rfl ?_
  refine ww_iconst (v := nI 0) dX10_span_19 (by decide) ?_
  refine ww_iconst (v := nI 2) dX10_span_20 (by decide) ?_
  refine ww_cV0 (M := m_X10_span) (pc := 21) (h1 := h) (st := []) (d := 6) (bc := 0) (bs := 0) (c_within_t hst (nI 0) (nI 0) (nI 2) (by decide) (by decide) _) vv_X10_within dX10_span_21 wg_410 (hC.K0) rfl rfl rfl rfl (Nat.le_of_ble_eq_true rfl) (Nat.le_of_ble_eq_true rfl) (Nat.le_of_ble_eq_true rfl) (Nat.le_of_ble_eq_true rfl) ?_
  refine ww_bipush (v := nI 96) dX10_span_24 (by decide) ?_
  refine ww_sti (lv2 := [.ref 0, .int sd, .int (nI mn), .int (nI us), .int (nI 0), .int (nI 96), UU, UU, UU]) dX10_span_26 rfl (by decide) rfl ?_
  refine ww_iconst (v := nI 0) dX10_span_28 (by decide) ?_
  refine ww_sti (lv2 := [.ref 0, .int sd, .int (nI mn), .int (nI us), .int (nI 0), .int (nI 96), .int (nI 0), UU, UU]) dX10_span_29 rfl (by decide) rfl ?_
  refine ww_iconst (v := nI 0) dX10_span_31 (by decide) ?_
  refine ww_sti (lv2 := [.ref 0, .int sd, .int (nI mn), .int (nI us), .int (nI 0), .int (nI 96), .int (nI 0), .int (nI 0), UU]) dX10_span_32 rfl (by decide) rfl ?_
  refine ww_iconst (v := nI 0) dX10_span_34 (by decide) ?_
  refine ww_sti (lv2 := [.ref 0, .int sd, .int (nI mn), .int (nI us), .int (nI 0), .int (nI 96), .int (nI 0), .int (nI 0), .int (nI 0)]) dX10_span_35 rfl (by decide) rfl ?_
  refine l_S_span hst hC hL hW hok hu sd us mn hus hmn (nI 0) mn 0 h Same.rf _ hY0 (by omega) (fun h9 s9 => ?_)
  refine ww_iload dX10_span_110 rfl ?_
  refine ww_lookup (off := 28) (tgt := 140) dX10_span_112 (by decide) (by decide) (by decide) ?_
  refine ww_iload dX10_span_140 rfl ?_
  exact ww_iret dX10_span_142 rfl ⟨rfl, s9⟩
set_option maxHeartbeats 4000000 in
set_option maxRecDepth 100000 in
theorem c_S_span1 {l : Launch} {Z : EE} (hst : l.stackTraces = false) {h : PH} {la lw bk : Nat} (hC : CL h la lw bk) {np du : Nat} {f : Nat → Int32} (hL : LandAt h la np du f) {sz : Nat} {kf vf : Nat → Int32} (hW : LawAt h lw sz kf vf) (hok : LawOK kf vf sz) {g : Nat → Int32} (hY0 : LandS h 43 g) (hu : RowU f np) (sd : Int32) (mn : Nat) (lmn : 1 ≤ mn) (hmn : mn ≤ 20) (us : Nat) (lus : 1 ≤ us) (hus : us ≤ 96) : CC l Z m_X10_span 6 0 0 [.ref 0, .int sd, .int (nI mn), .int (nI us), .int (nI 1)] h (COk (nI (spX (dnA sz kf vf np f sd us) mn)) h) := by
  refine ee_entry hst (by decide +kernel) rfl rfl (by simp [Value.category]) (Nat.le_of_ble_eq_true rfl) ?_
  refine ww_lv (lv2 := [.ref 0, .int sd, .int (nI mn), .int (nI us), .int (nI 1), UU, UU, UU, UU]) rfl ?_
  have hla := hC.la
  have hlw := hC.lw
  have hbk := hC.bk
  refine ww_aload_n dX10_span_0 rfl rfl ?_
  refine ww_iload_n dX10_span_1 rfl rfl ?_
  refine ww_iconst (v := nI 1) dX10_span_2 (by decide) ?_
  refine ww_bipush (v := nI 20) dX10_span_3 (by decide) ?_
  refine ww_cV0 (M := m_X10_span) (pc := 5) (h1 := h) (st := []) (d := 6) (bc := 0) (bs := 0) (c_within_t hst (nI mn) (nI 1) (nI 20) (nI_le (by omega) (by omega)) (nI_le (by omega) (by omega)) _) vv_X10_within dX10_span_5 wg_410 (hC.K0) rfl rfl rfl rfl (Nat.le_of_ble_eq_true rfl) (Nat.le_of_ble_eq_true rfl) (Nat.le_of_ble_eq_true rfl) (Nat.le_of_ble_eq_true rfl) ?_
  refine ww_aload_n dX10_span_8 rfl rfl ?_
  refine ww_iload_n dX10_span_9 rfl rfl ?_
  refine ww_iconst (v := nI 1) dX10_span_10 (by decide) ?_
  refine ww_bipush (v := nI 96) dX10_span_11 (by decide) ?_
  refine ww_cV0 (M := m_X10_span) (pc := 13) (h1 := h) (st := []) (d := 6) (bc := 0) (bs := 0) (c_within_t hst (nI us) (nI 1) (nI 96) (nI_le (by omega) (by omega)) (nI_le (by omega) (by omega)) _) vv_X10_within dX10_span_13 wg_410 (hC.K0) rfl rfl rfl rfl (Nat.le_of_ble_eq_true rfl) (Nat.le_of_ble_eq_true rfl) (Nat.le_of_ble_eq_true rfl) (Nat.le_of_ble_eq_true rfl) ?_
  refine ww_aload_n dX10_span_16 rfl rfl ?_
  refine ww_iload dX10_span_17 rfl ?_
  refine ww_iconst (v := nI 0) dX10_span_19 (by decide) ?_
  refine ww_iconst (v := nI 2) dX10_span_20 (by decide) ?_
  refine ww_cV0 (M := m_X10_span) (pc := 21) (h1 := h) (st := []) (d := 6) (bc := 0) (bs := 0) (c_within_t hst (nI 1) (nI 0) (nI 2) (by decide) (by decide) _) vv_X10_within dX10_span_21 wg_410 (hC.K0) rfl rfl rfl rfl (Nat.le_of_ble_eq_true rfl) (Nat.le_of_ble_eq_true rfl) (Nat.le_of_ble_eq_true rfl) (Nat.le_of_ble_eq_true rfl) ?_
  refine ww_bipush (v := nI 96) dX10_span_24 (by decide) ?_
  refine ww_sti (lv2 := [.ref 0, .int sd, .int (nI mn), .int (nI us), .int (nI 1), .int (nI 96), UU, UU, UU]) dX10_span_26 rfl (by decide) rfl ?_
  refine ww_iconst (v := nI 0) dX10_span_28 (by decide) ?_
  refine ww_sti (lv2 := [.ref 0, .int sd, .int (nI mn), .int (nI us), .int (nI 1), .int (nI 96), .int (nI 0), UU, UU]) dX10_span_29 rfl (by decide) rfl ?_
  refine ww_iconst (v := nI 0) dX10_span_31 (by decide) ?_
  refine ww_sti (lv2 := [.ref 0, .int sd, .int (nI mn), .int (nI us), .int (nI 1), .int (nI 96), .int (nI 0), .int (nI 0), UU]) dX10_span_32 rfl (by decide) rfl ?_
  refine ww_iconst (v := nI 0) dX10_span_34 (by decide) ?_
  refine ww_sti (lv2 := [.ref 0, .int sd, .int (nI mn), .int (nI us), .int (nI 1), .int (nI 96), .int (nI 0), .int (nI 0), .int (nI 0)]) dX10_span_35 rfl (by decide) rfl ?_
  refine l_S_span hst hC hL hW hok hu sd us mn hus hmn (nI 1) mn 0 h Same.rf _ hY0 (by omega) (fun h9 s9 => ?_)
  refine ww_iload dX10_span_110 rfl ?_
  refine ww_lookup (off := 31) (tgt := 143) dX10_span_112 (by decide) (by decide) (by decide) ?_
  refine ww_iload dX10_span_143 rfl ?_
  exact ww_iret dX10_span_145 rfl ⟨rfl, s9⟩
set_option maxHeartbeats 4000000 in
set_option maxRecDepth 100000 in
theorem c_S_span2 {l : Launch} {Z : EE} (hst : l.stackTraces = false) {h : PH} {la lw bk : Nat} (hC : CL h la lw bk) {np du : Nat} {f : Nat → Int32} (hL : LandAt h la np du f) {sz : Nat} {kf vf : Nat → Int32} (hW : LawAt h lw sz kf vf) (hok : LawOK kf vf sz) {g : Nat → Int32} (hY0 : LandS h 43 g) (hu : RowU f np) (sd : Int32) (mn : Nat) (lmn : 1 ≤ mn) (hmn : mn ≤ 20) (us : Nat) (lus : 1 ≤ us) (hus : us ≤ 96) : CC l Z m_X10_span 6 0 0 [.ref 0, .int sd, .int (nI mn), .int (nI us), .int (nI 2)] h (COk (nI (spA np us (dnA sz kf vf np f sd us) mn)) h) := by
  refine ee_entry hst (by decide +kernel) rfl rfl (by simp [Value.category]) (Nat.le_of_ble_eq_true rfl) ?_
  refine ww_lv (lv2 := [.ref 0, .int sd, .int (nI mn), .int (nI us), .int (nI 2), UU, UU, UU, UU]) rfl ?_
  have hla := hC.la
  have hlw := hC.lw
  have hbk := hC.bk
  refine ww_aload_n dX10_span_0 rfl rfl ?_
  refine ww_iload_n dX10_span_1 rfl rfl ?_
  refine ww_iconst (v := nI 1) dX10_span_2 (by decide) ?_
  refine ww_bipush (v := nI 20) dX10_span_3 (by decide) ?_
  refine ww_cV0 (M := m_X10_span) (pc := 5) (h1 := h) (st := []) (d := 6) (bc := 0) (bs := 0) (c_within_t hst (nI mn) (nI 1) (nI 20) (nI_le (by omega) (by omega)) (nI_le (by omega) (by omega)) _) vv_X10_within dX10_span_5 wg_410 (hC.K0) rfl rfl rfl rfl (Nat.le_of_ble_eq_true rfl) (Nat.le_of_ble_eq_true rfl) (Nat.le_of_ble_eq_true rfl) (Nat.le_of_ble_eq_true rfl) ?_
  refine ww_aload_n dX10_span_8 rfl rfl ?_
  refine ww_iload_n dX10_span_9 rfl rfl ?_
  refine ww_iconst (v := nI 1) dX10_span_10 (by decide) ?_
  refine ww_bipush (v := nI 96) dX10_span_11 (by decide) ?_
  refine ww_cV0 (M := m_X10_span) (pc := 13) (h1 := h) (st := []) (d := 6) (bc := 0) (bs := 0) (c_within_t hst (nI us) (nI 1) (nI 96) (nI_le (by omega) (by omega)) (nI_le (by omega) (by omega)) _) vv_X10_within dX10_span_13 wg_410 (hC.K0) rfl rfl rfl rfl (Nat.le_of_ble_eq_true rfl) (Nat.le_of_ble_eq_true rfl) (Nat.le_of_ble_eq_true rfl) (Nat.le_of_ble_eq_true rfl) ?_
  refine ww_aload_n dX10_span_16 rfl rfl ?_
  refine ww_iload dX10_span_17 rfl ?_
  refine ww_iconst (v := nI 0) dX10_span_19 (by decide) ?_
  refine ww_iconst (v := nI 2) dX10_span_20 (by decide) ?_
  refine ww_cV0 (M := m_X10_span) (pc := 21) (h1 := h) (st := []) (d := 6) (bc := 0) (bs := 0) (c_within_t hst (nI 2) (nI 0) (nI 2) (by decide) (by decide) _) vv_X10_within dX10_span_21 wg_410 (hC.K0) rfl rfl rfl rfl (Nat.le_of_ble_eq_true rfl) (Nat.le_of_ble_eq_true rfl) (Nat.le_of_ble_eq_true rfl) (Nat.le_of_ble_eq_true rfl) ?_
  refine ww_bipush (v := nI 96) dX10_span_24 (by decide) ?_
  refine ww_sti (lv2 := [.ref 0, .int sd, .int (nI mn), .int (nI us), .int (nI 2), .int (nI 96), UU, UU, UU]) dX10_span_26 rfl (by decide) rfl ?_
  refine ww_iconst (v := nI 0) dX10_span_28 (by decide) ?_
  refine ww_sti (lv2 := [.ref 0, .int sd, .int (nI mn), .int (nI us), .int (nI 2), .int (nI 96), .int (nI 0), UU, UU]) dX10_span_29 rfl (by decide) rfl ?_
  refine ww_iconst (v := nI 0) dX10_span_31 (by decide) ?_
  refine ww_sti (lv2 := [.ref 0, .int sd, .int (nI mn), .int (nI us), .int (nI 2), .int (nI 96), .int (nI 0), .int (nI 0), UU]) dX10_span_32 rfl (by decide) rfl ?_
  refine ww_iconst (v := nI 0) dX10_span_34 (by decide) ?_
  refine ww_sti (lv2 := [.ref 0, .int sd, .int (nI mn), .int (nI us), .int (nI 2), .int (nI 96), .int (nI 0), .int (nI 0), .int (nI 0)]) dX10_span_35 rfl (by decide) rfl ?_
  refine l_S_span hst hC hL hW hok hu sd us mn hus hmn (nI 2) mn 0 h Same.rf _ hY0 (by omega) (fun h9 s9 => ?_)
  refine ww_iload dX10_span_110 rfl ?_
  refine ww_lookup (off := 34) (tgt := 146) dX10_span_112 (by decide) (by decide) (by decide) ?_
  refine ww_iload dX10_span_146 rfl ?_
  exact ww_iret dX10_span_148 rfl ⟨rfl, s9⟩
