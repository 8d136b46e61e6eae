/-! ===== performing a work in the class ===== -/
def AfR (h : PH) (W : AF) : Prop := AfK h ∧ hp_F h 23 4 = .int (nI W.1) ∧ hp_I h 24 = W.2.1 ∧ hp_I h 25 = W.2.2.1 ∧ hp_I h 26 = W.2.2.2.1 ∧ hp_I h 27 = W.2.2.2.2
def pfX (la lw : Nat) : Nat → Prop := fun c => c = la + 1 ∨ c = lw + 3 ∨ c = lw + 4
def pfY : Nat → Nat → Prop := fun a j => a = 23 ∧ (j = 5 ∨ j = 6 ∨ j = 7)
def PfA (la lw np du sz : Nat) (kf vf : Nat → Int32) (W : AF) (x : XS) (h : PH) : Prop := LandAt h la np du x.2.2.2 ∧ LawAt h lw sz kf vf ∧ AfR h W ∧ hp_F h 23 5 = .int (nI x.1) ∧ hp_F h 23 6 = .int (nI x.2.1) ∧ hp_F h 23 7 = .int (nI x.2.2.1)
theorem AfR.same {h h2 : PH} {W : AF} {X : Nat → Prop} {Y : Nat → Nat → Prop} (hA : AfR h W) (hS : Same X Y h h2) (hx : ∀ c, 23 ≤ c → c ≤ 27 → ¬ X c) (hy : ∀ j, j ≤ 4 → ¬ Y 23 j) : AfR h2 W := by
  obtain ⟨⟨a1, a2, a3, a4, a5, a6, a7, a8, a9⟩, b1, b2, b3, b4, b5⟩ := hA
  exact ⟨⟨(hS.2.1 _).trans a1, (hS.2.1 _).trans a2, (hS.2.1 _).trans a3, (hS.2.1 _).trans a4, (hS.2.1 _).trans a5, (hS.2.2.1 _ _ (hy 0 (by omega))).trans a6, (hS.2.2.1 _ _ (hy 1 (by omega))).trans a7, (hS.2.2.1 _ _ (hy 2 (by omega))).trans a8, (hS.2.2.1 _ _ (hy 3 (by omega))).trans a9⟩, (hS.2.2.1 _ _ (hy 4 (by omega))).trans b1, (hS.2.2.2.1 _ (hx 24 (by omega) (by omega))).trans b2, (hS.2.2.2.1 _ (hx 25 (by omega) (by omega))).trans b3, (hS.2.2.2.1 _ (hx 26 (by omega) (by omega))).trans b4, (hS.2.2.2.1 _ (hx 27 (by omega) (by omega))).trans b5⟩
theorem LawAt.pf {h h2 : PH} {b sz : Nat} {kf vf : Nat → Int32} {X : Nat → Prop} {Y : Nat → Nat → Prop} (hW : LawAt h b sz kf vf) (hS : Same X Y h h2) (h1 : ¬ X (b + 1)) (h2' : ¬ X (b + 2)) (hy : ∀ j, ¬ Y b j) : LawAt h2 b sz kf vf := by
  obtain ⟨a1, a2, a3, a4, a5, a6, a7, a8, a9, b1, b2, b3, b4⟩ := hW
  exact ⟨(hS.2.1 _).trans a1, (hS.2.1 _).trans a2, (hS.2.1 _).trans a3, (hS.2.1 _).trans a4, (hS.2.1 _).trans a5, (hS.2.2.1 _ _ (hy 0)).trans a6, (hS.2.2.1 _ _ (hy 1)).trans a7, (hS.2.2.1 _ _ (hy 2)).trans a8, (hS.2.2.1 _ _ (hy 3)).trans a9, (hS.2.2.1 _ _ (hy 4)).trans b1, (hS.2.2.2.1 _ h1).trans b2, (hS.2.2.2.1 _ h2').trans b3, b4⟩
theorem onS_0 {sz : Nat} {kf vf : Nat → Int32} {W : AF} {i p q y : Nat} (f : Nat → Int32) (hk : W.2.1 i = nI 0) (e1 : W.2.2.1 i = nI p) (e2 : W.2.2.2.1 i = nI q) (e3 : W.2.2.2.2 i = nI y) (hp : p < 1000) (hq : q < 1000) (hy : y < 1000) : onS sz kf vf W i f = useF f p q (fareC f sz kf vf q y) := by
  unfold onS onN twN thN; rw [if_pos hk, e1, e2, e3, nI_clamp (by omega), nI_clamp (by omega), nI_clamp (by omega)]
theorem onS_1 {sz : Nat} {kf vf : Nat → Int32} {W : AF} {i p q c : Nat} (f : Nat → Int32) (hk : W.2.1 i = nI 1) (e1 : W.2.2.1 i = nI q) (e2 : W.2.2.2.1 i = nI p) (e3 : W.2.2.2.2 i = nI c) (hp : p < 1000) (hq : q < 1000) (hy : c < 1000) : onS sz kf vf W i f = sellF f q p (nI c) := by
  unfold onS onN twN thN; rw [if_neg (by rw [hk]; decide), if_pos hk, e1, e2, e3, nI_clamp (by omega), nI_clamp (by omega), nI_clamp (by omega)]
theorem onS_2 {sz : Nat} {kf vf : Nat → Int32} {W : AF} {i q r : Nat} (f : Nat → Int32) (hk : W.2.1 i = nI 2) (e1 : W.2.2.1 i = nI q) (e2 : W.2.2.2.1 i = nI r) (hq : q < 1000) (hy : r < 1000) : onS sz kf vf W i f = letF f q (nI r) := by
  unfold onS onN twN; rw [if_neg (by rw [hk]; decide), if_neg (by rw [hk]; decide), if_pos hk, e1, e2, nI_clamp (by omega), nI_clamp (by omega)]
theorem onS_3 {sz : Nat} {kf vf : Nat → Int32} {W : AF} {i : Nat} (f : Nat → Int32) (hk : W.2.1 i = nI 3) : onS sz kf vf W i f = dyF f := by
  unfold onS; rw [if_neg (by rw [hk]; decide), if_neg (by rw [hk]; decide), if_neg (by rw [hk]; decide)]
set_option maxHeartbeats 4000000 in
set_option maxRecDepth 100000 in
theorem c_Pf_one0 {l : Launch} {Z : EE} (hst : l.stackTraces = false) {h : PH} {la lw np du sz : Nat} {kf vf : Nat → Int32} {W : AF} (hla : la = 3 ∨ la = 5) (hlw : lw = 7 ∨ lw = 12) (h6 : np ≤ 6) (hok : LawOK kf vf sz) {f : Nat → Int32} (hL : LandAt h la np du f) (hW : LawAt h lw sz kf vf) (hA : AfR h W) (hu : RowOK f np) (i : Nat) (hi : i < 38) (hk : W.2.1 i = nI 0) {p q y : Nat} (hp : p < np) (hq : q ≤ 60) (hy : y ≤ 2) (e1 : W.2.2.1 i = nI p) (e2 : W.2.2.2.1 i = nI q) (e3 : W.2.2.2.2 i = nI y) : CC l Z m_X0_performOne 4 0 0 [.ref 23, .int (nI i), .ref la, .ref lw] h (RQ (some (.int (bI (onS sz kf vf W i f).1))) (fun h9 => LandAt h9 la np du (onS sz kf vf W i f).2 ∧ Same (pfX la lw) (fun _ _ => False) h h9)) := by
  refine ee_entry hst (by decide +kernel) rfl rfl (by simp [Value.category]) (Nat.le_of_ble_eq_true rfl) ?_
  refine ww_lv (lv2 := [.ref 23, .int (nI i), .ref la, .ref lw]) rfl ?_
  refine ww_aload_n dX0_performOne_0 rfl rfl ?_
  refine ww_get 0 dX0_performOne_1 hA.1.1 rfl (by decide) inX0 wg_133 hA.1.2.2.2.2.2.1 ?_
  refine ww_iload_n dX0_performOne_4 rfl rfl ?_
  refine ww_ialdF dX0_performOne_5 hA.1.2.1 hA.2.2.1 (by omega) (by omega) ?_
  refine ww_sk (st2 := [.int (nI 0)]) (by rw [hk]) ?_
  refine ww_tableIn (off := 26) (tgt := 32) dX0_performOne_6 (by decide) (by decide) (by decide) (by decide) ?_
  refine ww_aload_n dX0_performOne_32 rfl rfl ?_
  refine ww_aload_n dX0_performOne_33 rfl rfl ?_
  refine ww_get 1 dX0_performOne_34 hA.1.1 rfl (by decide) inX0 wg_134 hA.1.2.2.2.2.2.2.1 ?_
  refine ww_iload_n dX0_performOne_37 rfl rfl ?_
  refine ww_ialdF dX0_performOne_38 hA.1.2.2.1 hA.2.2.2.1 (by omega) (by omega) ?_
  refine ww_sk (st2 := [.int (nI p), .ref la]) (by rw [e1]) ?_
  refine ww_aload_n dX0_performOne_39 rfl rfl ?_
  refine ww_get 2 dX0_performOne_40 hA.1.1 rfl (by decide) inX0 wg_135 hA.1.2.2.2.2.2.2.2.1 ?_
  refine ww_iload_n dX0_performOne_43 rfl rfl ?_
  refine ww_ialdF dX0_performOne_44 hA.1.2.2.2.1 hA.2.2.2.2.1 (by omega) (by omega) ?_
  refine ww_sk (st2 := [.int (nI q), .int (nI p), .ref la]) (by rw [e2]) ?_
  refine ww_aload_n dX0_performOne_45 rfl rfl ?_
  refine ww_aload_n dX0_performOne_46 rfl rfl ?_
  refine ww_aload_n dX0_performOne_47 rfl rfl ?_
  refine ww_get 2 dX0_performOne_48 hA.1.1 rfl (by decide) inX0 wg_135 hA.1.2.2.2.2.2.2.2.1 ?_
  refine ww_iload_n dX0_performOne_51 rfl rfl ?_
  refine ww_ialdF dX0_performOne_52 hA.1.2.2.2.1 hA.2.2.2.2.1 (by omega) (by omega) ?_
  refine ww_sk (st2 := [.int (nI q), .ref lw, .ref la, .int (nI q), .int (nI p), .ref la]) (by rw [e2]) ?_
  refine ww_aload_n dX0_performOne_53 rfl rfl ?_
  refine ww_get 3 dX0_performOne_54 hA.1.1 rfl (by decide) inX0 wg_136 hA.1.2.2.2.2.2.2.2.2 ?_
  refine ww_iload_n dX0_performOne_57 rfl rfl ?_
  refine ww_ialdF dX0_performOne_58 hA.1.2.2.2.2.1 hA.2.2.2.2.2 (by omega) (by omega) ?_
  refine ww_sk (st2 := [.int (nI y), .int (nI q), .ref lw, .ref la, .int (nI q), .int (nI p), .ref la]) (by rw [e3]) ?_
  refine ww_cVq (M := m_X0_performOne) (pc := 59) (v := .int (fareC f sz kf vf q y)) (st := [.int (nI q), .int (nI p), .ref la]) (d := 4) (bc := 0) (bs := 0) (c_Land_fareBy hst hL hW hok (by omega) q (by omega) y (by omega)) vv_X2_fareBy dX0_performOne_59 wg_688 hL.1 rfl rfl rfl rfl (Nat.le_of_ble_eq_true rfl) (Nat.le_of_ble_eq_true rfl) (Nat.le_of_ble_eq_true rfl) (Nat.le_of_ble_eq_true rfl) (fun hq1 qq1 => ?_)
  have hL1 := hL.same qq1 (by omega) (fun _ e => e)
  refine ww_cVr (M := m_X0_performOne) (pc := 62) (v := .int (bI ((useF f p q (fareC f sz kf vf q y)).1))) (h1 := hp_sI hq1 (la + 1) (useF f p q (fareC f sz kf vf q y)).2) (st := []) (d := 4) (bc := 0) (bs := 0) (c_Land_use hst hL1 p q (by omega) (by omega) (hu.ow h6 hq) (fareC f sz kf vf q y)) vv_X2_use dX0_performOne_62 wg_721 hL1.1 rfl rfl rfl rfl (Nat.le_of_ble_eq_true rfl) (Nat.le_of_ble_eq_true rfl) (Nat.le_of_ble_eq_true rfl) (Nat.le_of_ble_eq_true rfl) ?_
  exact ww_zret dX0_performOne_65 rfl (by first | rfl | exact nar_bI _) ⟨by rw [onS_0 f hk e1 e2 e3 (by omega) (by omega) (by omega)], (by rw [onS_0 f hk e1 e2 e3 (by omega) (by omega) (by omega)]; exact hL1.set), (qq1.mono (fun c hc => Or.inr hc) (fun _ _ e => e)).sI (show pfX la lw (la + 1) from Or.inl rfl)⟩
set_option maxHeartbeats 4000000 in
set_option maxRecDepth 100000 in
theorem c_Pf_one1 {l : Launch} {Z : EE} (hst : l.stackTraces = false) {h : PH} {la lw np du sz : Nat} {kf vf : Nat → Int32} {W : AF} (hla : la = 3 ∨ la = 5) (hlw : lw = 7 ∨ lw = 12) (h6 : np ≤ 6) (hok : LawOK kf vf sz) {f : Nat → Int32} (hL : LandAt h la np du f) (hW : LawAt h lw sz kf vf) (hA : AfR h W) (hu : RowOK f np) (i : Nat) (hi : i < 38) (hk : W.2.1 i = nI 1) {p q c : Nat} (hq : q ≤ 60) (hp : p < np) (hc : c ≤ 999) (e1 : W.2.2.1 i = nI q) (e2 : W.2.2.2.1 i = nI p) (e3 : W.2.2.2.2 i = nI c) : CC l Z m_X0_performOne 4 0 0 [.ref 23, .int (nI i), .ref la, .ref lw] h (RQ (some (.int (bI (onS sz kf vf W i f).1))) (fun h9 => LandAt h9 la np du (onS sz kf vf W i f).2 ∧ Same (pfX la lw) (fun _ _ => False) h h9)) := by
  refine ee_entry hst (by decide +kernel) rfl rfl (by simp [Value.category]) (Nat.le_of_ble_eq_true rfl) ?_
  refine ww_lv (lv2 := [.ref 23, .int (nI i), .ref la, .ref lw]) rfl ?_
  refine ww_aload_n dX0_performOne_0 rfl rfl ?_
  refine ww_get 0 dX0_performOne_1 hA.1.1 rfl (by decide) inX0 wg_133 hA.1.2.2.2.2.2.1 ?_
  refine ww_iload_n dX0_performOne_4 rfl rfl ?_
  refine ww_ialdF dX0_performOne_5 hA.1.2.1 hA.2.2.1 (by omega) (by omega) ?_
  refine ww_sk (st2 := [.int (nI 1)]) (by rw [hk]) ?_
  refine ww_tableIn (off := 60) (tgt := 66) dX0_performOne_6 (by decide) (by decide) (by decide) (by decide) ?_
  refine ww_aload_n dX0_performOne_66 rfl rfl ?_
  refine ww_aload_n dX0_performOne_67 rfl rfl ?_
  refine ww_get 1 dX0_performOne_68 hA.1.1 rfl (by decide) inX0 wg_134 hA.1.2.2.2.2.2.2.1 ?_
  refine ww_iload_n dX0_performOne_71 rfl rfl ?_
  refine ww_ialdF dX0_performOne_72 hA.1.2.2.1 hA.2.2.2.1 (by omega) (by omega) ?_
  refine ww_sk (st2 := [.int (nI q), .ref la]) (by rw [e1]) ?_
  refine ww_aload_n dX0_performOne_73 rfl rfl ?_
  refine ww_get 2 dX0_performOne_74 hA.1.1 rfl (by decide) inX0 wg_135 hA.1.2.2.2.2.2.2.2.1 ?_
  refine ww_iload_n dX0_performOne_77 rfl rfl ?_
  refine ww_ialdF dX0_performOne_78 hA.1.2.2.2.1 hA.2.2.2.2.1 (by omega) (by omega) ?_
  refine ww_sk (st2 := [.int (nI p), .int (nI q), .ref la]) (by rw [e2]) ?_
  refine ww_aload_n dX0_performOne_79 rfl rfl ?_
  refine ww_get 3 dX0_performOne_80 hA.1.1 rfl (by decide) inX0 wg_136 hA.1.2.2.2.2.2.2.2.2 ?_
  refine ww_iload_n dX0_performOne_83 rfl rfl ?_
  refine ww_ialdF dX0_performOne_84 hA.1.2.2.2.2.1 hA.2.2.2.2.2 (by omega) (by omega) ?_
  refine ww_sk (st2 := [.int (nI c), .int (nI p), .int (nI q), .ref la]) (by rw [e3]) ?_
  refine ww_cVr (M := m_X0_performOne) (pc := 85) (v := .int (bI ((sellF f q p (nI c)).1))) (h1 := hp_sI h (la + 1) (sellF f q p (nI c)).2) (st := []) (d := 4) (bc := 0) (bs := 0) (c_Land_sell hst hL q p (by omega) (by omega) (hu.ow h6 hq) (nI c)) vv_X2_sell dX0_performOne_85 wg_734 hL.1 rfl rfl rfl rfl (Nat.le_of_ble_eq_true rfl) (Nat.le_of_ble_eq_true rfl) (Nat.le_of_ble_eq_true rfl) (Nat.le_of_ble_eq_true rfl) ?_
  exact ww_zret dX0_performOne_88 rfl (by first | rfl | exact nar_bI _) ⟨by rw [onS_1 f hk e1 e2 e3 (by omega) (by omega) (by omega)], (by rw [onS_1 f hk e1 e2 e3 (by omega) (by omega) (by omega)]; exact hL.set), Same.rf.sI (show pfX la lw (la + 1) from Or.inl rfl)⟩
set_option maxHeartbeats 4000000 in
set_option maxRecDepth 100000 in
theorem c_Pf_one2 {l : Launch} {Z : EE} (hst : l.stackTraces = false) {h : PH} {la lw np du sz : Nat} {kf vf : Nat → Int32} {W : AF} (hla : la = 3 ∨ la = 5) (hlw : lw = 7 ∨ lw = 12) (h6 : np ≤ 6) (hok : LawOK kf vf sz) {f : Nat → Int32} (hL : LandAt h la np du f) (hW : LawAt h lw sz kf vf) (hA : AfR h W) (hu : RowOK f np) (i : Nat) (hi : i < 38) (hk : W.2.1 i = nI 2) {q r : Nat} (hq : q ≤ 60) (hr : r ≤ 40) (e1 : W.2.2.1 i = nI q) (e2 : W.2.2.2.1 i = nI r) : CC l Z m_X0_performOne 4 0 0 [.ref 23, .int (nI i), .ref la, .ref lw] h (RQ (some (.int (bI (onS sz kf vf W i f).1))) (fun h9 => LandAt h9 la np du (onS sz kf vf W i f).2 ∧ Same (pfX la lw) (fun _ _ => False) h h9)) := by
  refine ee_entry hst (by decide +kernel) rfl rfl (by simp [Value.category]) (Nat.le_of_ble_eq_true rfl) ?_
  refine ww_lv (lv2 := [.ref 23, .int (nI i), .ref la, .ref lw]) rfl ?_
  refine ww_aload_n dX0_performOne_0 rfl rfl ?_
  refine ww_get 0 dX0_performOne_1 hA.1.1 rfl (by decide) inX0 wg_133 hA.1.2.2.2.2.2.1 ?_
  refine ww_iload_n dX0_performOne_4 rfl rfl ?_
  refine ww_ialdF dX0_performOne_5 hA.1.2.1 hA.2.2.1 (by omega) (by omega) ?_
  refine ww_sk (st2 := [.int (nI 2)]) (by rw [hk]) ?_
  refine ww_tableIn (off := 83) (tgt := 89) dX0_performOne_6 (by decide) (by decide) (by decide) (by decide) ?_
  refine ww_aload_n dX0_performOne_89 rfl rfl ?_
  refine ww_aload_n dX0_performOne_90 rfl rfl ?_
  refine ww_get 1 dX0_performOne_91 hA.1.1 rfl (by decide) inX0 wg_134 hA.1.2.2.2.2.2.2.1 ?_
  refine ww_iload_n dX0_performOne_94 rfl rfl ?_
  refine ww_ialdF dX0_performOne_95 hA.1.2.2.1 hA.2.2.2.1 (by omega) (by omega) ?_
  refine ww_sk (st2 := [.int (nI q), .ref la]) (by rw [e1]) ?_
  refine ww_aload_n dX0_performOne_96 rfl rfl ?_
  refine ww_get 2 dX0_performOne_97 hA.1.1 rfl (by decide) inX0 wg_135 hA.1.2.2.2.2.2.2.2.1 ?_
  refine ww_iload_n dX0_performOne_100 rfl rfl ?_
  refine ww_ialdF dX0_performOne_101 hA.1.2.2.2.1 hA.2.2.2.2.1 (by omega) (by omega) ?_
  refine ww_sk (st2 := [.int (nI r), .int (nI q), .ref la]) (by rw [e2]) ?_
  refine ww_cVr (M := m_X0_performOne) (pc := 102) (v := .int (bI ((letF f q (nI r)).1))) (h1 := hp_sI h (la + 1) (letF f q (nI r)).2) (st := []) (d := 4) (bc := 0) (bs := 0) (c_Land_let hst hL q (by omega) (nI r)) vv_X2_let dX0_performOne_102 wg_738 hL.1 rfl rfl rfl rfl (Nat.le_of_ble_eq_true rfl) (Nat.le_of_ble_eq_true rfl) (Nat.le_of_ble_eq_true rfl) (Nat.le_of_ble_eq_true rfl) ?_
  exact ww_zret dX0_performOne_105 rfl (by first | rfl | exact nar_bI _) ⟨by rw [onS_2 f hk e1 e2 (by omega) (by omega)], (by rw [onS_2 f hk e1 e2 (by omega) (by omega)]; exact hL.set), Same.rf.sI (show pfX la lw (la + 1) from Or.inl rfl)⟩
set_option maxHeartbeats 4000000 in
set_option maxRecDepth 100000 in
theorem c_Pf_one3 {l : Launch} {Z : EE} (hst : l.stackTraces = false) {h : PH} {la lw np du sz : Nat} {kf vf : Nat → Int32} {W : AF} (hla : la = 3 ∨ la = 5) (hlw : lw = 7 ∨ lw = 12) (h6 : np ≤ 6) (hok : LawOK kf vf sz) {f : Nat → Int32} (hL : LandAt h la np du f) (hW : LawAt h lw sz kf vf) (hA : AfR h W) (hu : RowOK f np) (i : Nat) (hi : i < 38) (hk : W.2.1 i = nI 3) : CC l Z m_X0_performOne 4 0 0 [.ref 23, .int (nI i), .ref la, .ref lw] h (RQ (some (.int (bI (onS sz kf vf W i f).1))) (fun h9 => LandAt h9 la np du (onS sz kf vf W i f).2 ∧ Same (pfX la lw) (fun _ _ => False) h h9)) := by
  refine ee_entry hst (by decide +kernel) rfl rfl (by simp [Value.category]) (Nat.le_of_ble_eq_true rfl) ?_
  refine ww_lv (lv2 := [.ref 23, .int (nI i), .ref la, .ref lw]) rfl ?_
  refine ww_aload_n dX0_performOne_0 rfl rfl ?_
  refine ww_get 0 dX0_performOne_1 hA.1.1 rfl (by decide) inX0 wg_133 hA.1.2.2.2.2.2.1 ?_
  refine ww_iload_n dX0_performOne_4 rfl rfl ?_
  refine ww_ialdF dX0_performOne_5 hA.1.2.1 hA.2.2.1 (by omega) (by omega) ?_
  refine ww_sk (st2 := [.int (nI 3)]) (by rw [hk]) ?_
  refine ww_tableOut (tgt := 106) dX0_performOne_6 (by decide) (by decide) ?_
  refine ww_aload_n dX0_performOne_106 rfl rfl ?_
  refine ww_cVr (M := m_X0_performOne) (pc := 107) (v := .int (f 189)) (h1 := h) (st := []) (d := 4) (bc := 0) (bs := 0) (c_Land_day hst hL) vv_X2_day dX0_performOne_107 wg_742 hL.1 rfl rfl rfl rfl (Nat.le_of_ble_eq_true rfl) (Nat.le_of_ble_eq_true rfl) (Nat.le_of_ble_eq_true rfl) (Nat.le_of_ble_eq_true rfl) ?_
  refine ww_sipush (v := nI 900) dX0_performOne_110 (by decide) ?_
  refine ww_icmp_lt (tgt := 118) dX0_performOne_113 (by decide) (fun c113 => ?_) (fun c113 => ?_)
  · refine ww_aload_n dX0_performOne_118 rfl rfl ?_
    refine ww_cV0 (M := m_X0_performOne) (pc := 119) (h1 := hp_sI h (la + 1) (dayF f)) (st := []) (d := 4) (bc := 0) (bs := 0) (c_Land_nextDay hst hL) vv_X2_nextDay dX0_performOne_119 wg_743 hL.1 rfl rfl rfl rfl (Nat.le_of_ble_eq_true rfl) (Nat.le_of_ble_eq_true rfl) (Nat.le_of_ble_eq_true rfl) (Nat.le_of_ble_eq_true rfl) ?_
    refine ww_iconst (v := nI 1) dX0_performOne_122 (by decide) ?_
    exact ww_zret dX0_performOne_123 rfl (by first | rfl | exact nar_bI _) ⟨by rw [onS_3 f hk, dyF_1 c113]; rfl, (by rw [onS_3 f hk, dyF_1 c113]; exact hL.set), Same.rf.sI (show pfX la lw (la + 1) from Or.inl rfl)⟩
  · refine ww_iconst (v := nI 0) dX0_performOne_116 (by decide) ?_
    exact ww_zret dX0_performOne_117 rfl (by first | rfl | exact nar_bI _) ⟨by rw [onS_3 f hk, dyF_2 c113]; rfl, (by rw [onS_3 f hk, dyF_2 c113]; exact hL), Same.rf⟩
theorem c_Pf_one {l : Launch} {Z : EE} (hst : l.stackTraces = false) {h : PH} {la lw np du sz : Nat} {kf vf : Nat → Int32} {W : AF} (hla : la = 3 ∨ la = 5) (hlw : lw = 7 ∨ lw = 12) (h6 : np ≤ 6) (hok : LawOK kf vf sz) {f : Nat → Int32} (hL : LandAt h la np du f) (hW : LawAt h lw sz kf vf) (hA : AfR h W) (hu : RowOK f np) (i : Nat) (hi : i < 38) (hg : goE np W i) : CC l Z m_X0_performOne 4 0 0 [.ref 23, .int (nI i), .ref la, .ref lw] h (RQ (some (.int (bI (onS sz kf vf W i f).1))) (fun h9 => LandAt h9 la np du (onS sz kf vf W i f).2 ∧ Same (pfX la lw) (fun _ _ => False) h h9)) := by
  rcases hg with ⟨e, p, q, y, h1, h2, h3, e1, e2, e3⟩ | ⟨e, q, p, c, h1, h2, h3, e1, e2, e3⟩ | ⟨e, q, r, h1, h2, e1, e2, e3⟩ | ⟨e, -⟩
  · exact c_Pf_one0 hst hla hlw h6 hok hL hW hA hu i hi e h1 h2 h3 e1 e2 e3
  · exact c_Pf_one1 hst hla hlw h6 hok hL hW hA hu i hi e h1 h2 h3 e1 e2 e3
  · exact c_Pf_one2 hst hla hlw h6 hok hL hW hA hu i hi e h1 h2 e1 e2
  · exact c_Pf_one3 hst hla hlw h6 hok hL hW hA hu i hi e
theorem PfA.bg {la lw np du sz v : Nat} {kf vf : Nat → Int32} {W : AF} {x : XS} {h : PH} (hla : la = 3 ∨ la = 5) (hlw : lw = 7 ∨ lw = 12) (hA : PfA la lw np du sz kf vf W x h) : PfA la lw np du sz kf vf W (v, x.2) (hp_sF h 23 5 (.int (nI v))) :=
  have hS : Same (fun _ => False) pfY h (hp_sF h 23 5 (.int (nI v))) := Same.rf.sF (show pfY 23 5 from ⟨rfl, Or.inl rfl⟩)
  ⟨hA.1.same hS (fun e => e) (fun j e => by unfold pfY at e; omega), hA.2.1.pf hS (fun e => e) (fun e => e) (fun j e => by unfold pfY at e; omega), hA.2.2.1.same hS (fun _ _ _ e => e) (fun j hj e => by unfold pfY at e; omega), hp_F_eq _ _ _ _, hp_F_nj (by decide) hA.2.2.2.2.1, hp_F_nj (by decide) hA.2.2.2.2.2⟩
theorem PfA.dn {la lw np du sz v : Nat} {kf vf : Nat → Int32} {W : AF} {x : XS} {h : PH} (hla : la = 3 ∨ la = 5) (hlw : lw = 7 ∨ lw = 12) (hA : PfA la lw np du sz kf vf W x h) : PfA la lw np du sz kf vf W (x.1, v, x.2.2) (hp_sF h 23 6 (.int (nI v))) :=
  have hS : Same (fun _ => False) pfY h (hp_sF h 23 6 (.int (nI v))) := Same.rf.sF (show pfY 23 6 from ⟨rfl, Or.inr (Or.inl rfl)⟩)
  ⟨hA.1.same hS (fun e => e) (fun j e => by unfold pfY at e; omega), hA.2.1.pf hS (fun e => e) (fun e => e) (fun j e => by unfold pfY at e; omega), hA.2.2.1.same hS (fun _ _ _ e => e) (fun j hj e => by unfold pfY at e; omega), hp_F_nj (by decide) hA.2.2.2.1, hp_F_eq _ _ _ _, hp_F_nj (by decide) hA.2.2.2.2.2⟩
theorem PfA.rf {la lw np du sz v : Nat} {kf vf : Nat → Int32} {W : AF} {x : XS} {h : PH} (hla : la = 3 ∨ la = 5) (hlw : lw = 7 ∨ lw = 12) (hA : PfA la lw np du sz kf vf W x h) : PfA la lw np du sz kf vf W (x.1, x.2.1, v, x.2.2.2) (hp_sF h 23 7 (.int (nI v))) :=
  have hS : Same (fun _ => False) pfY h (hp_sF h 23 7 (.int (nI v))) := Same.rf.sF (show pfY 23 7 from ⟨rfl, Or.inr (Or.inr rfl)⟩)
  ⟨hA.1.same hS (fun e => e) (fun j e => by unfold pfY at e; omega), hA.2.1.pf hS (fun e => e) (fun e => e) (fun j e => by unfold pfY at e; omega), hA.2.2.1.same hS (fun _ _ _ e => e) (fun j hj e => by unfold pfY at e; omega), hp_F_nj (by decide) hA.2.2.2.1, hp_F_nj (by decide) hA.2.2.2.2.1, hp_F_eq _ _ _ _⟩
theorem PfA.row {la lw np du sz : Nat} {kf vf f : Nat → Int32} {W : AF} {x : XS} {h h2 : PH} (hla : la = 3 ∨ la = 5) (hlw : lw = 7 ∨ lw = 12) (hA : PfA la lw np du sz kf vf W x h) (hL : LandAt h2 la np du f) (hS : Same (pfX la lw) (fun _ _ => False) h h2) : PfA la lw np du sz kf vf W (x.1, x.2.1, x.2.2.1, f) h2 :=
  ⟨hL, hA.2.1.pf hS (fun e => by unfold pfX at e; omega) (fun e => by unfold pfX at e; omega) (fun j e => e), hA.2.2.1.same hS (fun c _ _ e => by unfold pfX at e; omega) (fun j hj e => e), (hS.2.2.1 _ _ (fun e => e)).trans hA.2.2.2.1, (hS.2.2.1 _ _ (fun e => e)).trans hA.2.2.2.2.1, (hS.2.2.1 _ _ (fun e => e)).trans hA.2.2.2.2.2⟩
set_option maxHeartbeats 4000000 in
set_option maxRecDepth 100000 in
theorem l_Pf_rep {l : Launch} {Z : EE} (hst : l.stackTraces = false) {h : PH} {la lw np du sz : Nat} {kf vf : Nat → Int32} {W : AF} (hla : la = 3 ∨ la = 5) (hlw : lw = 7 ∨ lw = 12) (h6 : np ≤ 6) (hok : LawOK kf vf sz) (hW8 : W.1 ≤ 38) {d : Nat} (o k i e b : Nat) (ho : o < 6) (hi : i < 38) (hb : b ≤ 38) (hg : agE W i b e) (hw : WfJ np W (WfI np W k) 38 (i + 1) e) (hP : ∀ (x : XS) (hq : PH), PfA la lw np du sz kf vf W x hq → XG np x → CC l Z m_X0_performFrom d 0 0 [.ref 23, .int (nI (i + 1)), .int (nI e), .ref la, .ref lw, .int (nI (o + 1))] hq (RQ none (fun h9 => PfA la lw np du sz kf vf W ((pfJ W (onX sz kf vf W) (rpI W (onX sz kf vf W) k) 38 (i + 1) e) x) h9 ∧ Same (pfX la lw) pfY hq h9))) : ∀ (j t : Nat) (x : XS) (hq : PH), t + j = onN W i → PfA la lw np du sz kf vf W x hq → XG np x → Same (pfX la lw) pfY h hq → WW l Z m_X0_repeat (d + 1) 0 0 11 [.ref 23, .int (nI i), .ref la, .ref lw, .int (nI o), .int (nI t)] [] hq (RQ none (fun h9 => PfA la lw np du sz kf vf W (rpX (pfJ W (onX sz kf vf W) (rpI W (onX sz kf vf W) k) 38 (i + 1) e) j x) h9 ∧ Same (pfX la lw) pfY h h9)) := by
  have hn := agE_n hg (by omega)
  have he := hg.2.2.2.2
  intro j
  induction j with
  | zero =>
    intro t x hq ht hA hX hS
    have hb9 : t = onN W i := by omega
    subst hb9
    have hx2 := hX.2.1
    refine ww_iload dX0_repeat_11 rfl ?_
    refine ww_aload_n dX0_repeat_13 rfl rfl ?_
    refine ww_get 1 dX0_repeat_14 hA.2.2.1.1.1 rfl (by decide) inX0 wg_134 hA.2.2.1.1.2.2.2.2.2.2.1 ?_
    refine ww_iload_n dX0_repeat_17 rfl rfl ?_
    refine ww_ialdF dX0_repeat_18 hA.2.2.1.1.2.2.1 hA.2.2.1.2.2.2.1 (by omega) (by omega) ?_
    refine ww_sk (st2 := [.int (nI (onN W i)), .int (nI (onN W i))]) (by rw [hn.1]) ?_
    refine ww_icmp_geN (tgt := 57) dX0_repeat_19 (by decide) (by omega) (by omega) (fun c19 => ?_) (fun c19 => ?_)
    · exact ww_vret dX0_repeat_57 rfl ⟨rfl, hA, hS⟩
    · exfalso; omega
  | succ j ih =>
    intro t x hq ht hA hX hS
    have hx2 := hX.2.1
    refine ww_iload dX0_repeat_11 rfl ?_
    refine ww_aload_n dX0_repeat_13 rfl rfl ?_
    refine ww_get 1 dX0_repeat_14 hA.2.2.1.1.1 rfl (by decide) inX0 wg_134 hA.2.2.1.1.2.2.2.2.2.2.1 ?_
    refine ww_iload_n dX0_repeat_17 rfl rfl ?_
    refine ww_ialdF dX0_repeat_18 hA.2.2.1.1.2.2.1 hA.2.2.1.2.2.2.1 (by omega) (by omega) ?_
    refine ww_sk (st2 := [.int (nI (onN W i)), .int (nI t)]) (by rw [hn.1]) ?_
    refine ww_icmp_geN (tgt := 57) dX0_repeat_19 (by decide) (by omega) (by omega) (fun c19 => ?_) (fun c19 => ?_)
    · exfalso; omega
    · refine ww_aload_n dX0_repeat_22 rfl rfl ?_
      refine ww_get 5 dX0_repeat_23 hA.2.2.1.1.1 rfl (by decide) inX0 wg_138 hA.2.2.2.1 ?_
      refine ww_sipush (v := nI 200) dX0_repeat_26 (by decide) ?_
      refine ww_icmp_geN (tgt := 57) dX0_repeat_29 (by decide) (by omega) (by omega) (fun c29 => ?_) (fun c29 => ?_)
      · exact ww_vret dX0_repeat_57 rfl ⟨rfl, (by rw [show rpX (pfJ W (onX sz kf vf W) (rpI W (onX sz kf vf W) k) 38 (i + 1) e) (j + 1) x = x from if_neg (by omega)]; exact hA), hS⟩
      · refine ww_aload_n dX0_repeat_32 rfl rfl ?_
        refine ww_iload_n dX0_repeat_33 rfl rfl ?_
        refine ww_iconst (v := nI 1) dX0_repeat_34 (by decide) ?_
        refine ww_iaddN dX0_repeat_35 ?_
        refine ww_aload_n dX0_repeat_36 rfl rfl ?_
        refine ww_get 2 dX0_repeat_37 hA.2.2.1.1.1 rfl (by decide) inX0 wg_135 hA.2.2.1.1.2.2.2.2.2.2.2.1 ?_
        refine ww_iload_n dX0_repeat_40 rfl rfl ?_
        refine ww_ialdF dX0_repeat_41 hA.2.2.1.1.2.2.2.1 hA.2.2.1.2.2.2.2.1 (by omega) (by omega) ?_
        refine ww_sk (st2 := [.int (nI e), .int (nI (i + 1)), .ref 23]) (by rw [hg.2.2.1]) ?_
        refine ww_aload_n dX0_repeat_42 rfl rfl ?_
        refine ww_aload_n dX0_repeat_43 rfl rfl ?_
        refine ww_iload dX0_repeat_44 rfl ?_
        refine ww_iconst (v := nI 1) dX0_repeat_46 (by decide) ?_
        refine ww_iaddN dX0_repeat_47 ?_
        refine ww_cVq0 (M := m_X0_repeat) (pc := 48) (st := []) (d := d + 1) (bc := 0) (bs := 0) (hP x hq hA hX) vv_X0_performFrom dX0_repeat_48 wg_676 hA.2.2.1.1.1 rfl rfl rfl rfl (Nat.le_refl _) (Nat.le_of_ble_eq_true rfl) (Nat.le_of_ble_eq_true rfl) (Nat.le_of_ble_eq_true rfl) (fun hq1 qq1 => ?_)
        refine ww_incN (c := 1) (lv2 := [.ref 23, .int (nI i), .ref la, .ref lw, .int (nI o), .int (nI (t + 1))]) dX0_repeat_51 rfl rfl rfl (by decide) rfl ?_
        refine ww_goto (tgt := 11) dX0_repeat_54 (by decide) ?_
        rw [show rpX (pfJ W (onX sz kf vf W) (rpI W (onX sz kf vf W) k) 38 (i + 1) e) (j + 1) x = rpX (pfJ W (onX sz kf vf W) (rpI W (onX sz kf vf W) k) 38 (i + 1) e) j ((pfJ W (onX sz kf vf W) (rpI W (onX sz kf vf W) k) 38 (i + 1) e) x) from if_pos (by omega)]
        exact ih (t + 1) ((pfJ W (onX sz kf vf W) (rpI W (onX sz kf vf W) k) 38 (i + 1) e) x) hq1 (by omega) qq1.1 (pfJ_g (inn := WfI np W k) h6 sz kf vf (fun a2 e2 x2 q0 q1 q2 q3 => rpI_g h6 sz kf vf k a2 e2 x2 q0 q1 q2 q3) 38 (i + 1) e x (by omega) hw hX) (hS.tr qq1.2)
set_option maxHeartbeats 4000000 in
set_option maxRecDepth 100000 in
theorem c_Pf_rep {l : Launch} {Z : EE} (hst : l.stackTraces = false) {h : PH} {la lw np du sz : Nat} {kf vf : Nat → Int32} {W : AF} (hla : la = 3 ∨ la = 5) (hlw : lw = 7 ∨ lw = 12) (h6 : np ≤ 6) (hok : LawOK kf vf sz) (hW8 : W.1 ≤ 38) {d : Nat} (o k i e b : Nat) (ho : o < 6) (hi : i < 38) (hb : b ≤ 38) (hg : agE W i b e) (hw : WfJ np W (WfI np W k) 38 (i + 1) e) (hP : ∀ (x : XS) (hq : PH), PfA la lw np du sz kf vf W x hq → XG np x → CC l Z m_X0_performFrom d 0 0 [.ref 23, .int (nI (i + 1)), .int (nI e), .ref la, .ref lw, .int (nI (o + 1))] hq (RQ none (fun h9 => PfA la lw np du sz kf vf W ((pfJ W (onX sz kf vf W) (rpI W (onX sz kf vf W) k) 38 (i + 1) e) x) h9 ∧ Same (pfX la lw) pfY hq h9))) (x : XS) (hA : PfA la lw np du sz kf vf W x h) (hX : XG np x) : CC l Z m_X0_repeat (d + 1) 0 0 [.ref 23, .int (nI i), .ref la, .ref lw, .int (nI o)] h (RQ none (fun h9 => PfA la lw np du sz kf vf W (rpI W (onX sz kf vf W) (k + 1) i x) h9 ∧ Same (pfX la lw) pfY h h9)) := by
  refine ee_entry hst (by decide +kernel) rfl rfl (by simp [Value.category]) (Nat.le_of_ble_eq_true rfl) ?_
  refine ww_lv (lv2 := [.ref 23, .int (nI i), .ref la, .ref lw, .int (nI o), UU]) rfl ?_
  refine ww_iload dX0_repeat_0 rfl ?_
  refine ww_bipush (v := nI 6) dX0_repeat_2 (by decide) ?_
  refine ww_icmp_ltN (tgt := 8) dX0_repeat_4 (by decide) (by omega) (by omega) (fun c4 => ?_) (fun c4 => ?_)
  · refine ww_iconst (v := nI 0) dX0_repeat_8 (by decide) ?_
    refine ww_sti (lv2 := [.ref 23, .int (nI i), .ref la, .ref lw, .int (nI o), .int (nI 0)]) dX0_repeat_9 rfl (by decide) rfl ?_
    have hn := agE_n hg (by omega)
    rw [rpI_s, hn.2.2]
    exact l_Pf_rep hst hla hlw h6 hok hW8 o k i e b ho hi hb hg hw hP (onN W i) 0 x h (by omega) hA hX Same.rf
  · exfalso; omega
set_option maxHeartbeats 4000000 in
set_option maxRecDepth 100000 in
theorem l_Pf_from {l : Launch} {Z : EE} (hst : l.stackTraces = false) {h : PH} {la lw np du sz : Nat} {kf vf : Nat → Int32} {W : AF} (hla : la = 3 ∨ la = 5) (hlw : lw = 7 ∨ lw = 12) (h6 : np ≤ 6) (hok : LawOK kf vf sz) (hW8 : W.1 ≤ 38) {d : Nat} (hd : 4 ≤ d) (o k b : Nat) (hb : b ≤ W.1) (hR : ∀ (i e : Nat) (x : XS) (hq : PH), i < b → agE W i b e → WfI np W k (i + 1) e → PfA la lw np du sz kf vf W x hq → XG np x → CC l Z m_X0_repeat d 0 0 [.ref 23, .int (nI i), .ref la, .ref lw, .int (nI o)] hq (RQ none (fun h9 => PfA la lw np du sz kf vf W ((rpI W (onX sz kf vf W) k) i x) h9 ∧ Same (pfX la lw) pfY hq h9))) (a0 : Nat) : ∀ (j nx i : Nat) (x : XS) (hq : PH), i + j = 38 → WfJ np W (WfI np W k) j nx b → PfA la lw np du sz kf vf W x hq → XG np x → Same (pfX la lw) pfY h hq → WW l Z m_X0_performFrom (d + 1) 0 0 6 [.ref 23, .int (nI a0), .int (nI b), .ref la, .ref lw, .int (nI o), .int (nI nx), .int (nI i)] [] hq (RQ none (fun h9 => PfA la lw np du sz kf vf W (pfJ W (onX sz kf vf W) (rpI W (onX sz kf vf W) k) j nx b x) h9 ∧ Same (pfX la lw) pfY h h9)) := by
  intro j
  induction j with
  | zero =>
    intro nx i x hq hi hw hA hX hS
    have hb9 : i = 38 := by omega
    subst hb9
    refine ww_iload dX0_performFrom_6 rfl ?_
    refine ww_bipush (v := nI 38) dX0_performFrom_8 (by decide) ?_
    refine ww_icmp_geN (tgt := 117) dX0_performFrom_10 (by decide) (by omega) (by omega) (fun c10 => ?_) (fun c10 => ?_)
    · exact ww_vret dX0_performFrom_117 rfl ⟨rfl, hA, hS⟩
    · exfalso; omega
  | succ j ih =>
    intro nx i x hq hi hw hA hX hS
    have hx2 := hX.2.1
    have hx3 := hX.2.2
    rcases hw with hw | ⟨hlt, ⟨g1, g2⟩ | ⟨e, g1, g2, g3⟩⟩
    · refine ww_iload dX0_performFrom_6 rfl ?_
      refine ww_bipush (v := nI 38) dX0_performFrom_8 (by decide) ?_
      refine ww_icmp_geN (tgt := 117) dX0_performFrom_10 (by decide) (by omega) (by omega) (fun c10 => ?_) (fun c10 => ?_)
      · exfalso; omega
      · refine ww_iload dX0_performFrom_13 rfl ?_
        refine ww_iload_n dX0_performFrom_15 rfl rfl ?_
        refine ww_icmp_geN (tgt := 117) dX0_performFrom_16 (by decide) (by omega) (by omega) (fun c16 => ?_) (fun c16 => ?_)
        · exact ww_vret dX0_performFrom_117 rfl ⟨rfl, (by rw [pfJ_e (fun q => absurd q.1 (by omega))]; exact hA), hS⟩
        · exfalso; omega
    · refine ww_iload dX0_performFrom_6 rfl ?_
      refine ww_bipush (v := nI 38) dX0_performFrom_8 (by decide) ?_
      refine ww_icmp_geN (tgt := 117) dX0_performFrom_10 (by decide) (by omega) (by omega) (fun c10 => ?_) (fun c10 => ?_)
      · exfalso; omega
      · refine ww_iload dX0_performFrom_13 rfl ?_
        refine ww_iload_n dX0_performFrom_15 rfl rfl ?_
        refine ww_icmp_geN (tgt := 117) dX0_performFrom_16 (by decide) (by omega) (by omega) (fun c16 => ?_) (fun c16 => ?_)
        · exfalso; omega
        · refine ww_aload_n dX0_performFrom_19 rfl rfl ?_
          refine ww_get 5 dX0_performFrom_20 hA.2.2.1.1.1 rfl (by decide) inX0 wg_138 hA.2.2.2.1 ?_
          refine ww_sipush (v := nI 200) dX0_performFrom_23 (by decide) ?_
          refine ww_icmp_geN (tgt := 117) dX0_performFrom_26 (by decide) (by omega) (by omega) (fun c26 => ?_) (fun c26 => ?_)
          · exact ww_vret dX0_performFrom_117 rfl ⟨rfl, (by rw [pfJ_e (fun q => absurd q.2 (by omega))]; exact hA), hS⟩
          · refine ww_aload_n dX0_performFrom_29 rfl rfl ?_
            refine ww_dup dX0_performFrom_30 rfl ?_
            refine ww_get 5 dX0_performFrom_31 hA.2.2.1.1.1 rfl (by decide) inX0 wg_138 hA.2.2.2.1 ?_
            refine ww_iconst (v := nI 1) dX0_performFrom_34 (by decide) ?_
            refine ww_iaddN dX0_performFrom_35 ?_
            refine ww_pfI tyX0 5 dX0_performFrom_36 hA.2.2.1.1.1 rfl (by decide) inX0 tyX0_ok nmX0 wg_138 rfl rfl ?_
            have hA1 : PfA la lw np du sz kf vf W (x.1 + 1, x.2) (hp_sF hq 23 5 (.int (nI (x.1 + 1)))) := hA.bg hla hlw
            have hS1 : Same (pfX la lw) pfY h (hp_sF hq 23 5 (.int (nI (x.1 + 1)))) := hS.sF (show pfY 23 5 from ⟨rfl, Or.inl rfl⟩)
            generalize hp_sF hq 23 5 (.int (nI (x.1 + 1))) = hq1 at hA1 hS1 ⊢
            refine ww_aload_n dX0_performFrom_39 rfl rfl ?_
            refine ww_get 0 dX0_performFrom_40 hA1.2.2.1.1.1 rfl (by decide) inX0 wg_133 hA1.2.2.1.1.2.2.2.2.2.1 ?_
            refine ww_iload dX0_performFrom_43 rfl ?_
            refine ww_ialdF dX0_performFrom_45 hA1.2.2.1.1.2.1 hA1.2.2.1.2.2.1 (by omega) (by omega) ?_
            refine ww_iconst (v := nI 4) dX0_performFrom_46 (by decide) ?_
            refine ww_icmp_ne (tgt := 73) dX0_performFrom_47 (by decide) (fun c47 => ?_) (fun c47 => ?_)
            · refine ww_aload_n dX0_performFrom_73 rfl rfl ?_
              refine ww_iload dX0_performFrom_74 rfl ?_
              refine ww_aload_n dX0_performFrom_76 rfl rfl ?_
              refine ww_aload dX0_performFrom_77 rfl ?_
              refine ww_cVq (M := m_X0_performFrom) (pc := 79) (v := .int (bI ((onS sz kf vf W nx x.2.2.2).1))) (st := []) (d := d + 1) (bc := 0) (bs := 0) (c_Pf_one hst hla hlw h6 hok hA1.1 hA1.2.1 hA1.2.2.1 hX.1 nx (by omega) g1) vv_X0_performOne dX0_performFrom_79 wg_684 hA1.2.2.1.1.1 rfl rfl rfl rfl (by omega) (Nat.le_of_ble_eq_true rfl) (Nat.le_of_ble_eq_true rfl) (Nat.le_of_ble_eq_true rfl) (fun hq2 qq2 => ?_)
              have hA2 : PfA la lw np du sz kf vf W (x.1 + 1, x.2.1, x.2.2.1, (onS sz kf vf W nx x.2.2.2).2) hq2 := hA1.row hla hlw qq2.1 qq2.2
              have hS2 : Same (pfX la lw) pfY h hq2 := hS1.tr (qq2.2.mono (fun _ e => e) (fun _ _ e => e.elim))
              refine ww_if_eqB (tgt := 98) dX0_performFrom_82 (by decide) (fun c82 => ?_) (fun c82 => ?_)
              · refine ww_aload_n dX0_performFrom_98 rfl rfl ?_
                refine ww_dup dX0_performFrom_99 rfl ?_
                refine ww_get 7 dX0_performFrom_100 hA2.2.2.1.1.1 rfl (by decide) inX0 wg_142 hA2.2.2.2.2.2 ?_
                refine ww_iconst (v := nI 1) dX0_performFrom_103 (by decide) ?_
                refine ww_iaddN dX0_performFrom_104 ?_
                refine ww_pfI tyX0 7 dX0_performFrom_105 hA2.2.2.1.1.1 rfl (by decide) inX0 tyX0_ok nmX0 wg_142 rfl rfl ?_
                refine ww_incN (c := 1) (lv2 := [.ref 23, .int (nI a0), .int (nI b), .ref la, .ref lw, .int (nI o), .int (nI (nx + 1)), .int (nI i)]) dX0_performFrom_108 rfl rfl rfl (by decide) rfl ?_
                refine ww_incN (c := 1) (lv2 := [.ref 23, .int (nI a0), .int (nI b), .ref la, .ref lw, .int (nI o), .int (nI (nx + 1)), .int (nI (i + 1))]) dX0_performFrom_111 rfl rfl rfl (by decide) rfl ?_
                refine ww_goto (tgt := 6) dX0_performFrom_114 (by decide) ?_
                rw [pfJ_o hlt (by omega) (goE_k g1)]
                have hx9 := onX_g g1 h6 sz kf vf hX (by omega)
                have eo : onX sz kf vf W nx (x.1 + 1, x.2) = (x.1 + 1, x.2.1, x.2.2.1 + 1, (onS sz kf vf W nx x.2.2.2).2) := if_neg (by rw [show (onS sz kf vf W nx x.2.2.2).1 = false from c82]; decide)
                refine ih (nx + 1) (i + 1) _ _ (by omega) g2 ?_ hx9 ?_
                · rw [eo]; exact hA2.rf hla hlw
                · exact hS2.sF (show pfY 23 7 from ⟨rfl, Or.inr (Or.inr rfl)⟩)
              · refine ww_aload_n dX0_performFrom_85 rfl rfl ?_
                refine ww_dup dX0_performFrom_86 rfl ?_
                refine ww_get 6 dX0_performFrom_87 hA2.2.2.1.1.1 rfl (by decide) inX0 wg_140 hA2.2.2.2.2.1 ?_
                refine ww_iconst (v := nI 1) dX0_performFrom_90 (by decide) ?_
                refine ww_iaddN dX0_performFrom_91 ?_
                refine ww_pfI tyX0 6 dX0_performFrom_92 hA2.2.2.1.1.1 rfl (by decide) inX0 tyX0_ok nmX0 wg_140 rfl rfl ?_
                refine ww_goto (tgt := 108) dX0_performFrom_95 (by decide) ?_
                refine ww_incN (c := 1) (lv2 := [.ref 23, .int (nI a0), .int (nI b), .ref la, .ref lw, .int (nI o), .int (nI (nx + 1)), .int (nI i)]) dX0_performFrom_108 rfl rfl rfl (by decide) rfl ?_
                refine ww_incN (c := 1) (lv2 := [.ref 23, .int (nI a0), .int (nI b), .ref la, .ref lw, .int (nI o), .int (nI (nx + 1)), .int (nI (i + 1))]) dX0_performFrom_111 rfl rfl rfl (by decide) rfl ?_
                refine ww_goto (tgt := 6) dX0_performFrom_114 (by decide) ?_
                rw [pfJ_o hlt (by omega) (goE_k g1)]
                have hx9 := onX_g g1 h6 sz kf vf hX (by omega)
                have eo : onX sz kf vf W nx (x.1 + 1, x.2) = (x.1 + 1, x.2.1 + 1, x.2.2.1, (onS sz kf vf W nx x.2.2.2).2) := if_pos c82
                refine ih (nx + 1) (i + 1) _ _ (by omega) g2 ?_ hx9 ?_
                · rw [eo]; exact hA2.dn hla hlw
                · exact hS2.sF (show pfY 23 6 from ⟨rfl, Or.inr (Or.inl rfl)⟩)
            · exact absurd c47 (goE_k g1)
    · have hn := agE_n g1 (by omega)
      have he := g1.2.2.2.2
      refine ww_iload dX0_performFrom_6 rfl ?_
      refine ww_bipush (v := nI 38) dX0_performFrom_8 (by decide) ?_
      refine ww_icmp_geN (tgt := 117) dX0_performFrom_10 (by decide) (by omega) (by omega) (fun c10 => ?_) (fun c10 => ?_)
      · exfalso; omega
      · refine ww_iload dX0_performFrom_13 rfl ?_
        refine ww_iload_n dX0_performFrom_15 rfl rfl ?_
        refine ww_icmp_geN (tgt := 117) dX0_performFrom_16 (by decide) (by omega) (by omega) (fun c16 => ?_) (fun c16 => ?_)
        · exfalso; omega
        · refine ww_aload_n dX0_performFrom_19 rfl rfl ?_
          refine ww_get 5 dX0_performFrom_20 hA.2.2.1.1.1 rfl (by decide) inX0 wg_138 hA.2.2.2.1 ?_
          refine ww_sipush (v := nI 200) dX0_performFrom_23 (by decide) ?_
          refine ww_icmp_geN (tgt := 117) dX0_performFrom_26 (by decide) (by omega) (by omega) (fun c26 => ?_) (fun c26 => ?_)
          · exact ww_vret dX0_performFrom_117 rfl ⟨rfl, (by rw [pfJ_e (fun q => absurd q.2 (by omega))]; exact hA), hS⟩
          · refine ww_aload_n dX0_performFrom_29 rfl rfl ?_
            refine ww_dup dX0_performFrom_30 rfl ?_
            refine ww_get 5 dX0_performFrom_31 hA.2.2.1.1.1 rfl (by decide) inX0 wg_138 hA.2.2.2.1 ?_
            refine ww_iconst (v := nI 1) dX0_performFrom_34 (by decide) ?_
            refine ww_iaddN dX0_performFrom_35 ?_
            refine ww_pfI tyX0 5 dX0_performFrom_36 hA.2.2.1.1.1 rfl (by decide) inX0 tyX0_ok nmX0 wg_138 rfl rfl ?_
            have hA1 : PfA la lw np du sz kf vf W (x.1 + 1, x.2) (hp_sF hq 23 5 (.int (nI (x.1 + 1)))) := hA.bg hla hlw
            have hS1 : Same (pfX la lw) pfY h (hp_sF hq 23 5 (.int (nI (x.1 + 1)))) := hS.sF (show pfY 23 5 from ⟨rfl, Or.inl rfl⟩)
            generalize hp_sF hq 23 5 (.int (nI (x.1 + 1))) = hq1 at hA1 hS1 ⊢
            refine ww_aload_n dX0_performFrom_39 rfl rfl ?_
            refine ww_get 0 dX0_performFrom_40 hA1.2.2.1.1.1 rfl (by decide) inX0 wg_133 hA1.2.2.1.1.2.2.2.2.2.1 ?_
            refine ww_iload dX0_performFrom_43 rfl ?_
            refine ww_ialdF dX0_performFrom_45 hA1.2.2.1.1.2.1 hA1.2.2.1.2.2.1 (by omega) (by omega) ?_
            refine ww_iconst (v := nI 4) dX0_performFrom_46 (by decide) ?_
            refine ww_icmp_ne (tgt := 73) dX0_performFrom_47 (by decide) (fun c47 => ?_) (fun c47 => ?_)
            · exact absurd g1.1 c47
            · refine ww_aload_n dX0_performFrom_50 rfl rfl ?_
              refine ww_iload dX0_performFrom_51 rfl ?_
              refine ww_aload_n dX0_performFrom_53 rfl rfl ?_
              refine ww_aload dX0_performFrom_54 rfl ?_
              refine ww_iload dX0_performFrom_56 rfl ?_
              refine ww_cVq0 (M := m_X0_performFrom) (pc := 58) (st := []) (d := d + 1) (bc := 0) (bs := 0) (hR nx e (x.1 + 1, x.2) hq1 (by omega) g1 g2 hA1 ⟨hX.1, by show x.1 + 1 ≤ 200; omega, by show x.2.1 + x.2.2.1 ≤ x.1 + 1; omega⟩) vv_X0_repeat dX0_performFrom_58 wg_680 hA1.2.2.1.1.1 rfl rfl rfl rfl (by omega) (Nat.le_of_ble_eq_true rfl) (Nat.le_of_ble_eq_true rfl) (Nat.le_of_ble_eq_true rfl) (fun hq2 qq2 => ?_)
              have hS2 : Same (pfX la lw) pfY h hq2 := hS1.tr qq2.2
              refine ww_aload_n dX0_performFrom_61 rfl rfl ?_
              refine ww_get 2 dX0_performFrom_62 qq2.1.2.2.1.1.1 rfl (by decide) inX0 wg_135 qq2.1.2.2.1.1.2.2.2.2.2.2.2.1 ?_
              refine ww_iload dX0_performFrom_65 rfl ?_
              refine ww_ialdF dX0_performFrom_67 qq2.1.2.2.1.1.2.2.2.1 qq2.1.2.2.1.2.2.2.2.1 (by omega) (by omega) ?_
              refine ww_sk (st2 := [.int (nI e)]) (by rw [g1.2.2.1]) ?_
              refine ww_sti (lv2 := [.ref 23, .int (nI a0), .int (nI b), .ref la, .ref lw, .int (nI o), .int (nI e), .int (nI i)]) dX0_performFrom_68 rfl (by decide) rfl ?_
              refine ww_goto (tgt := 111) dX0_performFrom_70 (by decide) ?_
              refine ww_incN (c := 1) (lv2 := [.ref 23, .int (nI a0), .int (nI b), .ref la, .ref lw, .int (nI o), .int (nI e), .int (nI (i + 1))]) dX0_performFrom_111 rfl rfl rfl (by decide) rfl ?_
              refine ww_goto (tgt := 6) dX0_performFrom_114 (by decide) ?_
              rw [pfJ_a hlt (by omega) g1.1, hn.2.2]
              exact ih e (i + 1) _ hq2 (by omega) g3 qq2.1 (rpI_g h6 sz kf vf k nx e _ (by omega) hn.2.2 g2 ⟨hX.1, by show x.1 + 1 ≤ 200; omega, by show x.2.1 + x.2.2.1 ≤ x.1 + 1; omega⟩) hS2
set_option maxHeartbeats 4000000 in
set_option maxRecDepth 100000 in
theorem c_Pf_from {l : Launch} {Z : EE} (hst : l.stackTraces = false) {h : PH} {la lw np du sz : Nat} {kf vf : Nat → Int32} {W : AF} (hla : la = 3 ∨ la = 5) (hlw : lw = 7 ∨ lw = 12) (h6 : np ≤ 6) (hok : LawOK kf vf sz) (hW8 : W.1 ≤ 38) {d : Nat} (hd : 4 ≤ d) (o k b : Nat) (hb : b ≤ W.1) (hR : ∀ (i e : Nat) (x : XS) (hq : PH), i < b → agE W i b e → WfI np W k (i + 1) e → PfA la lw np du sz kf vf W x hq → XG np x → CC l Z m_X0_repeat d 0 0 [.ref 23, .int (nI i), .ref la, .ref lw, .int (nI o)] hq (RQ none (fun h9 => PfA la lw np du sz kf vf W ((rpI W (onX sz kf vf W) k) i x) h9 ∧ Same (pfX la lw) pfY hq h9))) (a0 : Nat) (hw : WfJ np W (WfI np W k) 38 a0 b) (x : XS) (hA : PfA la lw np du sz kf vf W x h) (hX : XG np x) : CC l Z m_X0_performFrom (d + 1) 0 0 [.ref 23, .int (nI a0), .int (nI b), .ref la, .ref lw, .int (nI o)] h (RQ none (fun h9 => PfA la lw np du sz kf vf W (pfJ W (onX sz kf vf W) (rpI W (onX sz kf vf W) k) 38 a0 b x) h9 ∧ Same (pfX la lw) pfY h h9)) := by
  refine ee_entry hst (by decide +kernel) rfl rfl (by simp [Value.category]) (Nat.le_of_ble_eq_true rfl) ?_
  refine ww_lv (lv2 := [.ref 23, .int (nI a0), .int (nI b), .ref la, .ref lw, .int (nI o), UU, UU]) rfl ?_
  refine ww_iload_n dX0_performFrom_0 rfl rfl ?_
  refine ww_sti (lv2 := [.ref 23, .int (nI a0), .int (nI b), .ref la, .ref lw, .int (nI o), .int (nI a0), UU]) dX0_performFrom_1 rfl (by decide) rfl ?_
  refine ww_iconst (v := nI 0) dX0_performFrom_3 (by decide) ?_
  refine ww_sti (lv2 := [.ref 23, .int (nI a0), .int (nI b), .ref la, .ref lw, .int (nI o), .int (nI a0), .int (nI 0)]) dX0_performFrom_4 rfl (by decide) rfl ?_
  exact l_Pf_from hst hla hlw h6 hok hW8 hd o k b hb hR a0 38 a0 0 x h rfl hw hA hX Same.rf
theorem c_Pf_K {l : Launch} {Z : EE} (hst : l.stackTraces = false) {la lw np du sz : Nat} {kf vf : Nat → Int32} {W : AF} (hla : la = 3 ∨ la = 5) (hlw : lw = 7 ∨ lw = 12) (h6 : np ≤ 6) (hok : LawOK kf vf sz) (hW8 : W.1 ≤ 38) : ∀ (k o : Nat), o + k = 6 → ∀ (a0 b : Nat), b ≤ W.1 → WfJ np W (WfI np W k) 38 a0 b → ∀ (x : XS) (h : PH), PfA la lw np du sz kf vf W x h → XG np x → CC l Z m_X0_performFrom (2 * k + 5) 0 0 [.ref 23, .int (nI a0), .int (nI b), .ref la, .ref lw, .int (nI o)] h (RQ none (fun h9 => PfA la lw np du sz kf vf W (pfJ W (onX sz kf vf W) (rpI W (onX sz kf vf W) k) 38 a0 b x) h9 ∧ Same (pfX la lw) pfY h h9)) := by
  intro k
  induction k with
  | zero =>
    intro o ho a0 b hb hw x h hA hX
    exact c_Pf_from hst hla hlw h6 hok hW8 (d := 4) (by omega) o 0 b hb (fun i e x hq h1 h2 h3 => h3.elim) a0 hw x hA hX
  | succ k ih =>
    intro o ho a0 b hb hw x h hA hX
    exact c_Pf_from hst hla hlw h6 hok hW8 (d := 2 * k + 5 + 1) (by omega) o (k + 1) b hb (fun i e x hq h1 h2 h3 h4 h5 => by rw [WfI_s] at h3; exact c_Pf_rep hst hla hlw h6 hok hW8 (d := 2 * k + 5) o k i e b (by omega) (by omega) (by omega) h2 h3 (fun y hq2 q1 q2 => ih (o + 1) (by omega) (i + 1) e (by have := h2.2.2.2.2; omega) h3 y hq2 q1 q2) x h4 h5) a0 hw x hA hX
