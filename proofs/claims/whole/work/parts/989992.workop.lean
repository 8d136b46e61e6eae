/-! ===== work ===== -/
set_option maxHeartbeats 4000000 in
set_option maxRecDepth 100000 in
theorem c_K_work_20b {l : Launch} {Z : EE} (hst : l.stackTraces = false) {h : PH} {la lw bk : Nat} (hC : CL h la lw bk) {np du : Nat} {f : Nat → Int32} (hL : LandAt h la np du f) {sz : Nat} {kf vf : Nat → Int32} (hW : LawAt h lw sz kf vf) (hok : LawOK kf vf sz) (hu : RowOK f np) {tf : Nat → Int32} (htf : hp_I h 2 = tf) {T : Nat → Nat} (hB : BT tf T) {tp : Nat} (htp : hp_F h 1 1 = .int (nI tp)) (ht6 : tp ≤ 600) {W : AF} (hA : AfR h W) (hN1 : 72 < hp_N h) (hN2 : hp_N h < 999990) (n : Nat) (hnt : n ≤ tp) (hn5 : n ≤ 150) {b k : Nat} (hpa : hp_F h 0 8 = .ref b) (hb72 : 72 < b) (hbn : b < hp_N h) (hkb : hp_K h b = (4, 3)) (hb : hp_F h b 2 = .int (nI k)) (hk16 : k = 16) : CC l Z m_X10_work 2 0 0 [.ref 0, .int (nI n)] h (RQ (some (.int (-20))) (fun h9 => Same (fun _ => False) (fun a j => a = 1 ∧ 1 ≤ j) h h9 ∧ hp_F h9 1 1 = .int (nI 0) ∧ hp_F h9 1 5 = .int (-1))) := by
  refine ee_entry hst (by decide +kernel) rfl rfl (by simp [Value.category]) (Nat.le_of_ble_eq_true rfl) ?_
  refine ww_lv (lv2 := [.ref 0, .int (nI n)]) rfl ?_
  have hla := hC.la
  have hlw := hC.lw
  have hbk := hC.bk
  have hSo : Same (fun _ => False) afY h (rdS (hp_sF h 1 1 (.int (nI 0))) n 0 0 (-1)) := Same.rd (Same.rf.sF (show afY 1 1 from Or.inl ⟨rfl, by omega⟩)) (fun j hj => Or.inl ⟨rfl, hj⟩) n 0 0 (-1)
  have hSp : Same (fun _ => False) (fun a j => a = 1 ∧ 1 ≤ j) h (rdS (hp_sF h 1 1 (.int (nI 0))) n 0 0 (-1)) := Same.rd (Same.rf.sF ⟨rfl, by omega⟩) (fun j hj => ⟨rfl, hj⟩) n 0 0 (-1)
  have hCo := hC.af hSo (by omega)
  refine ww_aload_n dX10_work_0 rfl rfl ?_
  refine ww_iload_n dX10_work_1 rfl rfl ?_
  refine ww_iconst (v := nI 0) dX10_work_2 (by decide) ?_
  refine ww_aload_n dX10_work_3 rfl rfl ?_
  refine ww_get 0 dX10_work_4 (hC.K0) rfl (by decide) inX10 wg_264 (hC.R0_0) ?_
  refine ww_getN 1 dX10_work_7 (hC.K1) rfl (by decide) inX5 wn_40 htp ?_
  refine ww_sipush (v := nI 150) dX10_work_10 (by decide) ?_
  refine ww_cSr (M := m_X10_work) (pc := 13) (v := .int (nI (min tp 150))) (h1 := h) (st := [.int (nI 0), .int (nI n), .ref 0]) (d := 2) (bc := 0) (bs := 0) (c_minN hst tp 150 (by omega) (by omega) h) vv_J9_min_7cf53 dX10_work_13 wg_603 rfl rfl rfl (Nat.le_of_ble_eq_true rfl) (Nat.le_of_ble_eq_true rfl) (Nat.le_of_ble_eq_true rfl) (Nat.le_of_ble_eq_true rfl) ?_
  refine ww_cV0 (M := m_X10_work) (pc := 16) (h1 := h) (st := []) (d := 2) (bc := 0) (bs := 0) (c_within_t hst (nI n) (nI 0) (nI (min tp 150)) (nI_le (by omega) (by omega)) (nI_le (by omega) (by omega)) _) vv_X10_within dX10_work_16 wg_410 (hC.K0) rfl rfl rfl rfl (Nat.le_of_ble_eq_true rfl) (Nat.le_of_ble_eq_true rfl) (Nat.le_of_ble_eq_true rfl) (Nat.le_of_ble_eq_true rfl) ?_
  refine ww_aload_n dX10_work_19 rfl rfl ?_
  refine ww_get 0 dX10_work_20 (hC.K0) rfl (by decide) inX10 wg_264 (hC.R0_0) ?_
  refine ww_iload_n dX10_work_23 rfl rfl ?_
  refine ww_cV0 (M := m_X10_work) (pc := 24) (h1 := rdS (hp_sF h 1 1 (.int (nI 0))) n 0 0 (-1)) (st := []) (d := 2) (bc := 0) (bs := 0) (c_Rd_open hst (tf := tf) ⟨hC.K1, hC.K2, hC.R1_0, htf⟩ n) vv_X5_open dX10_work_24 wg_481 (hC.K1) rfl rfl rfl rfl (Nat.le_of_ble_eq_true rfl) (Nat.le_of_ble_eq_true rfl) (Nat.le_of_ble_eq_true rfl) (Nat.le_of_ble_eq_true rfl) ?_
  refine ww_aload_n dX10_work_27 rfl rfl ?_
  refine ww_cVr (M := m_X10_work) (pc := 28) (v := .int (nI k)) (h1 := rdS (hp_sF h 1 1 (.int (nI 0))) n 0 0 (-1)) (st := []) (d := 2) (bc := 0) (bs := 0) (c_K_worksKept1 hst hCo (rdS_o _ _ _ _ (by omega) (hp_F_na (by omega) hpa)) hkb (rdS_o _ _ _ _ (by omega) (hp_F_na (by omega) hb))) vv_X10_worksKept dX10_work_28 wg_349 (hC.K0) rfl rfl rfl rfl (Nat.le_of_ble_eq_true rfl) (Nat.le_of_ble_eq_true rfl) (Nat.le_of_ble_eq_true rfl) (Nat.le_of_ble_eq_true rfl) ?_
  refine ww_bipush (v := nI 16) dX10_work_31 (by decide) ?_
  refine ww_icmp_ltN (tgt := 39) dX10_work_33 (by decide) (by omega) (by omega) (fun c33 => ?_) (fun c33 => ?_)
  · exfalso; omega
  · refine ww_bipush (v := -20) dX10_work_36 (by decide) ?_
    exact ww_iret dX10_work_38 rfl ⟨rfl, hSp, rdS_j _ _ _ _ (by decide) (hp_F_eq _ _ _ _), rdS_5 _ _ _ _ _⟩
theorem useF_z {g : Nat → Int32} {q n : Nat} {c : Int32} (hq : q < 6) (hn : n ≤ 60) (ho : isOw (g n)) (hz : RowZ g) : RowZ (useF g q n c).2 := fun i hi => by
  have e : (useF g q n c).2 i = g i := by
    unfold useF
    split
    · exact upd_ne _ _ (by omega)
    · split
      · show upd (payF g q (g n) c) (122 + n) _ i = g i
        rw [upd_ne _ _ (by omega), payF_ne (by omega) (by omega) ho]
      · rfl
  rw [e]
  exact hz i hi
theorem sellF_z {g : Nat → Int32} {n p : Nat} {c : Int32} (hp : p < 6) (hn : n ≤ 60) (ho : isOw (g n)) (hz : RowZ g) : RowZ (sellF g n p c).2 := by
  by_cases h1 : g n = nI p
  · rw [sellF_1 h1]; exact hz
  · by_cases h2 : c ≤ g (183 + p)
    · rw [sellF_2 h1 h2]
      intro i hi
      show upd (payF g p (g n) c) n (nI p) i = 0
      rw [pk_un (by omega), payF_ne (by omega) (by omega) ho]
      exact hz i hi
    · rw [sellF_3 h1 h2]; exact hz
theorem letF_z {g : Nat → Int32} {n : Nat} {r : Int32} (hn : n ≤ 60) (hz : RowZ g) : RowZ (letF g n r).2 := by
  by_cases h1 : g n = -1
  · rw [letF_1 h1]; exact hz
  · by_cases h2 : g (61 + n) = r
    · rw [letF_2 h1 h2]; exact hz
    · rw [letF_3 h1 h2]
      intro i hi
      show upd g (61 + n) r i = 0
      rw [pk_un (by omega)]
      exact hz i hi
theorem dyF_z {g : Nat → Int32} (hz : RowZ g) : RowZ (dyF g).2 := by
  by_cases h1 : g 189 < nI 900
  · rw [dyF_1 h1]
    intro i hi
    show dayF g i = 0
    unfold dayF clr
    rw [if_neg (by omega), pk_un (by omega)]
    exact hz i hi
  · rw [dyF_2 h1]; exact hz
theorem goE_z {np : Nat} {W : AF} {i : Nat} (hg : goE np W i) {f : Nat → Int32} (h : RowOK f np) (h6 : np ≤ 6) (sz : Nat) (kf vf : Nat → Int32) (hz : RowZ f) : RowZ (onS sz kf vf W i f).2 := by
  unfold onS
  rcases hg with ⟨e, p, q, y, h1, h2, h3, e1, e2, e3⟩ | ⟨e, q, p, c, h1, h2, h3, e1, e2, e3⟩ | ⟨e, q, r, h1, h2, e1, e2, e3⟩ | ⟨e, -⟩
  · rw [if_pos e]
    unfold onN twN thN
    rw [e1, e2, e3, nI_clamp (by omega), nI_clamp (by omega), nI_clamp (by omega)]
    exact useF_z (by omega) h2 (h.ow h6 h2) hz
  · rw [if_neg (by rw [e]; decide), if_pos e]
    unfold onN twN thN
    rw [e1, e2, e3, nI_clamp (by omega), nI_clamp (by omega), nI_clamp (by omega)]
    exact sellF_z (by omega) h1 (h.ow h6 h1) hz
  · rw [if_neg (by rw [e]; decide), if_neg (by rw [e]; decide), if_pos e]
    unfold onN twN
    rw [e1, e2, nI_clamp (by omega), nI_clamp (by omega)]
    exact letF_z h1 hz
  · rw [if_neg (by rw [e]; decide), if_neg (by rw [e]; decide), if_neg (by rw [e]; decide)]
    exact dyF_z hz
theorem onX_z {np : Nat} {W : AF} {i : Nat} (hg : goE np W i) (h6 : np ≤ 6) (sz : Nat) (kf vf : Nat → Int32) {x : XS} (h : XG np x) (hz : RowZ x.2.2.2) : RowZ (onX sz kf vf W i (x.1 + 1, x.2)).2.2.2 := by
  have h1 := goE_z hg h.1 h6 sz kf vf hz
  unfold onX
  split
  · exact h1
  · exact h1
theorem rpX_z {np : Nat} {body : XS → XS} (hb : ∀ x, XG np x → RowZ x.2.2.2 → XG np (body x) ∧ RowZ (body x).2.2.2) : ∀ t x, XG np x → RowZ x.2.2.2 → RowZ (rpX body t x).2.2.2
  | 0, _, _, hz => hz
  | t + 1, x, h, hz => by
    show RowZ (if x.1 < 200 then rpX body t (body x) else x).2.2.2
    by_cases c : x.1 < 200
    · rw [if_pos c]
      exact rpX_z hb t _ (hb x h hz).1 (hb x h hz).2
    · rw [if_neg c]
      exact hz
theorem pfJ_z {np : Nat} {W : AF} (h6 : np ≤ 6) (sz : Nat) (kf vf : Nat → Int32) {rep : Nat → XS → XS} {inn : Nat → Nat → Prop} (hr : ∀ a e x, e ≤ 1000 → twN W a = e → inn (a + 1) e → XG np x → RowZ x.2.2.2 → XG np (rep a x) ∧ RowZ (rep a x).2.2.2) : ∀ j a b x, b ≤ 1000 → WfJ np W inn j a b → XG np x → RowZ x.2.2.2 → RowZ (pfJ W (onX sz kf vf W) rep j a b x).2.2.2
  | 0, _, _, _, _, _, _, hz => hz
  | j + 1, a, b, x, hb, hw, h, hz => by
    by_cases hc : a < b ∧ x.1 < 200
    · rcases hw with e | ⟨-, ⟨g1, g2⟩ | ⟨e, g1, g2, g3⟩⟩
      · omega
      · rw [pfJ_o hc.1 hc.2 (goE_k g1)]
        exact pfJ_z h6 sz kf vf hr j _ _ _ hb g2 (onX_g g1 h6 sz kf vf h hc.2) (onX_z g1 h6 sz kf vf h hz)
      · have hn := agE_n g1 hb
        rw [pfJ_a hc.1 hc.2 g1.1, hn.2.2]
        have hxg : XG np (x.1 + 1, x.2) := ⟨h.1, by show x.1 + 1 ≤ 200; omega, by have := h.2.2; show x.2.1 + x.2.2.1 ≤ x.1 + 1; omega⟩
        have h5 := hr a e (x.1 + 1, x.2) (by have := g1.2.2.2.2.2; omega) hn.2.2 g2 hxg hz
        exact pfJ_z h6 sz kf vf hr j _ _ _ hb g3 h5.1 h5.2
    · rw [pfJ_e hc]; exact hz
theorem rpI_z {np : Nat} {W : AF} (h6 : np ≤ 6) (sz : Nat) (kf vf : Nat → Int32) : ∀ k a e x, e ≤ 1000 → twN W a = e → WfI np W k (a + 1) e → XG np x → RowZ x.2.2.2 → RowZ (rpI W (onX sz kf vf W) k a x).2.2.2 := by
  intro k
  induction k with
  | zero => intro a e x _ _ h; exact h.elim
  | succ k ih =>
    intro a e x he ht hw h hz
    rw [WfI_s] at hw
    rw [rpI_s, ht]
    exact rpX_z (np := np) (fun y hy hyz => ⟨pfJ_g (inn := WfI np W k) h6 sz kf vf (rpI_g h6 sz kf vf k) 38 (a + 1) e y he hw hy, pfJ_z (inn := WfI np W k) h6 sz kf vf (fun a2 e2 x2 h1 h2 h3 h4 h5 => ⟨rpI_g h6 sz kf vf k a2 e2 x2 h1 h2 h3 h4, ih a2 e2 x2 h1 h2 h3 h4 h5⟩) 38 (a + 1) e y he hw hy hyz⟩) _ _ h hz
/-- the row behind a work -/
theorem pfK_ok {np : Nat} {W : AF} (h6 : np ≤ 6) (sz : Nat) (kf vf : Nat → Int32) {f : Nat → Int32} (hb : W.1 ≤ 1000) (hw : WfK np W 6 0 W.1) (h : RowOK f np) (hz : RowZ f) : RowZ (pfK W (onX sz kf vf W) 6 0 W.1 (0, 0, 0, f)).2.2.2 ∧ RowOK (pfK W (onX sz kf vf W) 6 0 W.1 (0, 0, 0, f)).2.2.2 np := by
  have hx : XG np (0, 0, 0, f) := ⟨h, Nat.zero_le _, Nat.le_refl _⟩
  exact ⟨pfJ_z (inn := WfI np W 6) h6 sz kf vf (fun a2 e2 x2 h1 h2 h3 h4 h5 => ⟨rpI_g h6 sz kf vf 6 a2 e2 x2 h1 h2 h3 h4, rpI_z h6 sz kf vf 6 a2 e2 x2 h1 h2 h3 h4 h5⟩) 38 0 W.1 (0, 0, 0, f) hb hw hx hz, (pfJ_g (inn := WfI np W 6) h6 sz kf vf (rpI_g h6 sz kf vf 6) 38 0 W.1 (0, 0, 0, f) hb hw hx).1⟩
theorem c_K_workL {l : Launch} {Z : EE} (hst : l.stackTraces = false) {h : PH} {la lw bk : Nat} (hC : CL h la lw bk) {np du : Nat} {f : Nat → Int32} (hL : LandAt h la np du f) {sz : Nat} {kf vf : Nat → Int32} (hW : LawAt h lw sz kf vf) (hok : LawOK kf vf sz) (hu : RowOK f np) {tf : Nat → Int32} (htf : hp_I h 2 = tf) {T : Nat → Nat} (hB : BT tf T) {tp : Nat} (htp : hp_F h 1 1 = .int (nI tp)) (ht6 : tp ≤ 600) {W : AF} (hA : AfR h W) (hN1 : 72 < hp_N h) (hN2 : hp_N h < 999990) (n : Nat) (hnt : n ≤ tp) (hn5 : n ≤ 150) {ps : List (Nat → Int32)} (hp : PsC h (hp_F h 0 8) ps) (h16 : ps.length < 16) {k9 q9 : Nat} (hr : wkS np T n (0, W.2.1, W.2.2.1, W.2.2.2.1, W.2.2.2.2) = .inl (k9, q9)) : CC l Z m_X10_work 27 0 0 [.ref 0, .int (nI n)] h (RQ (some (.int (nI k9 - nI 10))) (fun h9 => Same afX afY h h9 ∧ (∃ V9 : AF, AfR h9 V9) ∧ hp_F h9 1 1 = .int (nI 0) ∧ hp_F h9 1 5 = .int (nI q9))) := by
  cases ps with
  | nil => exact c_K_work_l0 hst hC hL hW hok hu htf hB htp ht6 hA hN1 hN2 n hnt hn5 hp hr
  | cons g2 ps2 =>
    obtain ⟨b, r2, e2, ⟨b72, bN, -⟩, kb, -, -, fb, -⟩ := hp
    exact c_K_work_l1 hst hC hL hW hok hu htf hB htp ht6 hA hN1 hN2 n hnt hn5 e2 b72 bN kb fb h16 hr
/-- what a work leaves in the class -/
def wkP (la lw bk np du : Nat) (f : Nat → Int32) (V9 : AF) (x : XS) (k : Nat) (h h9 : PH) : Prop := hp_N h9 = hp_N h + 2 ∧ SmN (wrX la lw) wrY h h9 ∧ CL h9 la lw bk ∧ LandAt h9 la np du x.2.2.2 ∧ AfR h9 V9 ∧ hp_F h9 0 8 = .ref (hp_N h) ∧ hp_F h9 0 11 = .int (nI x.2.2.1) ∧ hp_F h9 1 1 = .int (nI 0) ∧ hp_F h9 1 5 = .int (-1) ∧ hp_K h9 (hp_N h) = (4, 3) ∧ hp_K h9 (hp_N h + 1) = (20, 190) ∧ hp_F h9 (hp_N h) 0 = .ref (hp_N h + 1) ∧ hp_F h9 (hp_N h) 1 = hp_F h 0 8 ∧ hp_F h9 (hp_N h) 2 = .int (nI (k + 1)) ∧ hp_I h9 (hp_N h + 1) = f
theorem c_K_workR {l : Launch} {Z : EE} (hst : l.stackTraces = false) {h : PH} {la lw bk : Nat} (hC : CL h la lw bk) {np du : Nat} {f : Nat → Int32} (hL : LandAt h la np du f) {sz : Nat} {kf vf : Nat → Int32} (hW : LawAt h lw sz kf vf) (hok : LawOK kf vf sz) (hu : RowOK f np) {tf : Nat → Int32} (htf : hp_I h 2 = tf) {T : Nat → Nat} (hB : BT tf T) {tp : Nat} (htp : hp_F h 1 1 = .int (nI tp)) (ht6 : tp ≤ 600) {W : AF} (hA : AfR h W) (hN1 : 72 < hp_N h) (hN2 : hp_N h < 999990) (n : Nat) (hnt : n ≤ tp) (hn5 : n ≤ 150) {ps : List (Nat → Int32)} (hp : PsC h (hp_F h 0 8) ps) (h16 : ps.length < 16) {b9 : Nat} {V9 : AF} (hr : wkS np T n (0, W.2.1, W.2.2.1, W.2.2.2.1, W.2.2.2.2) = .inr (b9, V9)) : CC l Z m_X10_work 27 2 193 [.ref 0, .int (nI n)] h (RQ (some (.int (nI (pfK V9 (onX sz kf vf V9) 6 0 V9.1 (0, 0, 0, f)).2.1))) (wkP la lw bk np du f V9 (pfK V9 (onX sz kf vf V9) 6 0 V9.1 (0, 0, 0, f)) ps.length h)) := by
  cases ps with
  | nil =>
    have t1 : hp_F h 0 8 = .null := hp
    refine cc_post (fun r h9 e => ?_) (c_K_work_r0 hst hC hL hW hok hu htf hB htp ht6 hA hN1 hN2 n hnt hn5 t1 hr)
    obtain ⟨e0, e1, e2, e3, e4, e5, e6, e7, e8, e9, d1, d2, d3, d4, d5, d6⟩ := e
    exact ⟨e0, e1, e2, e3, e4, e5, e6, e7, e8, e9, d1, d2, d3, d4.trans t1.symm, d5, d6⟩
  | cons g2 ps2 =>
    obtain ⟨b, r2, t1, ⟨b72, bN, -⟩, kb, -, -, fb, -⟩ := hp
    refine cc_post (fun r h9 e => ?_) (c_K_work_r1 hst hC hL hW hok hu htf hB htp ht6 hA hN1 hN2 n hnt hn5 t1 b72 bN kb fb h16 hr)
    obtain ⟨e0, e1, e2, e3, e4, e5, e6, e7, e8, e9, d1, d2, d3, d4, d5, d6⟩ := e
    exact ⟨e0, e1, e2, e3, e4, e5, e6, e7, e8, e9, d1, d2, d3, d4.trans t1.symm, d5, d6⟩
theorem KG.work {h h9 : PH} {la lw bk : Nat} {c : CSt} {V9 : AF} {x : XS} (k : KG h la lw bk c) (hN : 72 < hp_N h) (p : wkP la lw bk c.2.1.1 c.2.1.2.1 c.2.1.2.2 V9 x c.2.2.2.2.1.1.length h h9) : KG h9 la lw bk ((c.1.1, 0, -1), (c.2.1.1, c.2.1.2.1, x.2.2.2), c.2.2.1, c.2.2.2.1, (c.2.1.2.2 :: c.2.2.2.2.1.1, c.2.2.2.2.1.2), (nI x.2.2.1, c.2.2.2.2.2.2)) := by
  obtain ⟨⟨hC0, ⟨np0, du0, f0, hL0, hz⟩, ⟨sz0, kf0, vf0, hW0⟩, ⟨s0, hB0⟩, -⟩, ⟨t1, -, -⟩, hL, hW, hB, ⟨p1, p2, p3⟩, c1, c2, c3⟩ := k
  obtain ⟨e1, s, hC, hL9, hA9, e5, e6, e7, e8, d1, d2, d3, d4, d5, d6⟩ := p
  have hla := hC0.la
  have hlw := hC0.lw
  have hbk := hC0.bk
  have aX : ∀ a, wrX la lw a → (24 ≤ a ∧ a ≤ 27) ∨ a = la + 1 ∨ a = lw + 3 ∨ a = lw + 4 := fun a e => by
    rcases e with e | e
    · have e2 : a = 24 ∨ a = 25 ∨ a = 26 ∨ a = 27 := e
      omega
    · have e2 : a = la + 1 ∨ a = lw + 3 ∨ a = lw + 4 := e
      omega
  have aY : ∀ a j, wrY a j → (a = 1 ∧ 1 ≤ j) ∨ (a = 23 ∧ 4 ≤ j) ∨ (a = 0 ∧ (j = 8 ∨ j = 11)) := fun a j e => by
    rcases e with e | e | e
    · have e2 : (a = 1 ∧ 1 ≤ j) ∨ (a = 23 ∧ j = 4) := e
      omega
    · have e2 : a = 23 ∧ (j = 5 ∨ j = 6 ∨ j = 7) := e
      omega
    · exact Or.inr (Or.inr e)
  have nX : ∀ a, ¬ ((24 ≤ a ∧ a ≤ 27) ∨ a = la + 1 ∨ a = lw + 3 ∨ a = lw + 4) → ¬ wrX la lw a := fun a h1 e => h1 (aX a e)
  have nY : ∀ a j, ¬ ((a = 1 ∧ 1 ≤ j) ∨ (a = 23 ∧ 4 ≤ j) ∨ (a = 0 ∧ (j = 8 ∨ j = 11))) → ¬ wrY a j := fun a j h1 e => h1 (aY a j e)
  have F : ∀ a j, a < hp_N h → ¬ ((a = 1 ∧ 1 ≤ j) ∨ (a = 23 ∧ 4 ≤ j) ∨ (a = 0 ∧ (j = 8 ∨ j = 11))) → hp_F h9 a j = hp_F h a j := fun a j h0 h1 => s.2.2.1 a j h0 (nY a j h1)
  have hP : ∀ (v : Value) (x : List (Nat → Int32)), PsC h v x → PsC h9 v x := fun v x e => e.gen s (fun a z => by
    have z2 := aX a z
    omega) (fun a j z => by
    have z2 := aY a j z
    omega)
  refine ⟨⟨hC, ⟨np0, du0, f0, hL0.smn s (by omega) (nX _ (by omega)) (fun j => nY _ _ (by omega)), hz⟩, ⟨sz0, kf0, vf0, hW0.smn s (by omega) (nX _ (by omega)) (nX _ (by omega)) (fun j => nY _ _ (by omega))⟩, ⟨s0, hB0.smn s (by omega) (nX _ (by omega)) (nX _ (by omega)) (fun j => nY _ _ (by omega))⟩, V9, hA9⟩, ⟨(s.2.2.2.1 2 (by omega) (nX 2 (by omega))).trans t1, e7, e8⟩, hL9, hW.smn s (by omega) (nX _ (by omega)) (nX _ (by omega)) (fun j => nY _ _ (by omega)), hB.smn s (by omega) (nX _ (by omega)) (nX _ (by omega)) (fun j => nY _ _ (by omega)), ⟨?_, (F 0 10 (by omega) (by omega)).trans p2, ImC.old hP _ (fun j _ => F 28 j (by omega) (by omega)) p3⟩, e6, (F 0 12 (by omega) (by omega)).trans c2, (F 0 13 (by omega) (by omega)).trans c3⟩
  refine ⟨hp_N h, hp_N h + 1, e5, ⟨hN, by omega, by omega, by omega⟩, d1, d2, d3, d5, d6, ?_⟩
  rw [d4]
  exact hP _ _ p1
theorem MR.work {h1 h2 : PH} {c : CSt} {F : Nat → Int32} {rs : Int32} (m1 : MG h1 c) (q : Same (fun c => SX 46 c ∨ c = 46 + 14 ∨ c = 46 + 16) (fun a j => SYt 46 a j ∨ (a = 46 ∧ (j = 28 ∨ j = 29))) h1 h2) (i1 : hp_I h2 (46 + 14) = F) (i2 : hp_I h2 (46 + 16) = toF c.2.1.2.2 (190 * c.2.2.2.2.1.1.length) (hp_I h1 (46 + 16)) 190) (e5 : hp_F h2 46 28 = .int (nI (c.2.2.2.2.1.1.length + 1))) (e7 : hp_F h2 46 29 = .int rs) (t2 : hp_F h2 46 2 = .int (nI 0)) (ft : FtI h2 46 (-1)) : MR ((c.1.1, 0, -1), (c.2.1.1, c.2.1.2.1, F), c.2.2.1, c.2.2.2.1, (c.2.1.2.2 :: c.2.2.2.2.1.1, c.2.2.2.2.1.2), (rs, c.2.2.2.2.2.2)) h1 h2 := by
  obtain ⟨hM, ⟨t1, -⟩, ⟨l1, l2, l3⟩, hW, ⟨b1, b2, b3⟩, ⟨p1, p2, p3, p4⟩, c1, c2, c3⟩ := m1
  have aY : ∀ a j, SYt 46 a j ∨ (a = 46 ∧ (j = 28 ∨ j = 29)) → a = 46 ∧ (yR j ∨ j = 28 ∨ j = 29) := fun a j e => by
    rcases e with e | e
    · exact ⟨(SYt_or e).1, Or.inl (SYt_or e).2⟩
    · exact ⟨e.1, Or.inr e.2⟩
  have aX : ∀ a, SX 46 a ∨ a = 46 + 14 ∨ a = 46 + 16 → xR a ∨ a = 60 ∨ a = 62 := fun a e => by
    rcases e with e | e | e
    · exact Or.inl (SX_or e)
    · exact Or.inr (Or.inl e)
    · exact Or.inr (Or.inr e)
  have F' : ∀ j, ¬ (yR j ∨ j = 28 ∨ j = 29) → hp_F h2 46 j = hp_F h1 46 j := fun j hj => q.2.2.1 46 j (fun e => hj (aY _ _ e).2)
  have R : ∀ a, ¬ (xR a ∨ a = 60 ∨ a = 62) → hp_I h2 a = hp_I h1 a := fun a ha => q.2.2.2.1 a (fun e => ha (aX _ e))
  refine MR.of (q.mono (fun a e => ?_) (fun a j e => (aY a j e).1)) ⟨hM.gen q (fun j e => ?_), ⟨(R 48 (by decide)).trans t1, t2, ft.1, ft.2⟩, ⟨(F' 15 (by decide)).trans l1, (F' 16 (by decide)).trans l2, i1⟩, hW.same q (fun e => absurd (aX _ e) (by decide)) (fun e => absurd (aX _ e) (by decide)) (fun e => absurd (aY _ _ e).2 (by decide)), ⟨(F' 38 (by decide)).trans b1, b2, ?_⟩, ⟨e5, ?_, (F' 52 (by decide)).trans p3, ?_⟩, e7, ?_, ?_⟩
  · have e9 := aX a e
    unfold xR at e9
    show 46 ≤ a ∧ a ≤ 71
    omega
  · rcases (aY _ _ e).2 with e9 | e9 | e9
    · exact Or.inl e9
    · exact Or.inr (by omega)
    · exact Or.inr (by omega)
  · rw [R (46 + 18) (by decide)]; exact b3
  · have i3 : hp_I h2 62 = toF c.2.1.2.2 (190 * c.2.2.2.2.1.1.length) (hp_I h1 62) 190 := i2
    rw [i3]
    refine ⟨fun i hi => ?_, PsM.congr _ (fun i hi => ?_) p2⟩
    · unfold toF
      rw [if_pos (by omega), Nat.add_sub_cancel_left]
    · unfold toF
      rw [if_neg (by omega)]
  · rw [R 71 (by decide)]; exact p4
  · rw [R 47 (by decide)]; exact c2
  · rw [R 47 (by decide)]; exact c3
set_option maxHeartbeats 4000000 in
theorem q_work {l : Launch} {Z : EE} (hst : l.stackTraces = false) (j : Nat) (p1 : Int32) (h : PH) (s : SG (j + 1) h) : StW l Z m_L_work m_X11_work 60 2 193 [.int p1] (GG j) h := by
  obtain ⟨c, la, lw, bk, kg, mg, g, o1, o2, o3⟩ := id s
  have hC := kg.1.1
  have hla := hC.la
  have hlw := hC.lw
  have hbk := hC.bk
  have hL := kg.2.2.1
  have hW := kg.2.2.2.1
  have h6 := hL.2.2.2.2.2.2.1
  have hwr := kg.2.2.2.2.2.2.2.2
  have hpc := kg.2.2.2.2.2.1.1
  obtain ⟨⟨gt6, T, gT⟩, ⟨gz, gr⟩, gl, gb, gp, gps, gi, gis⟩ := id g
  obtain ⟨kt1, kt2, kt3⟩ := kg.2.1
  by_cases c0 : outR 0 (min c.1.2.1 150) p1
  · exact StW.no (k := 1) (f := 13) (kd := 1) (by decide) (by decide) (Or.inr ⟨rfl, rfl⟩) hwr kg mg g o1 o2 o3 (by decide) (c_L_work_ia hst (c_K_work_no hst hC kt2 gt6 hwr p1 c0) hC.K0) (fun h1 m1 => c_M_work_no hst m1.1 m1.2.1.2.1 gt6 p1 c0)
  obtain ⟨n, an, bn, rfl⟩ := in_R c0 (by omega) (by omega)
  have bn1 : n ≤ c.1.2.1 := by omega
  have bn2 : n ≤ 150 := by omega
  obtain ⟨-, ⟨np0, du0, f0, hL0, hz0⟩, ⟨sz0, kf0, vf0, hW0⟩, ⟨b0, hB0⟩, W, hA⟩ := kg.1
  have hrd : ∀ (h1 : PH) (X : Nat → Prop) (fl : Int32), Same X afY h h1 → (∀ a, X a → 24 ≤ a ∧ a ≤ 27) → (∃ V9 : AF, AfR h1 V9) → hp_F h1 1 1 = .int (nI 0) → hp_F h1 1 5 = .int fl → KG h1 la lw bk ((c.1.1, 0, fl), c.2) ∧ MG h1 c ∧ hp_K h1 72 = (21, 1) ∧ 72 < hp_N h1 ∧ hp_N h1 + 2 * j ≤ 900000 := by
    intro h1 X fl q hX hV t2 t3
    have n1 : hp_N h1 = hp_N h := q.1
    have ss := SmN.of q
    have nX : ∀ a, ¬ (24 ≤ a ∧ a ≤ 27) → ¬ X a := fun a h1 e => h1 (hX a e)
    have nY : ∀ a j, ¬ ((a = 1 ∧ 1 ≤ j) ∨ (a = 23 ∧ j = 4)) → ¬ afY a j := fun a j h1 e => h1 e
    refine ⟨kg.read q o2 (fun a e => ?_) (fun a j e => ?_) ⟨np0, du0, f0, hL0.smn ss (by omega) (nX _ (by omega)) (fun j => nY _ _ (by omega)), hz0⟩ ⟨sz0, kf0, vf0, hW0.smn ss (by omega) (nX _ (by omega)) (nX _ (by omega)) (fun j => nY _ _ (by omega))⟩ ⟨b0, hB0.smn ss (by omega) (nX _ (by omega)) (nX _ (by omega)) (fun j => nY _ _ (by omega))⟩ hV t2 t3, mg.fr (q.frM (fun a e => Or.inr (Or.inl ?_)) (fun a j e => Or.inr (Or.inl ?_))) o2, (q.2.1 72).trans o1, by omega, by omega⟩
    · have e2 := hX a e
      unfold xS
      omega
    · have e2 : (a = 1 ∧ 1 ≤ j) ∨ (a = 23 ∧ j = 4) := e
      unfold yS
      omega
    · have e2 := hX a e
      omega
    · have e2 : (a = 1 ∧ 1 ≤ j) ∨ (a = 23 ∧ j = 4) := e
      omega
  by_cases h16 : c.2.2.2.2.1.1.length = 16
  · have hpc2 : ∃ b, hp_F h 0 8 = .ref b ∧ 72 < b ∧ b < hp_N h ∧ hp_K h b = (4, 3) ∧ hp_F h b 2 = .int (nI 16) := by
      rcases hps : c.2.2.2.2.1.1 with _ | ⟨g2, ps2⟩
      · rw [hps] at h16
        exact absurd h16 (by decide)
      · rw [hps] at hpc h16
        obtain ⟨b, r2, e2, ⟨b72, bN, -⟩, kb, -, -, fb, -⟩ := hpc
        have h17 : ps2.length + 1 = 16 := h16
        rw [h17] at fb
        exact ⟨b, e2, b72, bN, kb, fb⟩
    obtain ⟨b, e2, b72, bN, kb, fb⟩ := hpc2
    refine StW.st (v := -20) (d1 := 3) (mc1 := 0) (ms1 := 0) (d2 := 14) (la := la) (lw := lw) (bk := bk) (c := c) (c2 := ((c.1.1, 0, -1), c.2)) (by decide) ⟨⟨Nat.zero_le _, T, gT⟩, g.2⟩ (c_L_work_k hst (c_K_work_20b hst hC hL hW gl gr kt1 gT kt2 gt6 hA o2 (by omega) n bn1 bn2 e2 b72 bN kb fb rfl) hC.K0 (fun r h9 e => ⟨e.1, (e.2.1.2.1 72).trans o1⟩)) (fun h1 q1 => ?_) (fun h1 m1 => ?_)
    · obtain ⟨-, q, t2, t3⟩ := q1
      refine hrd h1 _ _ (q.mono (fun _ e => e) (fun a j e => Or.inl e)) (fun a e => e.elim) ⟨W, hA.same q (fun c _ _ e => e) (fun j _ e => ?_)⟩ t2 t3
      have e2 : 23 = 1 ∧ 1 ≤ j := e
      omega
    · obtain ⟨bd, hbd⟩ := m1.2.1.2.2.2
      exact cc_post (fun r h2 e => ⟨e.1, MR.rd m1 e.2.1 e.2.2.2.1 e.2.2.2.2, e.2.2.1⟩) (c_M_work_20 hst m1.1 m1.2.1.1 gT m1.2.1.2.1 gt6 hbd n bn1 bn2 m1.2.2.2.2.2.1.1 h16)
  · have gp16 : c.2.2.2.2.1.1.length ≤ 16 := gp
    have hlt : c.2.2.2.2.1.1.length < 16 := by omega
    rcases hr : wkS c.2.1.1 T n (0, W.2.1, W.2.2.1, W.2.2.2.1, W.2.2.2.2) with ⟨k9, q9⟩ | ⟨b9, V9⟩
    · refine StW.st (v := nI k9 - nI 10) (d1 := 28) (mc1 := 0) (ms1 := 0) (d2 := 14) (la := la) (lw := lw) (bk := bk) (c := c) (c2 := ((c.1.1, 0, nI q9), c.2)) (by decide) ⟨⟨Nat.zero_le _, T, gT⟩, g.2⟩ (c_L_work_k hst (c_K_workL hst hC hL hW gl gr kt1 gT kt2 gt6 hA o2 (by omega) n bn1 bn2 hpc hlt hr) hC.K0 (fun r h9 e => ⟨e.1, (e.2.1.2.1 72).trans o1⟩)) (fun h1 q1 => ?_) (fun h1 m1 => ?_)
      · obtain ⟨-, q, hV, t2, t3⟩ := q1
        exact hrd h1 _ _ q (fun a e => by
          have e2 : a = 24 ∨ a = 25 ∨ a = 26 ∨ a = 27 := e
          omega) hV t2 t3
      · obtain ⟨bd, hbd⟩ := m1.2.1.2.2.2
        exact cc_post (fun r h2 e => ⟨e.1, MR.rd m1 e.2.1 e.2.2.2.1 e.2.2.2.2, e.2.2.1⟩) (c_M_work_l hst m1.1 m1.2.1.1 gT m1.2.1.2.1 gt6 hbd n bn1 bn2 m1.2.2.2.2.2.1.1 hlt m1.2.2.1.1 h6 W hr)
    · have hwf := (wkS_O (np := c.2.1.1) (n := n) (T := T) (W := (0, W.2.1, W.2.2.1, W.2.2.2.1, W.2.2.2.2)) rfl).2 b9 V9 hr
      have hrow := pfK_ok h6 c.2.2.1.1 c.2.2.1.2.1 c.2.2.1.2.2 (by omega) hwf.2.2 gr gz
      have hcK := c_K_workR (l := l) (Z := Z) hst hC hL hW gl gr kt1 gT kt2 gt6 hA o2 (by omega) n bn1 bn2 hpc hlt hr
      have hcM : ∀ h1, MG h1 c → ∃ bd : Int32, hp_F h1 46 6 = .int bd := fun h1 m1 => m1.2.1.2.2.2
      have hcM2 := fun (h1 : PH) (m1 : MG h1 c) (bd : Int32) (hbd : hp_F h1 46 6 = .int bd) => c_M_work_r (l := l) (Z := Z) hst m1.1 m1.2.1.1 gT m1.2.1.2.1 gt6 hbd n bn1 bn2 m1.2.2.2.2.2.1.1 hlt m1.2.2.1.1 h6 W m1.2.2.2.1 gl m1.2.2.1.2.2 rfl gr hr
      generalize pfK V9 (onX c.2.2.1.1 c.2.2.1.2.1 c.2.2.1.2.2 V9) 6 0 V9.1 (0, 0, 0, c.2.1.2.2) = x9 at hrow hcK hcM2
      refine StW.st (v := nI x9.2.1) (d1 := 28) (mc1 := 2) (ms1 := 193) (d2 := 14) (la := la) (lw := lw) (bk := bk) (c := c) (c2 := ((c.1.1, 0, -1), (c.2.1.1, c.2.1.2.1, x9.2.2.2), c.2.2.1, c.2.2.2.1, (c.2.1.2.2 :: c.2.2.2.2.1.1, c.2.2.2.2.1.2), (nI x9.2.2.1, c.2.2.2.2.2.2))) (by decide) ⟨⟨Nat.zero_le _, T, gT⟩, hrow, gl, gb, by show c.2.2.2.2.1.1.length + 1 ≤ 16; omega, fun y hy => ?_, gi, gis⟩ (c_L_work_k hst hcK hC.K0 (fun r h9 e => ⟨e.1, (e.2.2.1.2.1 72 o2).trans o1⟩)) (fun h1 q1 => ?_) (fun h1 m1 => ?_)
      · rcases List.mem_cons.mp hy with rfl | hy
        · exact gr
        · exact gps y hy
      · obtain ⟨-, q⟩ := q1
        have n1 : hp_N h1 = hp_N h + 2 := q.1
        refine ⟨kg.work o2 q, mg.fr (q.2.1.mono (fun a e => Or.inr (Or.inl ?_)) (fun a j e => Or.inr (Or.inl ?_))) o2, (q.2.1.2.1 72 o2).trans o1, by omega, by omega⟩
        · rcases e with e | e
          · have e2 : a = 24 ∨ a = 25 ∨ a = 26 ∨ a = 27 := e
            omega
          · have e2 : a = la + 1 ∨ a = lw + 3 ∨ a = lw + 4 := e
            omega
        · rcases e with e | e | e
          · have e2 : (a = 1 ∧ 1 ≤ j) ∨ (a = 23 ∧ j = 4) := e
            omega
          · have e2 : a = 23 ∧ (j = 5 ∨ j = 6 ∨ j = 7) := e
            omega
          · have e2 : a = 0 ∧ (j = 8 ∨ j = 11) := e
            omega
      · obtain ⟨bd, hbd⟩ := hcM h1 m1
        refine cc_post (fun r h2 e => ?_) (hcM2 h1 m1 bd hbd)
        obtain ⟨e0, q, i1, i2, e5, e7, t0, t2, ft⟩ := e
        exact ⟨e0, MR.work m1 q i1 i2 e5 e7 t2 ft, t0⟩
