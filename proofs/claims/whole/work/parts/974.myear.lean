/-- in the midst of the reference's year -/
def MY (m sz : Nat) (kf vf g : Nat → Int32) (s : Int32) (dn : Nat) (mt : Nat → Int32) (h hq : PH) : Prop := MI m sz kf vf g h hq ∧ hp_F hq m 48 = .int s ∧ hp_F hq m 49 = .int (nI dn) ∧ ∀ i, i < 61 → hp_I hq (m + 24) i = mt i
theorem MI.sF {m sz j : Nat} {kf vf g : Nat → Int32} {h h2 : PH} {v : Value} (hi : MI m sz kf vf g h h2) (hj : SY m m j) (h0 : j ≠ 0) (h1 : ∀ q ∈ modT, q.1 ≠ j) (h5 : j ≠ 23) : MI m sz kf vf g h (hp_sF h2 m j v) :=
  ⟨hi.1.sF h1, ⟨hp_F_nj (Ne.symm h5) hi.2.1.1, hi.2.1.2⟩, hi.2.2.1, hi.2.2.2.1.sF hj, hp_F_nj (Ne.symm h0) hi.2.2.2.2⟩
theorem MI.sI {m sz c : Nat} {kf vf g gx : Nat → Int32} {h h2 : PH} (hi : MI m sz kf vf g h h2) (hj : SX m c) (h1 : c ≠ m + 15) (h5 : c ≠ m + 8) (h6 : c ≠ m + 9) : MI m sz kf vf g h (hp_sI h2 c gx) :=
  ⟨hi.1.sI, hi.2.1.same (X := fun x => x = c) (Y := fun _ _ => False) (Same.rf.sI (by exact rfl)) (fun e => h5 e.symm) (fun e => h6 e.symm) (fun e => e), (hp_I_ne (Ne.symm h1)).trans hi.2.2.1, hi.2.2.2.1.sI hj, hi.2.2.2.2⟩
theorem MY.seed {m sz dn : Nat} {kf vf g mt : Nat → Int32} {s s' : Int32} {h hq : PH} (hy : MY m sz kf vf g s dn mt h hq) : MY m sz kf vf g s' dn mt h (hp_sF hq m 48 (.int s')) :=
  ⟨hy.1.sF (SY48 m) (by decide) (by decide) (by decide), hp_F_eq _ _ _ _, hp_F_nj (by decide) hy.2.2.1, hy.2.2.2⟩
theorem MY.row {m sz dn : Nat} {kf vf g g2 mt : Nat → Int32} {s : Int32} {h hq h3 : PH} (hy : MY m sz kf vf g s dn mt h hq) (hm : MI m sz kf vf g2 h h3) (hS : Same (fun c => c = m + 10 ∨ c = m + 11 ∨ c = m + 15) (fun _ _ => False) hq h3) : MY m sz kf vf g2 s dn mt h h3 :=
  ⟨hm, (hS.2.2.1 _ _ (fun e => e)).trans hy.2.1, (hS.2.2.1 _ _ (fun e => e)).trans hy.2.2.1, fun i hi => by rw [hS.2.2.2.1 _ (by omega)]; exact hy.2.2.2 i hi⟩
theorem MY.met {m sz dn dn' n : Nat} {kf vf g mt : Nat → Int32} {s : Int32} {h hq : PH} (hy : MY m sz kf vf g s dn mt h hq) (hn : n < 61) : MY m sz kf vf g s dn' (upd mt n (nI 1)) h (hp_sI (hp_sF hq m 49 (.int (nI dn'))) (m + 24) (upd (hp_I hq (m + 24)) n (nI 1))) :=
  ⟨(hy.1.sF (SY49 m) (by decide) (by decide) (by decide)).sI (SX24 m) (by omega) (by omega) (by omega), hp_F_sI (hp_F_nj (by decide) hy.2.1), hp_F_sI (hp_F_eq _ _ _ _), fun i hi => by
    rw [hp_I_eq]
    by_cases e : i = n
    · subst e; rw [pk_us, pk_us]
    · rw [pk_un e, pk_un e]; exact hy.2.2.2 i hi⟩
theorem c_M_usesY {l : Launch} {Z : EE} (hst : l.stackTraces = false) {h h2 : PH} {m sz : Nat} {kf vf : Nat → Int32} (hok : LawOK kf vf sz) {np : Nat} (h0 : 0 < np) (h6 : np ≤ 6) {x : YS} (hi : MI m sz kf vf x.1 h h2) (hu : RowU x.1 np) (q n w : Nat) (eq : q = drN (sdI x.2.1) % np) (en : n = yN x.2.1) (ew : w = drN (sdI (sdI (sdI x.2.1))) % 3) : CC l Z m_X11_uses 5 0 0 [.ref m, .int (nI q), .int (nI n), .int (nI w)] h2 (RQ (some (.int (bI (yU sz kf vf np x).1))) (fun h9 => MI m sz kf vf (yU sz kf vf np x).2 h h9 ∧ Same (fun c => c = m + 10 ∨ c = m + 11 ∨ c = m + 15) (fun _ _ => False) h2 h9)) := by
  have hq : q < np := by rw [eq]; exact Nat.mod_lt _ h0
  have hn : n < 61 := by rw [en]; unfold yN; exact Nat.mod_lt _ (by decide)
  have hw : w < 3 := by rw [ew]; exact Nat.mod_lt _ (by decide)
  have e : yU sz kf vf np x = useF x.1 q n (fareC x.1 sz kf vf n w) := by unfold yU; rw [← eq, ← en, ← ew]
  rw [e]
  exact cc_post (fun r h9 hp => ⟨hp.1, hi.row hp.2.1 hp.2.2, hp.2.1⟩) (c_M_uses hst hi.1 hi.2.1 hok hi.2.2.1 q n (by omega) (by omega) w (by omega) (hu.ow h6 (by omega)) (hu.2 _ (by omega)))
theorem MY.t1 {m sz np n : Nat} {kf vf : Nat → Int32} {x : YS} {s3 : Int32} {h hq : PH} (en : n = yN x.2.1) (es : s3 = sdI (sdI (sdI x.2.1))) (hc : (yU sz kf vf np x).1 = true) (hy : MY m sz kf vf (yU sz kf vf np x).2 s3 (x.2.2.1 + 1) (upd x.2.2.2 n (nI 1)) h hq) : MY m sz kf vf (yT sz kf vf np x).1 (yT sz kf vf np x).2.1 (yT sz kf vf np x).2.2.1 (yT sz kf vf np x).2.2.2 h hq := by
  have e : yT sz kf vf np x = ((yU sz kf vf np x).2, s3, x.2.2.1 + 1, upd x.2.2.2 n (nI 1)) := by unfold yT; rw [if_pos hc, if_pos hc, ← es, ← en]
  rw [e]; exact hy
theorem MY.t0 {m sz np : Nat} {kf vf : Nat → Int32} {x : YS} {s3 : Int32} {h hq : PH} (es : s3 = sdI (sdI (sdI x.2.1))) (hc : (yU sz kf vf np x).1 = false) (hy : MY m sz kf vf (yU sz kf vf np x).2 s3 x.2.2.1 x.2.2.2 h hq) : MY m sz kf vf (yT sz kf vf np x).1 (yT sz kf vf np x).2.1 (yT sz kf vf np x).2.2.1 (yT sz kf vf np x).2.2.2 h hq := by
  have e : yT sz kf vf np x = ((yU sz kf vf np x).2, s3, x.2.2.1, x.2.2.2) := by unfold yT; rw [if_neg (by rw [hc]; decide), if_neg (by rw [hc]; decide), ← es]
  rw [e]; exact hy
set_option maxHeartbeats 4000000 in
set_option maxRecDepth 100000 in
theorem c_M_drawsE {l : Launch} {Z : EE} (hst : l.stackTraces = false) {h : PH} {m : Nat} (hM : ModS h m) {s : Int32} (hs : hp_F h m 48 = .int s) (b : Nat) (hb : 0 < b) (hb9 : b ≤ 61) : CC l Z m_X11_draws 0 0 0 [.ref m, .int (nI b)] h (RT (some (.int (nI (drN (sdI s) % b)))) (hp_sF h m 48 (.int (sdI s)))) := by
  refine ee_entry hst (by decide +kernel) rfl rfl (by simp [Value.category]) (Nat.le_of_ble_eq_true rfl) ?_
  refine ww_lv (lv2 := [.ref m, .int (nI b)]) rfl ?_
  refine ww_aload_n dX11_draws_0 rfl rfl ?_
  refine ww_aload_n dX11_draws_1 rfl rfl ?_
  refine ww_get 48 dX11_draws_2 hM.K0 rfl (by decide) inX11 wg_1288 hs ?_
  refine ww_ldcw (v := nI 1103515245) dX11_draws_5 wg_1771 ?_
  refine ww_imul dX11_draws_8 ?_
  refine ww_sipush (v := nI 12345) dX11_draws_9 (by decide) ?_
  refine ww_iadd dX11_draws_12 ?_
  refine ww_pfI tyX11 48 dX11_draws_13 hM.K0 rfl (by decide) inX11 tyX11_ok nmX11 wg_1288 rfl rfl ?_
  refine ww_aload_n dX11_draws_16 rfl rfl ?_
  refine ww_get 48 dX11_draws_17 hM.K0 rfl (by decide) inX11 wg_1288 (hp_F_eq _ _ _ _) ?_
  refine ww_bipush (v := nI 16) dX11_draws_20 (by decide) ?_
  refine ww_ishr dX11_draws_22 ?_
  refine ww_sipush (v := nI 32767) dX11_draws_23 (by decide) ?_
  refine ww_iand dX11_draws_26 ?_
  refine ww_sk (st2 := [.int (nI (drN (sdI s)))]) (by rw [show s * nI 1103515245 + nI 12345 = sdI s from rfl, dr_s]) ?_
  have hd9 := drN_lt (sdI s)
  refine ww_iload_n dX11_draws_27 rfl rfl ?_
  refine ww_iremN dX11_draws_28 (by omega) (by omega) (by omega) ?_
  exact ww_iret dX11_draws_29 rfl ⟨rfl, rfl⟩
theorem c_M_draws {l : Launch} {Z : EE} (hst : l.stackTraces = false) {h : PH} {m : Nat} (hM : ModS h m) {s s2 : Int32} (hs : hp_F h m 48 = .int s) (es : s2 = sdI s) (b r : Nat) (hb : 0 < b) (hb9 : b ≤ 61) (er : r = drN s2 % b) : CC l Z m_X11_draws 0 0 0 [.ref m, .int (nI b)] h (RT (some (.int (nI r))) (hp_sF h m 48 (.int s2))) := by
  rw [er, es]
  exact c_M_drawsE hst hM hs b hb hb9
set_option maxHeartbeats 4000000 in
set_option maxRecDepth 100000 in
theorem l_M_year {l : Launch} {Z : EE} (hst : l.stackTraces = false) {h : PH} {m : Nat} {np : Nat} (hnp : hp_F h m 15 = .int (nI np)) (h6 : np ≤ 6) {sz : Nat} {kf vf : Nat → Int32} (hok : LawOK kf vf sz) {g0 : Nat → Int32} (sd : Int32) (us : Nat) (hus : us ≤ 96) (h0 : 0 < np) (hu : RowU g0 np) : ∀ (j k : Nat) (hq : PH), MY m sz kf vf (yF sz kf vf np g0 sd k).1 (yF sz kf vf np g0 sd k).2.1 (yF sz kf vf np g0 sd k).2.2.1 (yF sz kf vf np g0 sd k).2.2.2 h hq → k + j = us → WW l Z m_X11_yearGoes 6 0 0 37 [.ref m, .int sd, .int (nI us), .int (nI (k + 1)), UU, UU] [] hq (RQ none (fun h9 => MY m sz kf vf (yF sz kf vf np g0 sd us).1 (yF sz kf vf np g0 sd us).2.1 (yF sz kf vf np g0 sd us).2.2.1 (yF sz kf vf np g0 sd us).2.2.2 h h9)) := by
  intro j
  induction j with
  | zero =>
    intro k hq hy hk
    have hk0 : k = us := by omega
    subst hk0
    have hd9 := yF_dn sz kf vf np g0 sd k
    refine ww_iload_n dX11_yearGoes_37 rfl rfl ?_
    refine ww_iload_n dX11_yearGoes_38 rfl rfl ?_
    refine ww_icmp_gtN (tgt := 118) dX11_yearGoes_39 (by decide) (by omega) (by omega) (fun c39 => ?_) (fun c39 => ?_)
    · exact ww_vret dX11_yearGoes_118 rfl ⟨rfl, hy⟩
    · exfalso; omega
  | succ j ih =>
    intro k hq hy hk
    have hd9 := yF_dn sz kf vf np g0 sd k
    have hu9 := yF_u sz kf vf sd h0 h6 hu k
    generalize hxk : yF sz kf vf np g0 sd k = x at hy hd9 hu9
    obtain ⟨s1, e1⟩ : ∃ s1, s1 = sdI x.2.1 := ⟨_, rfl⟩
    obtain ⟨s2, e2⟩ : ∃ s2, s2 = sdI s1 := ⟨_, rfl⟩
    obtain ⟨s3, e3⟩ : ∃ s3, s3 = sdI s2 := ⟨_, rfl⟩
    obtain ⟨pn, ep⟩ : ∃ pn, pn = drN s1 % np := ⟨_, rfl⟩
    obtain ⟨nn, en⟩ : ∃ nn, nn = drN s2 % 61 := ⟨_, rfl⟩
    obtain ⟨wn, ew⟩ : ∃ wn, wn = drN s3 % 3 := ⟨_, rfl⟩
    have hp9 : pn < np := by rw [ep]; exact Nat.mod_lt _ h0
    have hn9 : nn < 61 := by rw [en]; exact Nat.mod_lt _ (by decide)
    have hw9 : wn < 3 := by rw [ew]; exact Nat.mod_lt _ (by decide)
    have es3 : s3 = sdI (sdI (sdI x.2.1)) := by rw [e3, e2, e1]
    have eyn : nn = yN x.2.1 := by unfold yN; rw [en, e2, e1]
    refine ww_iload_n dX11_yearGoes_37 rfl rfl ?_
    refine ww_iload_n dX11_yearGoes_38 rfl rfl ?_
    refine ww_icmp_gtN (tgt := 118) dX11_yearGoes_39 (by decide) (by omega) (by omega) (fun c39 => ?_) (fun c39 => ?_)
    · exfalso; omega
    · refine ww_aload_n dX11_yearGoes_42 rfl rfl ?_
      refine ww_get 15 dX11_yearGoes_43 hy.1.1.K0 rfl (by decide) inX11 wg_1255 ((hy.1.2.2.2.1.2.2.1 m 15 (SY_no (by decide))).trans hnp) ?_
      refine ww_if_leN (tgt := 118) dX11_yearGoes_46 (by decide) (by omega) (fun c46 => ?_) (fun c46 => ?_)
      · exfalso; omega
      · refine ww_aload_n dX11_yearGoes_49 rfl rfl ?_
        refine ww_aload_n dX11_yearGoes_50 rfl rfl ?_
        refine ww_get 15 dX11_yearGoes_51 hy.1.1.K0 rfl (by decide) inX11 wg_1255 ((hy.1.2.2.2.1.2.2.1 m 15 (SY_no (by decide))).trans hnp) ?_
        refine ww_cVr (M := m_X11_yearGoes) (pc := 54) (v := .int (nI pn)) (h1 := hp_sF (hq) m 48 (.int (s1))) (st := []) (d := 6) (bc := 0) (bs := 0) (c_M_draws hst (h := hq) hy.1.1 hy.2.1 e1 np pn (by omega) (by omega) ep) vv_X11_draws dX11_yearGoes_54 wg_1767 hy.1.1.K0 rfl rfl rfl rfl (Nat.le_of_ble_eq_true rfl) (Nat.le_of_ble_eq_true rfl) (Nat.le_of_ble_eq_true rfl) (Nat.le_of_ble_eq_true rfl) ?_
        refine ww_sti (lv2 := [.ref m, .int sd, .int (nI us), .int (nI (k + 1)), .int (nI pn), UU]) dX11_yearGoes_57 rfl (by decide) rfl ?_
        refine ww_aload_n dX11_yearGoes_59 rfl rfl ?_
        refine ww_bipush (v := nI 61) dX11_yearGoes_60 (by decide) ?_
        refine ww_cVr (M := m_X11_yearGoes) (pc := 62) (v := .int (nI nn)) (h1 := hp_sF (hp_sF (hq) m 48 (.int (s1))) m 48 (.int (s2))) (st := []) (d := 6) (bc := 0) (bs := 0) (c_M_draws hst (h := hp_sF (hq) m 48 (.int (s1))) (hy.1.1.sF (by decide)) (hp_F_eq _ _ _ _) e2 61 nn (by omega) (by omega) en) vv_X11_draws dX11_yearGoes_62 wg_1767 hy.1.1.K0 rfl rfl rfl rfl (Nat.le_of_ble_eq_true rfl) (Nat.le_of_ble_eq_true rfl) (Nat.le_of_ble_eq_true rfl) (Nat.le_of_ble_eq_true rfl) ?_
        refine ww_sti (lv2 := [.ref m, .int sd, .int (nI us), .int (nI (k + 1)), .int (nI pn), .int (nI nn)]) dX11_yearGoes_65 rfl (by decide) rfl ?_
        refine ww_aload_n dX11_yearGoes_67 rfl rfl ?_
        refine ww_iload dX11_yearGoes_68 rfl ?_
        refine ww_iload dX11_yearGoes_70 rfl ?_
        refine ww_aload_n dX11_yearGoes_72 rfl rfl ?_
        refine ww_iconst (v := nI 3) dX11_yearGoes_73 (by decide) ?_
        refine ww_cVr (M := m_X11_yearGoes) (pc := 74) (v := .int (nI wn)) (h1 := hp_sF (hp_sF (hp_sF (hq) m 48 (.int (s1))) m 48 (.int (s2))) m 48 (.int (s3))) (st := [.int (nI nn), .int (nI pn), .ref m]) (d := 6) (bc := 0) (bs := 0) (c_M_draws hst (h := hp_sF (hp_sF (hq) m 48 (.int (s1))) m 48 (.int (s2))) ((hy.1.1.sF (by decide)).sF (by decide)) (hp_F_eq _ _ _ _) e3 3 wn (by omega) (by omega) ew) vv_X11_draws dX11_yearGoes_74 wg_1767 hy.1.1.K0 rfl rfl rfl rfl (Nat.le_of_ble_eq_true rfl) (Nat.le_of_ble_eq_true rfl) (Nat.le_of_ble_eq_true rfl) (Nat.le_of_ble_eq_true rfl) ?_
        have hy1 := ((hy.seed (s' := s1)).seed (s' := s2)).seed (s' := s3)
        generalize hp_sF (hp_sF (hp_sF (hq) m 48 (.int (s1))) m 48 (.int (s2))) m 48 (.int (s3)) = hq1 at hy1 ⊢
        refine ww_cVq (M := m_X11_yearGoes) (pc := 77) (v := .int (bI ((yU sz kf vf np x).1))) (st := []) (d := 6) (bc := 0) (bs := 0) (c_M_usesY hst hok h0 h6 hy1.1 hu9 pn nn wn (by rw [ep, e1]) eyn (by rw [ew, es3])) vv_X11_uses dX11_yearGoes_77 wg_1551 hy1.1.1.K0 rfl rfl rfl rfl (Nat.le_of_ble_eq_true rfl) (Nat.le_of_ble_eq_true rfl) (Nat.le_of_ble_eq_true rfl) (Nat.le_of_ble_eq_true rfl) (fun hq2 qq2 => ?_)
        have hy2 := hy1.row qq2.1 qq2.2
        refine ww_if_eqB (tgt := 101) dX11_yearGoes_80 (by decide) (fun c80 => ?_) (fun c80 => ?_)
        · have hy3 : MY m sz kf vf (yT sz kf vf np x).1 (yT sz kf vf np x).2.1 (yT sz kf vf np x).2.2.1 (yT sz kf vf np x).2.2.2 h hq2 := MY.t0 es3 c80 hy2
          refine ww_iload_n dX11_yearGoes_101 rfl rfl ?_
          refine ww_bipush (v := nI 8) dX11_yearGoes_102 (by decide) ?_
          refine ww_iremN dX11_yearGoes_104 (by omega) (by omega) (by omega) ?_
          refine ww_if_neN (tgt := 112) dX11_yearGoes_105 (by decide) (by omega) (fun c105 => ?_) (fun c105 => ?_)
          · refine ww_incN (c := 1) (lv2 := [.ref m, .int sd, .int (nI us), .int (nI (k + 1 + 1)), .int (nI pn), .int (nI nn)]) dX11_yearGoes_112 rfl rfl rfl (by decide) rfl ?_
            refine ww_goto (tgt := 37) dX11_yearGoes_115 (by decide) ?_
            refine ww_fg (lv2 := [.ref m, .int sd, .int (nI us), .int (nI (k + 1 + 1)), UU, UU]) ⟨Or.inr rfl, Or.inr rfl, Or.inr rfl, Or.inr rfl, Or.inl rfl, Or.inl rfl, trivial⟩ ?_
            refine ih (k + 1) _ ?_ (by omega)
            rw [yF_s1 (by omega), hxk]
            exact hy3
          · refine ww_aload_n dX11_yearGoes_108 rfl rfl ?_
            refine ww_cV0 (M := m_X11_yearGoes) (pc := 109) (h1 := hp_sI hq2 (m + 15) (dayF (yT sz kf vf np x).1)) (st := []) (d := 6) (bc := 0) (bs := 0) (c_M_passes hst hy3.1.1 hy3.1.2.2.1) vv_X11_passes dX11_yearGoes_109 wg_1585 hy3.1.1.K0 rfl rfl rfl rfl (Nat.le_of_ble_eq_true rfl) (Nat.le_of_ble_eq_true rfl) (Nat.le_of_ble_eq_true rfl) (Nat.le_of_ble_eq_true rfl) ?_
            refine ww_incN (c := 1) (lv2 := [.ref m, .int sd, .int (nI us), .int (nI (k + 1 + 1)), .int (nI pn), .int (nI nn)]) dX11_yearGoes_112 rfl rfl rfl (by decide) rfl ?_
            refine ww_goto (tgt := 37) dX11_yearGoes_115 (by decide) ?_
            refine ww_fg (lv2 := [.ref m, .int sd, .int (nI us), .int (nI (k + 1 + 1)), UU, UU]) ⟨Or.inr rfl, Or.inr rfl, Or.inr rfl, Or.inr rfl, Or.inl rfl, Or.inl rfl, trivial⟩ ?_
            refine ih (k + 1) _ ?_ (by omega)
            rw [yF_s2 (by omega), hxk]
            exact hy3.row (hy3.1.row (Same.rf.sI (by exact Or.inr (Or.inr rfl))) (hp_I_eq _ _ _)) (Same.rf.sI (by exact Or.inr (Or.inr rfl)))
        · refine ww_aload_n dX11_yearGoes_83 rfl rfl ?_
          refine ww_dup dX11_yearGoes_84 rfl ?_
          refine ww_get 49 dX11_yearGoes_85 hy2.1.1.K0 rfl (by decide) inX11 wg_1289 hy2.2.2.1 ?_
          refine ww_iconst (v := nI 1) dX11_yearGoes_88 (by decide) ?_
          refine ww_iaddN dX11_yearGoes_89 ?_
          refine ww_pfI tyX11 49 dX11_yearGoes_90 hy2.1.1.K0 rfl (by decide) inX11 tyX11_ok nmX11 wg_1289 rfl rfl ?_
          refine ww_aload_n dX11_yearGoes_93 rfl rfl ?_
          refine ww_get 50 dX11_yearGoes_94 hy2.1.1.K0 rfl (by decide) inX11 wg_1290 (hp_F_nj (by decide) hy2.1.1.F24) ?_
          refine ww_iload dX11_yearGoes_97 rfl ?_
          refine ww_iconst (v := nI 1) dX11_yearGoes_99 (by decide) ?_
          refine ww_zastF dX11_yearGoes_100 hy2.1.1.K24 rfl (by omega) (by omega) (by decide) ?_
          refine ww_hp (h2 := hp_sI (hp_sF hq2 m 49 (.int (nI (x.2.2.1 + 1)))) (m + 24) (upd (hp_I hq2 (m + 24)) nn (nI 1))) rfl ?_
          have hy3 : MY m sz kf vf (yT sz kf vf np x).1 (yT sz kf vf np x).2.1 (yT sz kf vf np x).2.2.1 (yT sz kf vf np x).2.2.2 h (hp_sI (hp_sF hq2 m 49 (.int (nI (x.2.2.1 + 1)))) (m + 24) (upd (hp_I hq2 (m + 24)) nn (nI 1))) := MY.t1 eyn es3 c80 (hy2.met (dn' := x.2.2.1 + 1) hn9)
          generalize hp_sI (hp_sF hq2 m 49 (.int (nI (x.2.2.1 + 1)))) (m + 24) (upd (hp_I hq2 (m + 24)) nn (nI 1)) = hq3 at hy3 ⊢
          refine ww_iload_n dX11_yearGoes_101 rfl rfl ?_
          refine ww_bipush (v := nI 8) dX11_yearGoes_102 (by decide) ?_
          refine ww_iremN dX11_yearGoes_104 (by omega) (by omega) (by omega) ?_
          refine ww_if_neN (tgt := 112) dX11_yearGoes_105 (by decide) (by omega) (fun c105 => ?_) (fun c105 => ?_)
          · refine ww_incN (c := 1) (lv2 := [.ref m, .int sd, .int (nI us), .int (nI (k + 1 + 1)), .int (nI pn), .int (nI nn)]) dX11_yearGoes_112 rfl rfl rfl (by decide) rfl ?_
            refine ww_goto (tgt := 37) dX11_yearGoes_115 (by decide) ?_
            refine ww_fg (lv2 := [.ref m, .int sd, .int (nI us), .int (nI (k + 1 + 1)), UU, UU]) ⟨Or.inr rfl, Or.inr rfl, Or.inr rfl, Or.inr rfl, Or.inl rfl, Or.inl rfl, trivial⟩ ?_
            refine ih (k + 1) _ ?_ (by omega)
            rw [yF_s1 (by omega), hxk]
            exact hy3
          · refine ww_aload_n dX11_yearGoes_108 rfl rfl ?_
            refine ww_cV0 (M := m_X11_yearGoes) (pc := 109) (h1 := hp_sI hq3 (m + 15) (dayF (yT sz kf vf np x).1)) (st := []) (d := 6) (bc := 0) (bs := 0) (c_M_passes hst hy3.1.1 hy3.1.2.2.1) vv_X11_passes dX11_yearGoes_109 wg_1585 hy3.1.1.K0 rfl rfl rfl rfl (Nat.le_of_ble_eq_true rfl) (Nat.le_of_ble_eq_true rfl) (Nat.le_of_ble_eq_true rfl) (Nat.le_of_ble_eq_true rfl) ?_
            refine ww_incN (c := 1) (lv2 := [.ref m, .int sd, .int (nI us), .int (nI (k + 1 + 1)), .int (nI pn), .int (nI nn)]) dX11_yearGoes_112 rfl rfl rfl (by decide) rfl ?_
            refine ww_goto (tgt := 37) dX11_yearGoes_115 (by decide) ?_
            refine ww_fg (lv2 := [.ref m, .int sd, .int (nI us), .int (nI (k + 1 + 1)), UU, UU]) ⟨Or.inr rfl, Or.inr rfl, Or.inr rfl, Or.inr rfl, Or.inl rfl, Or.inl rfl, trivial⟩ ?_
            refine ih (k + 1) _ ?_ (by omega)
            rw [yF_s2 (by omega), hxk]
            exact hy3.row (hy3.1.row (Same.rf.sI (by exact Or.inr (Or.inr rfl))) (hp_I_eq _ _ _)) (Same.rf.sI (by exact Or.inr (Or.inr rfl)))
set_option maxHeartbeats 4000000 in
set_option maxRecDepth 100000 in
theorem l_M_yclear {l : Launch} {Z : EE} (hst : l.stackTraces = false) {h : PH} {m sz : Nat} {kf vf g : Nat → Int32} (sd : Int32) (us : Nat) {Post : Res → PH → Prop} : ∀ (j k : Nat) (hq : PH), MI m sz kf vf g h hq → k + j = 61 → hp_F hq m 48 = .int sd → hp_F hq m 49 = .int (nI 0) → (∀ i, i < k → hp_I hq (m + 24) i = nI 0) → (∀ h9, MY m sz kf vf g sd 0 (fun _ => 0) h h9 → WW l Z m_X11_yearGoes 6 0 0 35 [.ref m, .int sd, .int (nI us), .int (nI 61), UU, UU] [] h9 Post) → WW l Z m_X11_yearGoes 6 0 0 16 [.ref m, .int sd, .int (nI us), .int (nI k), UU, UU] [] hq Post := by
  intro j
  induction j with
  | zero =>
    intro k hq hi hk f1 f2 hz hex
    have hk0 : k = 61 := by omega
    subst hk0
    refine ww_iload_n dX11_yearGoes_16 rfl rfl ?_
    refine ww_bipush (v := nI 61) dX11_yearGoes_17 (by decide) ?_
    refine ww_icmp_geN (tgt := 35) dX11_yearGoes_19 (by decide) (by omega) (by omega) (fun c19 => ?_) (fun c19 => ?_)
    · exact hex hq ⟨hi, f1, f2, hz⟩
    · exfalso; omega
  | succ j ih =>
    intro k hq hi hk f1 f2 hz hex
    refine ww_iload_n dX11_yearGoes_16 rfl rfl ?_
    refine ww_bipush (v := nI 61) dX11_yearGoes_17 (by decide) ?_
    refine ww_icmp_geN (tgt := 35) dX11_yearGoes_19 (by decide) (by omega) (by omega) (fun c19 => ?_) (fun c19 => ?_)
    · exfalso; omega
    · refine ww_aload_n dX11_yearGoes_22 rfl rfl ?_
      refine ww_get 50 dX11_yearGoes_23 hi.1.K0 rfl (by decide) inX11 wg_1290 hi.1.F24 ?_
      refine ww_iload_n dX11_yearGoes_26 rfl rfl ?_
      refine ww_iconst (v := nI 0) dX11_yearGoes_27 (by decide) ?_
      refine ww_zastF dX11_yearGoes_28 hi.1.K24 rfl (by omega) (by omega) (by decide) ?_
      refine ww_incN (c := 1) (lv2 := [.ref m, .int sd, .int (nI us), .int (nI (k + 1)), UU, UU]) dX11_yearGoes_29 rfl rfl rfl (by decide) rfl ?_
      refine ww_goto (tgt := 16) dX11_yearGoes_32 (by decide) ?_
      refine ih (k + 1) _ (hi.sI (SX24 m) (by omega) (by omega) (by omega)) (by omega) f1 f2 (fun i h9 => ?_) hex
      rw [hp_I_eq]
      by_cases e : i = k
      · subst e; exact pk_us
      · rw [pk_un e]; exact hz i (by omega)
def MYD (m sz : Nat) (kf vf : Nat → Int32) (x : YS) (h h9 : PH) : Prop := ∃ g', EqR g' x.1 ∧ MY m sz kf vf g' x.2.1 x.2.2.1 x.2.2.2 h h9
set_option maxHeartbeats 4000000 in
set_option maxRecDepth 100000 in
theorem c_M_yearGoes {l : Launch} {Z : EE} (hst : l.stackTraces = false) {h : PH} {m : Nat} {np : Nat} (hnp : hp_F h m 15 = .int (nI np)) (h6 : np ≤ 6) {sz : Nat} {kf vf : Nat → Int32} (hok : LawOK kf vf sz) {f g : Nat → Int32} (hf : hp_I h (m + 14) = f) (hu : RowU f np) {hq : PH} (hi : MI m sz kf vf g h hq) (sd : Int32) (us : Nat) (lus : 1 ≤ us) (hus : us ≤ 96) : CC l Z m_X11_yearGoes 6 0 0 [.ref m, .int sd, .int (nI us)] hq (RQ none (MYD m sz kf vf (yE sz kf vf np f sd us) h)) := by
  refine ee_entry hst (by decide +kernel) rfl rfl (by simp [Value.category]) (Nat.le_of_ble_eq_true rfl) ?_
  refine ww_lv (lv2 := [.ref m, .int sd, .int (nI us), UU, UU, UU]) rfl ?_
  have hfq : hp_I hq (m + 14) = f := (hi.2.2.2.1.2.2.2.1 _ (SX_no (by decide))).trans hf
  have he : EqR (cpF f g 190) f := fun i h9 => cpF_in h9
  refine ww_aload_n dX11_yearGoes_0 rfl rfl ?_
  refine ww_cV0 (M := m_X11_yearGoes) (pc := 1) (h1 := hp_sI hq (m + 15) (cpF f g 190)) (st := []) (d := 6) (bc := 0) (bs := 0) (c_M_take hst hi.1 hfq hi.2.2.1) vv_X11_take dX11_yearGoes_1 wg_1539 hi.1.K0 rfl rfl rfl rfl (Nat.le_of_ble_eq_true rfl) (Nat.le_of_ble_eq_true rfl) (Nat.le_of_ble_eq_true rfl) (Nat.le_of_ble_eq_true rfl) ?_
  refine ww_aload_n dX11_yearGoes_4 rfl rfl ?_
  refine ww_iload_n dX11_yearGoes_5 rfl rfl ?_
  refine ww_pfI tyX11 48 dX11_yearGoes_6 hi.1.K0 rfl (by decide) inX11 tyX11_ok nmX11 wg_1288 rfl rfl ?_
  refine ww_aload_n dX11_yearGoes_9 rfl rfl ?_
  refine ww_iconst (v := nI 0) dX11_yearGoes_10 (by decide) ?_
  refine ww_pfI tyX11 49 dX11_yearGoes_11 hi.1.K0 rfl (by decide) inX11 tyX11_ok nmX11 wg_1289 rfl rfl ?_
  refine ww_iconst (v := nI 0) dX11_yearGoes_14 (by decide) ?_
  refine ww_sti_n (lv2 := [.ref m, .int sd, .int (nI us), .int (nI 0), UU, UU]) dX11_yearGoes_15 rfl rfl (by decide) rfl ?_
  have hi1 := ((hi.row (g2 := cpF f g 190) (Same.rf.sI (by exact Or.inr (Or.inr rfl))) (hp_I_eq _ _ _)).sF (v := .int sd) (SY48 m) (by decide) (by decide) (by decide)).sF (v := .int (nI 0)) (SY49 m) (by decide) (by decide) (by decide)
  have f1 : hp_F (hp_sF (hp_sF (hp_sI hq (m + 15) (cpF f g 190)) m 48 (.int sd)) m 49 (.int (nI 0))) m 48 = .int sd := hp_F_nj (by decide) (hp_F_eq _ _ _ _)
  have f2 : hp_F (hp_sF (hp_sF (hp_sI hq (m + 15) (cpF f g 190)) m 48 (.int sd)) m 49 (.int (nI 0))) m 49 = .int (nI 0) := hp_F_eq _ _ _ _
  generalize hp_sF (hp_sF (hp_sI hq (m + 15) (cpF f g 190)) m 48 (.int sd)) m 49 (.int (nI 0)) = hq1 at hi1 f1 f2 ⊢
  refine l_M_yclear hst sd us 61 0 hq1 hi1 rfl f1 f2 (fun i h9 => absurd h9 (Nat.not_lt_zero _)) (fun h9 hy => ?_)
  refine ww_iconst (v := nI 1) dX11_yearGoes_35 (by decide) ?_
  refine ww_sti_n (lv2 := [.ref m, .int sd, .int (nI us), .int (nI 1), UU, UU]) dX11_yearGoes_36 rfl rfl (by decide) rfl ?_
  rcases Nat.eq_zero_or_pos np with e0 | e0
  · subst e0
    refine ww_iload_n dX11_yearGoes_37 rfl rfl ?_
    refine ww_iload_n dX11_yearGoes_38 rfl rfl ?_
    refine ww_icmp_gtN (tgt := 118) dX11_yearGoes_39 (by decide) (by omega) (by omega) (fun c39 => ?_) (fun c39 => ?_)
    · exact ww_vret dX11_yearGoes_118 rfl ⟨rfl, _, he, by rw [show yE sz kf vf 0 f sd us = (f, sd, 0, fun _ => 0) from if_pos rfl]; exact hy⟩
    · refine ww_aload_n dX11_yearGoes_42 rfl rfl ?_
      refine ww_get 15 dX11_yearGoes_43 hy.1.1.K0 rfl (by decide) inX11 wg_1255 ((hy.1.2.2.2.1.2.2.1 m 15 (SY_no (by decide))).trans hnp) ?_
      refine ww_if_leN (tgt := 118) dX11_yearGoes_46 (by decide) (by omega) (fun c46 => ?_) (fun c46 => ?_)
      · exact ww_vret dX11_yearGoes_118 rfl ⟨rfl, _, he, by rw [show yE sz kf vf 0 f sd us = (f, sd, 0, fun _ => 0) from if_pos rfl]; exact hy⟩
      · exact absurd c46 (by decide)
  · refine ww_post (fun r h8 hp => ⟨hp.1, ?_⟩) (l_M_year hst hnp h6 hok sd us hus e0 (hu.cg he) us 0 h9 hy (by omega))
    obtain ⟨q1, q2⟩ := yF_eq sz kf vf sd e0 h6 (hu.cg he) he us
    rw [show yE sz kf vf np f sd us = yF sz kf vf np f sd us from if_neg (by omega)]
    unfold MYD
    rw [← q2]
    exact ⟨_, q1, hp.2⟩
