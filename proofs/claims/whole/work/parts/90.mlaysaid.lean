/-! ===== the reference lays what is said ===== -/
theorem MI.start2 {m sz : Nat} {kf vf f g : Nat → Int32} {h : PH} (hM : ModS h m) (hQ : LawM h m sz kf vf) (ht : hp_F h m 0 = .int (nI 0)) : MI m sz kf vf (cpF f g 190) h (hp_sI h (m + 15) (cpF f g 190)) :=
  have hS : Same (SX m) (SY m) h (hp_sI h (m + 15) (cpF f g 190)) := Same.rf.sI (SX15 m)
  ⟨hM, hQ.same hS (SX_no (by decide)) (SX_no (by decide)) (SY_no (by decide)), hp_I_eq _ _ _, hS, ht⟩
theorem MI.said {m sz : Nat} {kf vf g : Nat → Int32} {h h2 : PH} {x : Nat → Int64} (hi : MI m sz kf vf g h h2) : MI m sz kf vf g h (hp_sL h2 (m + 19) x) :=
  ⟨hi.1, hi.2.1, hi.2.2.1, hi.2.2.2.1.sL (SX19 m), hi.2.2.2.2⟩
theorem MI.sweep {m sz : Nat} {kf vf g : Nat → Int32} {h h2 h3 : PH} (hi : MI m sz kf vf g h h2) (hS : Same (saX m) (fun _ _ => False) h2 h3) : MI m sz kf vf g h h3 :=
  ⟨hi.1.sam hS, hi.2.1.same hS (by unfold saX; omega) (by unfold saX; omega) (fun e => e), (hS.2.2.2.1 _ (by unfold saX; omega)).trans hi.2.2.1, hi.2.2.2.1.tr (hS.mono (fun c hc => hc ▸ SX19 m) (fun _ _ e => e.elim)), (hS.2.2.1 _ _ (fun e => e)).trans hi.2.2.2.2⟩
theorem own_l {x : Nat} (hx : x ≤ 99) : 1000000 * (nI x).toInt64 + 1 = lI (1000000 * x + 1) := by
  rw [nI_long (by omega), show (1000000 : Int64) = lI 1000000 from rfl, lI_mul, show (1 : Int64) = lI 1 from rfl, lI_add]
theorem fareC_sy {f g9 : Nat → Int32} (hg9 : ∀ i, i < 190 → g9 i = f i) {sz : Nat} {kf vf : Nat → Int32} {k : Nat} (hk : k ≤ 60) : fareC g9 sz kf vf k 1 = nI (syO f sz kf vf k) := by
  rw [← fareT_in hk, fareT_eq hg9]; exact (fareTn_ok f sz kf vf k 1).1
def syL (f : Nat → Int32) (sz : Nat) (kf vf : Nat → Int32) (du n : Nat) : Nat := 1000000 * (syQ f sz kf vf du).1 n + (syQ f sz kf vf du).2 n
theorem sy_L {f : Nat → Int32} {sz : Nat} {kf vf : Nat → Int32} {du : Nat} {v : Nat → Nat} (hv : fixU (fun n => 1000000 * syO f sz kf vf n + 1) (1000000 * du) v) {n : Nat} (hn : n ≤ 60) : v n = syL f sz kf vf du n := by
  have h1 : fixC (syO f sz kf vf) du (syQ f sz kf vf du).1 (syQ f sz kf vf du).2 := by unfold syQ; exact kn_fix
  exact say_eq h1 (fun n _ => syO_le f sz kf vf n) (fun n hn => (syQ_le f sz kf vf du hn).2) hv n hn
set_option maxHeartbeats 4000000 in
set_option maxRecDepth 100000 in
theorem l_M_lay {l : Launch} {Z : EE} (hst : l.stackTraces = false) {h : PH} {m : Nat} {sz : Nat} {kf vf : Nat → Int32} (hok : LawOK kf vf sz) {f g9 : Nat → Int32} (hg9 : ∀ i, i < 190 → g9 i = f i) {du : Nat} (hd : du ≤ 20) : ∀ (j k : Nat) (h2 : PH), k + j = 61 → MI m sz kf vf g9 h h2 → hp_F h2 m 16 = .int (nI du) → (∀ i, i < k → hp_L h2 (m + 19) i = lI (1000000 * syO f sz kf vf i + 1)) → WW l Z m_X11_laySaid 5 0 0 6 [.ref m, .int (nI k), UU, UU, UU, UU, UU, UU] [] h2 (RQ none (fun h9 => MI m sz kf vf g9 h h9 ∧ hp_F h9 m 16 = .int (nI du) ∧ ∀ i, i < 61 → hp_L h9 (m + 19) i = lI (syL f sz kf vf du i))) := by
  intro j
  induction j with
  | zero =>
    intro k h2 hj hi hdu hr
    have hk9 : k = 61 := by omega
    subst hk9
    refine ww_iload_n dX11_laySaid_6 rfl rfl ?_
    refine ww_bipush (v := nI 61) dX11_laySaid_7 (by decide) ?_
    refine ww_icmp_geN (tgt := 37) dX11_laySaid_9 (by decide) (by omega) (by omega) (fun c9 => ?_) (fun c9 => ?_)
    · refine ww_iconst (v := nI 1) dX11_laySaid_37 (by decide) ?_
      refine ww_sti_n (lv2 := [.ref m, .int (nI 1), UU, UU, UU, UU, UU, UU]) dX11_laySaid_38 rfl rfl (by decide) rfl ?_
      refine l_M_sw hst hd (own := fun n => 1000000 * syO f sz kf vf n + 1) (fun n _ => by have := syO_le f sz kf vf n; show 1000000 * syO f sz kf vf n + 1 ≤ 99000001; omega) _ (fun n => 1000000 * syO f sz kf vf n + 1) h2 (Nat.lt_succ_self _) ⟨hi.1, hr, hdu⟩ ⟨fun n _ => Nat.le_refl _, fun n _ => Or.inl rfl, fun n _ => Nat.le_add_left _ _⟩ Same.rf (fun v9 h9 a9 f9 s9 => ?_)
      exact ww_vret dX11_laySaid_168 rfl ⟨rfl, hi.sweep s9, a9.2.2, fun i hi9 => by rw [a9.2.1 i hi9, sy_L f9 (by omega)]⟩
    · exfalso; omega
  | succ j ih =>
    intro k h2 hj hi hdu hr
    have hsy := syO_le f sz kf vf k
    refine ww_iload_n dX11_laySaid_6 rfl rfl ?_
    refine ww_bipush (v := nI 61) dX11_laySaid_7 (by decide) ?_
    refine ww_icmp_geN (tgt := 37) dX11_laySaid_9 (by decide) (by omega) (by omega) (fun c9 => ?_) (fun c9 => ?_)
    · exfalso; omega
    · refine ww_aload_n dX11_laySaid_12 rfl rfl ?_
      refine ww_get 39 dX11_laySaid_13 hi.1.K0 rfl (by decide) inX11 wg_1279 hi.1.F19 ?_
      refine ww_iload_n dX11_laySaid_16 rfl rfl ?_
      refine ww_ldc2 (v := 1000000) dX11_laySaid_17 wg_1640 ?_
      refine ww_aload_n dX11_laySaid_20 rfl rfl ?_
      refine ww_iload_n dX11_laySaid_21 rfl rfl ?_
      refine ww_iconst (v := nI 1) dX11_laySaid_22 (by decide) ?_
      refine ww_cVq (M := m_X11_laySaid) (pc := 23) (v := .int (fareC g9 sz kf vf k 1)) (st := [.long 1000000, .int (nI k), .ref (m + 19)]) (d := 5) (bc := 0) (bs := 0) (c_M_fareBy hst hi.1 hi.2.1 hok hi.2.2.1 k (by omega) 1 (by omega)) vv_X11_fareBy dX11_laySaid_23 wg_1555 hi.1.K0 rfl rfl rfl rfl (Nat.le_of_ble_eq_true rfl) (Nat.le_of_ble_eq_true rfl) (Nat.le_of_ble_eq_true rfl) (Nat.le_of_ble_eq_true rfl) (fun hq1 qq1 => ?_)
      have hi1 := hi.step qq1
      refine ww_sk (st2 := [.int (nI (syO f sz kf vf k)), .long 1000000, .int (nI k), .ref (m + 19)]) (by rw [fareC_sy hg9 (by omega)]) ?_
      refine ww_i2l dX11_laySaid_26 ?_
      refine ww_lmul dX11_laySaid_27 ?_
      refine ww_lconst (v := 1) dX11_laySaid_28 (by decide) ?_
      refine ww_ladd dX11_laySaid_29 ?_
      refine ww_sk (st2 := [.long (lI (1000000 * syO f sz kf vf k + 1)), .int (nI k), .ref (m + 19)]) (by rw [own_l hsy]) ?_
      refine ww_lastF dX11_laySaid_30 hi1.1.K19 rfl (by omega) (by omega) ?_
      refine ww_incN (c := 1) (lv2 := [.ref m, .int (nI (k + 1)), UU, UU, UU, UU, UU, UU]) dX11_laySaid_31 rfl rfl rfl (by decide) rfl ?_
      refine ww_goto (tgt := 6) dX11_laySaid_34 (by decide) ?_
      refine ih (k + 1) _ (by omega) hi1.said ((qq1.2.2.1 _ _ (fun e => e)).trans hdu) (fun i hi9 => ?_)
      rw [hp_L_eq]
      by_cases e : i = k
      · rw [e]; simp [vp_updL]
      · simp only [vp_updL, e, if_false]; rw [qq1.2.2.2.2 _ (by omega)]; exact hr i (by omega)
