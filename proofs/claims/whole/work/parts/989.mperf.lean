/-! ===== performing a work in the reference ===== -/
def gmX (m : Nat) : Nat → Prop := fun c => c = m + 10 ∨ c = m + 11 ∨ c = m + 15
def gmY (m : Nat) : Nat → Nat → Prop := fun a j => a = m ∧ (j = 30 ∨ j = 31 ∨ j = 32)
def PmA (m sz : Nat) (kf vf ns : Nat → Int32) (x : XS) (h : PH) : Prop := ModS h m ∧ LawM h m sz kf vf ∧ hp_I h (m + 13) = ns ∧ hp_I h (m + 15) = x.2.2.2 ∧ hp_F h m 30 = .int (nI x.1) ∧ hp_F h m 31 = .int (nI x.2.1) ∧ hp_F h m 32 = .int (nI x.2.2.1)
theorem PmA.bg {m sz v : Nat} {kf vf ns : Nat → Int32} {x : XS} {h : PH} (hA : PmA m sz kf vf ns x h) : PmA m sz kf vf ns (v, x.2) (hp_sF h m 30 (.int (nI v))) :=
  ⟨hA.1.sF (by decide), ⟨hp_F_nj (by decide) hA.2.1.1, hA.2.1.2⟩, hA.2.2.1, hA.2.2.2.1, hp_F_eq _ _ _ _, hp_F_nj (by decide) hA.2.2.2.2.2.1, hp_F_nj (by decide) hA.2.2.2.2.2.2⟩
theorem PmA.dn {m sz v : Nat} {kf vf ns : Nat → Int32} {x : XS} {h : PH} (hA : PmA m sz kf vf ns x h) : PmA m sz kf vf ns (x.1, v, x.2.2) (hp_sF h m 31 (.int (nI v))) :=
  ⟨hA.1.sF (by decide), ⟨hp_F_nj (by decide) hA.2.1.1, hA.2.1.2⟩, hA.2.2.1, hA.2.2.2.1, hp_F_nj (by decide) hA.2.2.2.2.1, hp_F_eq _ _ _ _, hp_F_nj (by decide) hA.2.2.2.2.2.2⟩
theorem PmA.rf {m sz v : Nat} {kf vf ns : Nat → Int32} {x : XS} {h : PH} (hA : PmA m sz kf vf ns x h) : PmA m sz kf vf ns (x.1, x.2.1, v, x.2.2.2) (hp_sF h m 32 (.int (nI v))) :=
  ⟨hA.1.sF (by decide), ⟨hp_F_nj (by decide) hA.2.1.1, hA.2.1.2⟩, hA.2.2.1, hA.2.2.2.1, hp_F_nj (by decide) hA.2.2.2.2.1, hp_F_nj (by decide) hA.2.2.2.2.2.1, hp_F_eq _ _ _ _⟩
theorem PmA.row {m sz : Nat} {kf vf ns f : Nat → Int32} {x : XS} {h h2 : PH} (hA : PmA m sz kf vf ns x h) (hf : hp_I h2 (m + 15) = f) (hS : Same (gmX m) (fun _ _ => False) h h2) : PmA m sz kf vf ns (x.1, x.2.1, x.2.2.1, f) h2 :=
  ⟨hA.1.sam hS, hA.2.1.same hS (by unfold gmX; omega) (by unfold gmX; omega) (fun e => e), (hS.2.2.2.1 _ (by unfold gmX; omega)).trans hA.2.2.1, hf, (hS.2.2.1 _ _ (fun e => e)).trans hA.2.2.2.2.1, (hS.2.2.1 _ _ (fun e => e)).trans hA.2.2.2.2.2.1, (hS.2.2.1 _ _ (fun e => e)).trans hA.2.2.2.2.2.2⟩
set_option maxHeartbeats 4000000 in
set_option maxRecDepth 100000 in
theorem c_Mg_0 {l : Launch} {Z : EE} (hst : l.stackTraces = false) {h : PH} {m : Nat} (hM : ModS h m) {sz : Nat} {kf vf : Nat → Int32} (hQ : LawM h m sz kf vf) (hok : LawOK kf vf sz) {np : Nat} (h6 : np ≤ 6) {g : Nat → Int32} (hs : hp_I h (m + 15) = g) (hu : RowOK g np) {W : AF} (i : Nat) (hk : W.2.1 i = nI 0) {p q y : Nat} (hp : p < np) (hq : q ≤ 60) (hy : y ≤ 2) (e1 : W.2.2.1 i = nI p) (e2 : W.2.2.2.1 i = nI q) (e3 : W.2.2.2.2 i = nI y) : CC l Z m_X11_goes 6 0 0 [.ref m, .int (nI 0), .int (nI p), .int (nI q), .int (nI y)] h (RQ (some (.int (bI (onS sz kf vf W i g).1))) (fun h9 => hp_I h9 (m + 15) = (onS sz kf vf W i g).2 ∧ Same (gmX m) (fun _ _ => False) h h9)) := by
  refine ee_entry hst (by decide +kernel) rfl rfl (by simp [Value.category]) (Nat.le_of_ble_eq_true rfl) ?_
  refine ww_lv (lv2 := [.ref m, .int (nI 0), .int (nI p), .int (nI q), .int (nI y)]) rfl ?_
  refine ww_iload_n dX11_goes_0 rfl rfl ?_
  refine ww_if_neN (tgt := 13) dX11_goes_1 (by decide) (by omega) (fun c1 => ?_) (fun c1 => ?_)
  · exact absurd c1 (by decide)
  · refine ww_aload_n dX11_goes_4 rfl rfl ?_
    refine ww_iload_n dX11_goes_5 rfl rfl ?_
    refine ww_iload_n dX11_goes_6 rfl rfl ?_
    refine ww_iload dX11_goes_7 rfl ?_
    refine ww_cVq (M := m_X11_goes) (pc := 9) (v := .int (bI ((useF g p q (fareC g sz kf vf q y)).1))) (st := []) (d := 6) (bc := 0) (bs := 0) (c_M_uses hst hM hQ hok hs p q (by omega) hq y hy (hu.ow h6 hq) (hu.2.2.1 p (by omega))) vv_X11_uses dX11_goes_9 wg_1551 hM.K0 rfl rfl rfl rfl (Nat.le_of_ble_eq_true rfl) (Nat.le_of_ble_eq_true rfl) (Nat.le_of_ble_eq_true rfl) (Nat.le_of_ble_eq_true rfl) (fun hq1 qq1 => ?_)
    exact ww_zret dX11_goes_12 rfl (by first | rfl | exact nar_bI _) ⟨by rw [onS_0 g hk e1 e2 e3 (by omega) (by omega) (by omega)], (by rw [onS_0 g hk e1 e2 e3 (by omega) (by omega) (by omega)]; exact qq1.2), qq1.1⟩
set_option maxHeartbeats 4000000 in
set_option maxRecDepth 100000 in
theorem c_Mg_1 {l : Launch} {Z : EE} (hst : l.stackTraces = false) {h : PH} {m : Nat} (hM : ModS h m) {sz : Nat} {kf vf : Nat → Int32} (hQ : LawM h m sz kf vf) (hok : LawOK kf vf sz) {np : Nat} (h6 : np ≤ 6) {g : Nat → Int32} (hs : hp_I h (m + 15) = g) (hu : RowOK g np) {W : AF} (i : Nat) (hk : W.2.1 i = nI 1) {p q c : Nat} (hq : q ≤ 60) (hp : p < np) (hc : c ≤ 999) (e1 : W.2.2.1 i = nI q) (e2 : W.2.2.2.1 i = nI p) (e3 : W.2.2.2.2 i = nI c) : CC l Z m_X11_goes 6 0 0 [.ref m, .int (nI 1), .int (nI p), .int (nI q), .int (nI c)] h (RQ (some (.int (bI (onS sz kf vf W i g).1))) (fun h9 => hp_I h9 (m + 15) = (onS sz kf vf W i g).2 ∧ Same (gmX m) (fun _ _ => False) h h9)) := by
  refine ee_entry hst (by decide +kernel) rfl rfl (by simp [Value.category]) (Nat.le_of_ble_eq_true rfl) ?_
  refine ww_lv (lv2 := [.ref m, .int (nI 1), .int (nI p), .int (nI q), .int (nI c)]) rfl ?_
  refine ww_iload_n dX11_goes_0 rfl rfl ?_
  refine ww_if_neN (tgt := 13) dX11_goes_1 (by decide) (by omega) (fun c1 => ?_) (fun c1 => ?_)
  · refine ww_iload_n dX11_goes_13 rfl rfl ?_
    refine ww_iconst (v := nI 1) dX11_goes_14 (by decide) ?_
    refine ww_icmp_neN (tgt := 27) dX11_goes_15 (by decide) (by omega) (by omega) (fun c15 => ?_) (fun c15 => ?_)
    · exact absurd c15 (by decide)
    · refine ww_aload_n dX11_goes_18 rfl rfl ?_
      refine ww_iload_n dX11_goes_19 rfl rfl ?_
      refine ww_iload_n dX11_goes_20 rfl rfl ?_
      refine ww_iload dX11_goes_21 rfl ?_
      refine ww_cVr (M := m_X11_goes) (pc := 23) (v := .int (bI ((sellF g q p (nI c)).1))) (h1 := hp_sI h (m + 15) (sellF g q p (nI c)).2) (st := []) (d := 6) (bc := 0) (bs := 0) (c_M_sells hst hM hs p q (by omega) hq (nI c) (hu.ow h6 hq)) vv_X11_sells dX11_goes_23 wg_1581 hM.K0 rfl rfl rfl rfl (Nat.le_of_ble_eq_true rfl) (Nat.le_of_ble_eq_true rfl) (Nat.le_of_ble_eq_true rfl) (Nat.le_of_ble_eq_true rfl) ?_
      exact ww_zret dX11_goes_26 rfl (by first | rfl | exact nar_bI _) ⟨by rw [onS_1 g hk e1 e2 e3 (by omega) (by omega) (by omega)], (by rw [onS_1 g hk e1 e2 e3 (by omega) (by omega) (by omega)]; exact hp_I_eq _ _ _), Same.rf.sI (show gmX m (m + 15) from Or.inr (Or.inr rfl))⟩
  · exact absurd c1 (by decide)
set_option maxHeartbeats 4000000 in
set_option maxRecDepth 100000 in
theorem c_Mg_2 {l : Launch} {Z : EE} (hst : l.stackTraces = false) {h : PH} {m : Nat} (hM : ModS h m) {sz : Nat} {kf vf : Nat → Int32} (hQ : LawM h m sz kf vf) (hok : LawOK kf vf sz) {np : Nat} (h6 : np ≤ 6) {g : Nat → Int32} (hs : hp_I h (m + 15) = g) (hu : RowOK g np) {W : AF} (i : Nat) (hk : W.2.1 i = nI 2) {q r : Nat} (hq : q ≤ 60) (hr : r ≤ 40) (e1 : W.2.2.1 i = nI q) (e2 : W.2.2.2.1 i = nI r) (z : Int32) : CC l Z m_X11_goes 6 0 0 [.ref m, .int (nI 2), .int z, .int (nI q), .int (nI r)] h (RQ (some (.int (bI (onS sz kf vf W i g).1))) (fun h9 => hp_I h9 (m + 15) = (onS sz kf vf W i g).2 ∧ Same (gmX m) (fun _ _ => False) h h9)) := by
  refine ee_entry hst (by decide +kernel) rfl rfl (by simp [Value.category]) (Nat.le_of_ble_eq_true rfl) ?_
  refine ww_lv (lv2 := [.ref m, .int (nI 2), .int z, .int (nI q), .int (nI r)]) rfl ?_
  refine ww_iload_n dX11_goes_0 rfl rfl ?_
  refine ww_if_neN (tgt := 13) dX11_goes_1 (by decide) (by omega) (fun c1 => ?_) (fun c1 => ?_)
  · refine ww_iload_n dX11_goes_13 rfl rfl ?_
    refine ww_iconst (v := nI 1) dX11_goes_14 (by decide) ?_
    refine ww_icmp_neN (tgt := 27) dX11_goes_15 (by decide) (by omega) (by omega) (fun c15 => ?_) (fun c15 => ?_)
    · refine ww_iload_n dX11_goes_27 rfl rfl ?_
      refine ww_iconst (v := nI 2) dX11_goes_28 (by decide) ?_
      refine ww_icmp_neN (tgt := 73) dX11_goes_29 (by decide) (by omega) (by omega) (fun c29 => ?_) (fun c29 => ?_)
      · exact absurd c29 (by decide)
      · refine ww_aload_n dX11_goes_32 rfl rfl ?_
        refine ww_get 34 dX11_goes_33 hM.K0 rfl (by decide) inX11 wg_1274 hM.F15 ?_
        refine ww_iconst (v := nI 0) dX11_goes_36 (by decide) ?_
        refine ww_iload_n dX11_goes_37 rfl rfl ?_
        refine ww_iadd0 dX11_goes_38 ?_
        refine ww_ialdF dX11_goes_39 hM.K15 hs (by omega) (by omega) ?_
        refine ww_iconst (v := -1) dX11_goes_40 (by decide) ?_
        refine ww_icmp_eq (tgt := 58) dX11_goes_41 (by decide) (fun c41 => ?_) (fun c41 => ?_)
        · refine ww_iconst (v := nI 0) dX11_goes_58 (by decide) ?_
          exact ww_zret dX11_goes_59 rfl (by first | rfl | exact nar_bI _) ⟨by first | (rw [onS_2 g hk e1 e2 (by omega) (by omega), letF_1 c41]; rfl) | (rw [onS_2 g hk e1 e2 (by omega) (by omega), letF_2 c41 c55]; rfl), (by first | (rw [onS_2 g hk e1 e2 (by omega) (by omega), letF_1 c41]; exact hs) | (rw [onS_2 g hk e1 e2 (by omega) (by omega), letF_2 c41 c55]; exact hs)), Same.rf⟩
        · refine ww_aload_n dX11_goes_44 rfl rfl ?_
          refine ww_get 34 dX11_goes_45 hM.K0 rfl (by decide) inX11 wg_1274 hM.F15 ?_
          refine ww_bipush (v := nI 61) dX11_goes_48 (by decide) ?_
          refine ww_iload_n dX11_goes_50 rfl rfl ?_
          refine ww_iaddN dX11_goes_51 ?_
          refine ww_ialdF dX11_goes_52 hM.K15 hs (by omega) (by omega) ?_
          refine ww_iload dX11_goes_53 rfl ?_
          refine ww_icmp_ne (tgt := 60) dX11_goes_55 (by decide) (fun c55 => ?_) (fun c55 => ?_)
          · refine ww_aload_n dX11_goes_60 rfl rfl ?_
            refine ww_get 34 dX11_goes_61 hM.K0 rfl (by decide) inX11 wg_1274 hM.F15 ?_
            refine ww_bipush (v := nI 61) dX11_goes_64 (by decide) ?_
            refine ww_iload_n dX11_goes_66 rfl rfl ?_
            refine ww_iaddN dX11_goes_67 ?_
            refine ww_iload dX11_goes_68 rfl ?_
            refine ww_iastF dX11_goes_70 hM.K15 hs (by omega) (by omega) ?_
            refine ww_iconst (v := nI 1) dX11_goes_71 (by decide) ?_
            exact ww_zret dX11_goes_72 rfl (by first | rfl | exact nar_bI _) ⟨by rw [onS_2 g hk e1 e2 (by omega) (by omega), letF_3 c41 c55]; rfl, (by rw [onS_2 g hk e1 e2 (by omega) (by omega), letF_3 c41 c55]; exact hp_I_eq _ _ _), Same.rf.sI (show gmX m (m + 15) from Or.inr (Or.inr rfl))⟩
          · refine ww_iconst (v := nI 0) dX11_goes_58 (by decide) ?_
            exact ww_zret dX11_goes_59 rfl (by first | rfl | exact nar_bI _) ⟨by first | (rw [onS_2 g hk e1 e2 (by omega) (by omega), letF_1 c41]; rfl) | (rw [onS_2 g hk e1 e2 (by omega) (by omega), letF_2 c41 c55]; rfl), (by first | (rw [onS_2 g hk e1 e2 (by omega) (by omega), letF_1 c41]; exact hs) | (rw [onS_2 g hk e1 e2 (by omega) (by omega), letF_2 c41 c55]; exact hs)), Same.rf⟩
    · exact absurd c15 (by decide)
  · exact absurd c1 (by decide)
set_option maxHeartbeats 4000000 in
set_option maxRecDepth 100000 in
theorem c_Mg_3 {l : Launch} {Z : EE} (hst : l.stackTraces = false) {h : PH} {m : Nat} (hM : ModS h m) {sz : Nat} {kf vf : Nat → Int32} (hQ : LawM h m sz kf vf) (hok : LawOK kf vf sz) {np : Nat} (h6 : np ≤ 6) {g : Nat → Int32} (hs : hp_I h (m + 15) = g) (hu : RowOK g np) {W : AF} (i : Nat) (hk : W.2.1 i = nI 3) (z1 z2 z3 : Int32) {d : Nat} (hd : d ≤ 900) (ed : g 189 = nI d) : CC l Z m_X11_goes 6 0 0 [.ref m, .int (nI 3), .int z1, .int z2, .int z3] h (RQ (some (.int (bI (onS sz kf vf W i g).1))) (fun h9 => hp_I h9 (m + 15) = (onS sz kf vf W i g).2 ∧ Same (gmX m) (fun _ _ => False) h h9)) := by
  refine ee_entry hst (by decide +kernel) rfl rfl (by simp [Value.category]) (Nat.le_of_ble_eq_true rfl) ?_
  refine ww_lv (lv2 := [.ref m, .int (nI 3), .int z1, .int z2, .int z3]) rfl ?_
  refine ww_iload_n dX11_goes_0 rfl rfl ?_
  refine ww_if_neN (tgt := 13) dX11_goes_1 (by decide) (by omega) (fun c1 => ?_) (fun c1 => ?_)
  · refine ww_iload_n dX11_goes_13 rfl rfl ?_
    refine ww_iconst (v := nI 1) dX11_goes_14 (by decide) ?_
    refine ww_icmp_neN (tgt := 27) dX11_goes_15 (by decide) (by omega) (by omega) (fun c15 => ?_) (fun c15 => ?_)
    · refine ww_iload_n dX11_goes_27 rfl rfl ?_
      refine ww_iconst (v := nI 2) dX11_goes_28 (by decide) ?_
      refine ww_icmp_neN (tgt := 73) dX11_goes_29 (by decide) (by omega) (by omega) (fun c29 => ?_) (fun c29 => ?_)
      · refine ww_aload_n dX11_goes_73 rfl rfl ?_
        refine ww_get 34 dX11_goes_74 hM.K0 rfl (by decide) inX11 wg_1274 hM.F15 ?_
        refine ww_sipush (v := nI 189) dX11_goes_77 (by decide) ?_
        refine ww_ialdF dX11_goes_80 hM.K15 hs (by omega) (by omega) ?_
        refine ww_sk (st2 := [.int (nI d)]) (by rw [ed]) ?_
        refine ww_sipush (v := nI 900) dX11_goes_81 (by decide) ?_
        refine ww_icmp_neN (tgt := 89) dX11_goes_84 (by decide) (by omega) (by omega) (fun c84 => ?_) (fun c84 => ?_)
        · refine ww_aload_n dX11_goes_89 rfl rfl ?_
          refine ww_cV0 (M := m_X11_goes) (pc := 90) (h1 := hp_sI h (m + 15) (dayF g)) (st := []) (d := 6) (bc := 0) (bs := 0) (c_M_passes hst hM hs) vv_X11_passes dX11_goes_90 wg_1585 hM.K0 rfl rfl rfl rfl (Nat.le_of_ble_eq_true rfl) (Nat.le_of_ble_eq_true rfl) (Nat.le_of_ble_eq_true rfl) (Nat.le_of_ble_eq_true rfl) ?_
          refine ww_iconst (v := nI 1) dX11_goes_93 (by decide) ?_
          exact ww_zret dX11_goes_94 rfl (by first | rfl | exact nar_bI _) ⟨by rw [onS_3 g hk, dyF_1 (by rw [ed]; exact nI_lt (by omega) (by omega))]; rfl, (by rw [onS_3 g hk, dyF_1 (by rw [ed]; exact nI_lt (by omega) (by omega))]; exact hp_I_eq _ _ _), Same.rf.sI (show gmX m (m + 15) from Or.inr (Or.inr rfl))⟩
        · refine ww_iconst (v := nI 0) dX11_goes_87 (by decide) ?_
          exact ww_zret dX11_goes_88 rfl (by first | rfl | exact nar_bI _) ⟨by rw [onS_3 g hk, dyF_2 (by rw [ed]; exact nI_nlt (by omega) (by omega))]; rfl, (by rw [onS_3 g hk, dyF_2 (by rw [ed]; exact nI_nlt (by omega) (by omega))]; exact hs), Same.rf⟩
      · exact absurd c29 (by decide)
    · exact absurd c15 (by decide)
  · exact absurd c1 (by decide)
theorem c_Mg {l : Launch} {Z : EE} (hst : l.stackTraces = false) {h : PH} {m : Nat} (hM : ModS h m) {sz : Nat} {kf vf : Nat → Int32} (hQ : LawM h m sz kf vf) (hok : LawOK kf vf sz) {np : Nat} (h6 : np ≤ 6) {g : Nat → Int32} (hs : hp_I h (m + 15) = g) (hu : RowOK g np) {W : AF} (i : Nat) (hg : goE np W i) {ns : Nat → Int32} (hr : RsR W ns) (hi : i < W.1) : CC l Z m_X11_goes 6 0 0 [.ref m, .int (ns (4 * i)), .int (ns (4 * i + 1)), .int (ns (4 * i + 2)), .int (ns (4 * i + 3))] h (RQ (some (.int (bI (onS sz kf vf W i g).1))) (fun h9 => hp_I h9 (m + 15) = (onS sz kf vf W i g).2 ∧ Same (gmX m) (fun _ _ => False) h h9)) := by
  have r := hr i hi
  rw [r.1]
  rcases hg with ⟨e, p, q, y, h1, h2, h3, e1, e2, e3⟩ | ⟨e, q, p, c, h1, h2, h3, e1, e2, e3⟩ | ⟨e, q, r2, h1, h2, e1, e2, e3⟩ | ⟨e, -⟩
  · rw [(r.2.1 e).1, (r.2.1 e).2.1, (r.2.1 e).2.2, e, e1, e2, e3]
    exact c_Mg_0 hst hM hQ hok h6 hs hu i e h1 h2 h3 e1 e2 e3
  · rw [(r.2.2.1 e).1, (r.2.2.1 e).2.1, (r.2.2.1 e).2.2, e, e1, e2, e3]
    exact c_Mg_1 hst hM hQ hok h6 hs hu i e h1 h2 h3 e1 e2 e3
  · rw [(r.2.2.2.1 e).1, (r.2.2.2.1 e).2, e, e1, e2]
    exact c_Mg_2 hst hM hQ hok h6 hs hu i e h1 h2 e1 e2 _
  · rw [e]
    obtain ⟨d, hd, ed⟩ := hu.2.2.2
    exact c_Mg_3 hst hM hQ hok h6 hs hu i e _ _ _ hd ed
set_option maxHeartbeats 4000000 in
set_option maxRecDepth 100000 in
theorem l_Mg_rep {l : Launch} {Z : EE} (hst : l.stackTraces = false) {h : PH} {m sz : Nat} {kf vf ns : Nat → Int32} (hok : LawOK kf vf sz) {np : Nat} (h6 : np ≤ 6) {W : AF} (hr : RsR W ns) (hW8 : W.1 ≤ 38) {d : Nat} (hd : 6 ≤ d) (k i e b : Nat) (hi : i < W.1) (hb : b ≤ W.1) (hg : agE W i b e) (hw : WfJ np W (WfI np W k) 38 (i + 1) e) (hP : ∀ (x : XS) (hq : PH), PmA m sz kf vf ns x hq → XG np x → CC l Z m_X11_goesSteps d 0 0 [.ref m, .int (nI (4 * (i + 1))), .int (nI (4 * e))] hq (RQ none (fun h9 => PmA m sz kf vf ns ((pfJ W (onX sz kf vf W) (rpI W (onX sz kf vf W) k) 38 (i + 1) e) x) h9 ∧ Same (gmX m) (gmY m) hq h9))) (f0 t0 : Nat) {Post : Res → PH → Prop} : ∀ (j t : Nat) (x : XS) (hq : PH), t + j = onN W i → PmA m sz kf vf ns x hq → XG np x → Same (gmX m) (gmY m) h hq → (∀ h9, PmA m sz kf vf ns (rpX (pfJ W (onX sz kf vf W) (rpI W (onX sz kf vf W) k) 38 (i + 1) e) j x) h9 → Same (gmX m) (gmY m) h h9 → WW l Z m_X11_goesSteps (d + 1) 0 0 88 [.ref m, .int (nI f0), .int (nI t0), .int (nI (4 * i)), .int (nI (4 * e)), UU] [] h9 Post) → WW l Z m_X11_goesSteps (d + 1) 0 0 50 [.ref m, .int (nI f0), .int (nI t0), .int (nI (4 * i)), .int (nI (4 * e)), .int (nI t)] [] hq Post := by
  have hn := agE_n hg (by omega)
  have he := hg.2.2.2.2
  intro j
  induction j with
  | zero =>
    intro t x hq ht hA hX hS hex
    have hb9 : t = onN W i := by omega
    subst hb9
    have hx2 := hX.2.1
    refine ww_iload dX11_goesSteps_50 rfl ?_
    refine ww_aload_n dX11_goesSteps_52 rfl rfl ?_
    refine ww_get 26 dX11_goesSteps_53 hA.1.K0 rfl (by decide) inX11 wg_1266 hA.1.F13 ?_
    refine ww_iload_n dX11_goesSteps_56 rfl rfl ?_
    refine ww_iconst (v := nI 1) dX11_goesSteps_57 (by decide) ?_
    refine ww_iaddN dX11_goesSteps_58 ?_
    refine ww_ialdF dX11_goesSteps_59 hA.1.K13 hA.2.2.1 (by omega) (by omega) ?_
    refine ww_sk (st2 := [.int (nI (onN W i)), .int (nI (onN W i))]) (by rw [((hr i hi).2.2.2.2 hg.1).1, hn.1]) ?_
    refine ww_icmp_geN (tgt := 88) dX11_goesSteps_60 (by decide) (by omega) (by omega) (fun c60 => ?_) (fun c60 => ?_)
    · refine ww_fg (lv2 := [.ref m, .int (nI f0), .int (nI t0), .int (nI (4 * i)), .int (nI (4 * e)), UU]) ⟨Or.inr rfl, Or.inr rfl, Or.inr rfl, Or.inr rfl, Or.inr rfl, Or.inl rfl, trivial⟩ ?_
      exact hex hq hA hS
    · exfalso; omega
  | succ j ih =>
    intro t x hq ht hA hX hS hex
    have hx2 := hX.2.1
    refine ww_iload dX11_goesSteps_50 rfl ?_
    refine ww_aload_n dX11_goesSteps_52 rfl rfl ?_
    refine ww_get 26 dX11_goesSteps_53 hA.1.K0 rfl (by decide) inX11 wg_1266 hA.1.F13 ?_
    refine ww_iload_n dX11_goesSteps_56 rfl rfl ?_
    refine ww_iconst (v := nI 1) dX11_goesSteps_57 (by decide) ?_
    refine ww_iaddN dX11_goesSteps_58 ?_
    refine ww_ialdF dX11_goesSteps_59 hA.1.K13 hA.2.2.1 (by omega) (by omega) ?_
    refine ww_sk (st2 := [.int (nI (onN W i)), .int (nI t)]) (by rw [((hr i hi).2.2.2.2 hg.1).1, hn.1]) ?_
    refine ww_icmp_geN (tgt := 88) dX11_goesSteps_60 (by decide) (by omega) (by omega) (fun c60 => ?_) (fun c60 => ?_)
    · exfalso; omega
    · refine ww_aload_n dX11_goesSteps_63 rfl rfl ?_
      refine ww_get 30 dX11_goesSteps_64 hA.1.K0 rfl (by decide) inX11 wg_1270 hA.2.2.2.2.1 ?_
      refine ww_sipush (v := nI 200) dX11_goesSteps_67 (by decide) ?_
      refine ww_icmp_geN (tgt := 88) dX11_goesSteps_70 (by decide) (by omega) (by omega) (fun c70 => ?_) (fun c70 => ?_)
      · refine ww_fg (lv2 := [.ref m, .int (nI f0), .int (nI t0), .int (nI (4 * i)), .int (nI (4 * e)), UU]) ⟨Or.inr rfl, Or.inr rfl, Or.inr rfl, Or.inr rfl, Or.inr rfl, Or.inl rfl, trivial⟩ ?_
        exact hex hq (by rw [show rpX (pfJ W (onX sz kf vf W) (rpI W (onX sz kf vf W) k) 38 (i + 1) e) (j + 1) x = x from if_neg (by omega)]; exact hA) hS
      · refine ww_aload_n dX11_goesSteps_73 rfl rfl ?_
        refine ww_iload_n dX11_goesSteps_74 rfl rfl ?_
        refine ww_iconst (v := nI 4) dX11_goesSteps_75 (by decide) ?_
        refine ww_iaddN dX11_goesSteps_76 ?_
        refine ww_iload dX11_goesSteps_77 rfl ?_
        refine ww_sk (st2 := [.int (nI (4 * e)), .int (nI (4 * (i + 1))), .ref m]) (by rw [show 4 * (i + 1) = 4 * i + 4 by omega]) ?_
        refine ww_cVq0 (M := m_X11_goesSteps) (pc := 79) (st := []) (d := d + 1) (bc := 0) (bs := 0) (hP x hq hA hX) vv_X11_goesSteps dX11_goesSteps_79 wg_1543 hA.1.K0 rfl rfl rfl rfl (Nat.le_refl _) (Nat.le_of_ble_eq_true rfl) (Nat.le_of_ble_eq_true rfl) (Nat.le_of_ble_eq_true rfl) (fun hq1 qq1 => ?_)
        refine ww_incN (c := 1) (lv2 := [.ref m, .int (nI f0), .int (nI t0), .int (nI (4 * i)), .int (nI (4 * e)), .int (nI (t + 1))]) dX11_goesSteps_82 rfl rfl rfl (by decide) rfl ?_
        refine ww_goto (tgt := 50) dX11_goesSteps_85 (by decide) ?_
        refine ih (t + 1) ((pfJ W (onX sz kf vf W) (rpI W (onX sz kf vf W) k) 38 (i + 1) e) x) hq1 (by omega) qq1.1 (pfJ_g (inn := WfI np W k) h6 sz kf vf (fun a2 e2 x2 q0 q1 q2 q3 => rpI_g h6 sz kf vf k a2 e2 x2 q0 q1 q2 q3) 38 (i + 1) e x (by omega) hw hX) (hS.tr qq1.2) (fun h9 q1 q2 => hex h9 ?_ q2)
        rw [show rpX (pfJ W (onX sz kf vf W) (rpI W (onX sz kf vf W) k) 38 (i + 1) e) (j + 1) x = rpX (pfJ W (onX sz kf vf W) (rpI W (onX sz kf vf W) k) 38 (i + 1) e) j ((pfJ W (onX sz kf vf W) (rpI W (onX sz kf vf W) k) 38 (i + 1) e) x) from if_pos (by omega)]; exact q1
set_option maxHeartbeats 4000000 in
set_option maxRecDepth 100000 in
theorem l_Mg_steps {l : Launch} {Z : EE} (hst : l.stackTraces = false) {h : PH} {m sz : Nat} {kf vf ns : Nat → Int32} (hok : LawOK kf vf sz) {np : Nat} (h6 : np ≤ 6) {W : AF} (hr : RsR W ns) (hW8 : W.1 ≤ 38) {d : Nat} (hd : 6 ≤ d) (k b : Nat) (hb : b ≤ W.1) (hR : ∀ (i e : Nat), i < b → agE W i b e → WfI np W k (i + 1) e → ∃ k2, k = k2 + 1 ∧ ∀ (x : XS) (hq : PH), PmA m sz kf vf ns x hq → XG np x → CC l Z m_X11_goesSteps d 0 0 [.ref m, .int (nI (4 * (i + 1))), .int (nI (4 * e))] hq (RQ none (fun h9 => PmA m sz kf vf ns (pfJ W (onX sz kf vf W) (rpI W (onX sz kf vf W) k2) 38 (i + 1) e x) h9 ∧ Same (gmX m) (gmY m) hq h9))) (f0 : Nat) : ∀ (j nx : Nat) (x : XS) (hq : PH), WfJ np W (WfI np W k) j nx b → PmA m sz kf vf ns x hq → XG np x → Same (gmX m) (gmY m) h hq → WW l Z m_X11_goesSteps (d + 1) 0 0 2 [.ref m, .int (nI f0), .int (nI (4 * b)), .int (nI (4 * nx)), UU, UU] [] hq (RQ none (fun h9 => PmA m sz kf vf ns (pfJ W (onX sz kf vf W) (rpI W (onX sz kf vf W) k) j nx b x) h9 ∧ Same (gmX m) (gmY m) h h9)) := by
  intro j
  induction j with
  | zero =>
    intro nx x hq hw hA hX hS
    have hb9 : nx = b := hw
    subst hb9
    refine ww_iload_n dX11_goesSteps_2 rfl rfl ?_
    refine ww_iload_n dX11_goesSteps_3 rfl rfl ?_
    refine ww_icmp_geN (tgt := 160) dX11_goesSteps_4 (by decide) (by omega) (by omega) (fun c4 => ?_) (fun c4 => ?_)
    · exact ww_vret dX11_goesSteps_160 rfl ⟨rfl, hA, hS⟩
    · exfalso; omega
  | succ j ih =>
    intro nx x hq hw hA hX hS
    have hx2 := hX.2.1
    have hx3 := hX.2.2
    rcases hw with hw | ⟨hlt, ⟨g1, g2⟩ | ⟨e, g1, g2, g3⟩⟩
    · refine ww_iload_n dX11_goesSteps_2 rfl rfl ?_
      refine ww_iload_n dX11_goesSteps_3 rfl rfl ?_
      refine ww_icmp_geN (tgt := 160) dX11_goesSteps_4 (by decide) (by omega) (by omega) (fun c4 => ?_) (fun c4 => ?_)
      · exact ww_vret dX11_goesSteps_160 rfl ⟨rfl, (by rw [pfJ_e (fun q => absurd q.1 (by omega))]; exact hA), hS⟩
      · exfalso; omega
    · refine ww_iload_n dX11_goesSteps_2 rfl rfl ?_
      refine ww_iload_n dX11_goesSteps_3 rfl rfl ?_
      refine ww_icmp_geN (tgt := 160) dX11_goesSteps_4 (by decide) (by omega) (by omega) (fun c4 => ?_) (fun c4 => ?_)
      · exfalso; omega
      · refine ww_aload_n dX11_goesSteps_7 rfl rfl ?_
        refine ww_get 30 dX11_goesSteps_8 hA.1.K0 rfl (by decide) inX11 wg_1270 hA.2.2.2.2.1 ?_
        refine ww_sipush (v := nI 200) dX11_goesSteps_11 (by decide) ?_
        refine ww_icmp_geN (tgt := 160) dX11_goesSteps_14 (by decide) (by omega) (by omega) (fun c14 => ?_) (fun c14 => ?_)
        · exact ww_vret dX11_goesSteps_160 rfl ⟨rfl, (by rw [pfJ_e (fun q => absurd q.2 (by omega))]; exact hA), hS⟩
        · refine ww_aload_n dX11_goesSteps_17 rfl rfl ?_
          refine ww_dup dX11_goesSteps_18 rfl ?_
          refine ww_get 30 dX11_goesSteps_19 hA.1.K0 rfl (by decide) inX11 wg_1270 hA.2.2.2.2.1 ?_
          refine ww_iconst (v := nI 1) dX11_goesSteps_22 (by decide) ?_
          refine ww_iaddN dX11_goesSteps_23 ?_
          refine ww_pfI tyX11 30 dX11_goesSteps_24 hA.1.K0 rfl (by decide) inX11 tyX11_ok nmX11 wg_1270 rfl rfl ?_
          have hA1 : PmA m sz kf vf ns (x.1 + 1, x.2) (hp_sF hq m 30 (.int (nI (x.1 + 1)))) := hA.bg
          have hS1 : Same (gmX m) (gmY m) h (hp_sF hq m 30 (.int (nI (x.1 + 1)))) := hS.sF (show gmY m m 30 from ⟨rfl, Or.inl rfl⟩)
          generalize hp_sF hq m 30 (.int (nI (x.1 + 1))) = hq1 at hA1 hS1 ⊢
          refine ww_aload_n dX11_goesSteps_27 rfl rfl ?_
          refine ww_get 26 dX11_goesSteps_28 hA1.1.K0 rfl (by decide) inX11 wg_1266 hA1.1.F13 ?_
          refine ww_iload_n dX11_goesSteps_31 rfl rfl ?_
          refine ww_ialdF dX11_goesSteps_32 hA1.1.K13 hA1.2.2.1 (by omega) (by omega) ?_
          refine ww_sk (st2 := [.int (W.2.1 nx)]) (by rw [(hr nx (by omega)).1]) ?_
          refine ww_iconst (v := nI 4) dX11_goesSteps_33 (by decide) ?_
          refine ww_icmp_ne (tgt := 94) dX11_goesSteps_34 (by decide) (fun c34 => ?_) (fun c34 => ?_)
          · refine ww_aload_n dX11_goesSteps_94 rfl rfl ?_
            refine ww_aload_n dX11_goesSteps_95 rfl rfl ?_
            refine ww_get 26 dX11_goesSteps_96 hA1.1.K0 rfl (by decide) inX11 wg_1266 hA1.1.F13 ?_
            refine ww_iload_n dX11_goesSteps_99 rfl rfl ?_
            refine ww_ialdF dX11_goesSteps_100 hA1.1.K13 hA1.2.2.1 (by omega) (by omega) ?_
            refine ww_aload_n dX11_goesSteps_101 rfl rfl ?_
            refine ww_get 26 dX11_goesSteps_102 hA1.1.K0 rfl (by decide) inX11 wg_1266 hA1.1.F13 ?_
            refine ww_iload_n dX11_goesSteps_105 rfl rfl ?_
            refine ww_iconst (v := nI 1) dX11_goesSteps_106 (by decide) ?_
            refine ww_iaddN dX11_goesSteps_107 ?_
            refine ww_ialdF dX11_goesSteps_108 hA1.1.K13 hA1.2.2.1 (by omega) (by omega) ?_
            refine ww_aload_n dX11_goesSteps_109 rfl rfl ?_
            refine ww_get 26 dX11_goesSteps_110 hA1.1.K0 rfl (by decide) inX11 wg_1266 hA1.1.F13 ?_
            refine ww_iload_n dX11_goesSteps_113 rfl rfl ?_
            refine ww_iconst (v := nI 2) dX11_goesSteps_114 (by decide) ?_
            refine ww_iaddN dX11_goesSteps_115 ?_
            refine ww_ialdF dX11_goesSteps_116 hA1.1.K13 hA1.2.2.1 (by omega) (by omega) ?_
            refine ww_aload_n dX11_goesSteps_117 rfl rfl ?_
            refine ww_get 26 dX11_goesSteps_118 hA1.1.K0 rfl (by decide) inX11 wg_1266 hA1.1.F13 ?_
            refine ww_iload_n dX11_goesSteps_121 rfl rfl ?_
            refine ww_iconst (v := nI 3) dX11_goesSteps_122 (by decide) ?_
            refine ww_iaddN dX11_goesSteps_123 ?_
            refine ww_ialdF dX11_goesSteps_124 hA1.1.K13 hA1.2.2.1 (by omega) (by omega) ?_
            refine ww_cVq (M := m_X11_goesSteps) (pc := 125) (v := .int (bI ((onS sz kf vf W nx x.2.2.2).1))) (st := []) (d := d + 1) (bc := 0) (bs := 0) (c_Mg hst hA1.1 hA1.2.1 hok h6 hA1.2.2.2.1 hX.1 nx g1 hr (by omega)) vv_X11_goes dX11_goesSteps_125 wg_1547 hA1.1.K0 rfl rfl rfl rfl (by omega) (Nat.le_of_ble_eq_true rfl) (Nat.le_of_ble_eq_true rfl) (Nat.le_of_ble_eq_true rfl) (fun hq2 qq2 => ?_)
            have hA2 : PmA m sz kf vf ns (x.1 + 1, x.2.1, x.2.2.1, (onS sz kf vf W nx x.2.2.2).2) hq2 := hA1.row qq2.1 qq2.2
            have hS2 : Same (gmX m) (gmY m) h hq2 := hS1.tr (qq2.2.mono (fun _ e => e) (fun _ _ e => e.elim))
            refine ww_if_eqB (tgt := 144) dX11_goesSteps_128 (by decide) (fun c128 => ?_) (fun c128 => ?_)
            · refine ww_aload_n dX11_goesSteps_144 rfl rfl ?_
              refine ww_dup dX11_goesSteps_145 rfl ?_
              refine ww_get 32 dX11_goesSteps_146 hA2.1.K0 rfl (by decide) inX11 wg_1272 hA2.2.2.2.2.2.2 ?_
              refine ww_iconst (v := nI 1) dX11_goesSteps_149 (by decide) ?_
              refine ww_iaddN dX11_goesSteps_150 ?_
              refine ww_pfI tyX11 32 dX11_goesSteps_151 hA2.1.K0 rfl (by decide) inX11 tyX11_ok nmX11 wg_1272 rfl rfl ?_
              refine ww_incN (c := 4) (lv2 := [.ref m, .int (nI f0), .int (nI (4 * b)), .int (nI (4 * nx + 4)), UU, UU]) dX11_goesSteps_154 rfl rfl rfl (by decide) rfl ?_
              refine ww_goto (tgt := 2) dX11_goesSteps_157 (by decide) ?_
              refine ww_lv (lv2 := [.ref m, .int (nI f0), .int (nI (4 * b)), .int (nI (4 * (nx + 1))), UU, UU]) (by rw [show 4 * (nx + 1) = 4 * nx + 4 by omega]) ?_
              rw [pfJ_o hlt (by omega) (goE_k g1)]
              have hx9 := onX_g g1 h6 sz kf vf hX (by omega)
              have eo : onX sz kf vf W nx (x.1 + 1, x.2) = (x.1 + 1, x.2.1, x.2.2.1 + 1, (onS sz kf vf W nx x.2.2.2).2) := if_neg (by rw [show (onS sz kf vf W nx x.2.2.2).1 = false from c128]; decide)
              refine ih (nx + 1) _ _ g2 ?_ hx9 ?_
              · rw [eo]; exact hA2.rf
              · exact hS2.sF (show gmY m m 32 from ⟨rfl, Or.inr (Or.inr rfl)⟩)
            · refine ww_aload_n dX11_goesSteps_131 rfl rfl ?_
              refine ww_dup dX11_goesSteps_132 rfl ?_
              refine ww_get 31 dX11_goesSteps_133 hA2.1.K0 rfl (by decide) inX11 wg_1271 hA2.2.2.2.2.2.1 ?_
              refine ww_iconst (v := nI 1) dX11_goesSteps_136 (by decide) ?_
              refine ww_iaddN dX11_goesSteps_137 ?_
              refine ww_pfI tyX11 31 dX11_goesSteps_138 hA2.1.K0 rfl (by decide) inX11 tyX11_ok nmX11 wg_1271 rfl rfl ?_
              refine ww_goto (tgt := 154) dX11_goesSteps_141 (by decide) ?_
              refine ww_incN (c := 4) (lv2 := [.ref m, .int (nI f0), .int (nI (4 * b)), .int (nI (4 * nx + 4)), UU, UU]) dX11_goesSteps_154 rfl rfl rfl (by decide) rfl ?_
              refine ww_goto (tgt := 2) dX11_goesSteps_157 (by decide) ?_
              refine ww_lv (lv2 := [.ref m, .int (nI f0), .int (nI (4 * b)), .int (nI (4 * (nx + 1))), UU, UU]) (by rw [show 4 * (nx + 1) = 4 * nx + 4 by omega]) ?_
              rw [pfJ_o hlt (by omega) (goE_k g1)]
              have hx9 := onX_g g1 h6 sz kf vf hX (by omega)
              have eo : onX sz kf vf W nx (x.1 + 1, x.2) = (x.1 + 1, x.2.1 + 1, x.2.2.1, (onS sz kf vf W nx x.2.2.2).2) := if_pos c128
              refine ih (nx + 1) _ _ g2 ?_ hx9 ?_
              · rw [eo]; exact hA2.dn
              · exact hS2.sF (show gmY m m 31 from ⟨rfl, Or.inr (Or.inl rfl)⟩)
          · exact absurd c34 (goE_k g1)
    · have hn := agE_n g1 (by omega)
      have he := g1.2.2.2.2
      refine ww_iload_n dX11_goesSteps_2 rfl rfl ?_
      refine ww_iload_n dX11_goesSteps_3 rfl rfl ?_
      refine ww_icmp_geN (tgt := 160) dX11_goesSteps_4 (by decide) (by omega) (by omega) (fun c4 => ?_) (fun c4 => ?_)
      · exfalso; omega
      · refine ww_aload_n dX11_goesSteps_7 rfl rfl ?_
        refine ww_get 30 dX11_goesSteps_8 hA.1.K0 rfl (by decide) inX11 wg_1270 hA.2.2.2.2.1 ?_
        refine ww_sipush (v := nI 200) dX11_goesSteps_11 (by decide) ?_
        refine ww_icmp_geN (tgt := 160) dX11_goesSteps_14 (by decide) (by omega) (by omega) (fun c14 => ?_) (fun c14 => ?_)
        · exact ww_vret dX11_goesSteps_160 rfl ⟨rfl, (by rw [pfJ_e (fun q => absurd q.2 (by omega))]; exact hA), hS⟩
        · refine ww_aload_n dX11_goesSteps_17 rfl rfl ?_
          refine ww_dup dX11_goesSteps_18 rfl ?_
          refine ww_get 30 dX11_goesSteps_19 hA.1.K0 rfl (by decide) inX11 wg_1270 hA.2.2.2.2.1 ?_
          refine ww_iconst (v := nI 1) dX11_goesSteps_22 (by decide) ?_
          refine ww_iaddN dX11_goesSteps_23 ?_
          refine ww_pfI tyX11 30 dX11_goesSteps_24 hA.1.K0 rfl (by decide) inX11 tyX11_ok nmX11 wg_1270 rfl rfl ?_
          have hA1 : PmA m sz kf vf ns (x.1 + 1, x.2) (hp_sF hq m 30 (.int (nI (x.1 + 1)))) := hA.bg
          have hS1 : Same (gmX m) (gmY m) h (hp_sF hq m 30 (.int (nI (x.1 + 1)))) := hS.sF (show gmY m m 30 from ⟨rfl, Or.inl rfl⟩)
          generalize hp_sF hq m 30 (.int (nI (x.1 + 1))) = hq1 at hA1 hS1 ⊢
          refine ww_aload_n dX11_goesSteps_27 rfl rfl ?_
          refine ww_get 26 dX11_goesSteps_28 hA1.1.K0 rfl (by decide) inX11 wg_1266 hA1.1.F13 ?_
          refine ww_iload_n dX11_goesSteps_31 rfl rfl ?_
          refine ww_ialdF dX11_goesSteps_32 hA1.1.K13 hA1.2.2.1 (by omega) (by omega) ?_
          refine ww_sk (st2 := [.int (W.2.1 nx)]) (by rw [(hr nx (by omega)).1]) ?_
          refine ww_iconst (v := nI 4) dX11_goesSteps_33 (by decide) ?_
          refine ww_icmp_ne (tgt := 94) dX11_goesSteps_34 (by decide) (fun c34 => ?_) (fun c34 => ?_)
          · exact absurd g1.1 c34
          · refine ww_aload_n dX11_goesSteps_37 rfl rfl ?_
            refine ww_get 26 dX11_goesSteps_38 hA1.1.K0 rfl (by decide) inX11 wg_1266 hA1.1.F13 ?_
            refine ww_iload_n dX11_goesSteps_41 rfl rfl ?_
            refine ww_iconst (v := nI 2) dX11_goesSteps_42 (by decide) ?_
            refine ww_iaddN dX11_goesSteps_43 ?_
            refine ww_ialdF dX11_goesSteps_44 hA1.1.K13 hA1.2.2.1 (by omega) (by omega) ?_
            refine ww_sk (st2 := [.int (nI (4 * e))]) (by rw [((hr nx (by omega)).2.2.2.2 g1.1).2, g1.2.2.1, pk_mul]) ?_
            refine ww_sti (lv2 := [.ref m, .int (nI f0), .int (nI (4 * b)), .int (nI (4 * nx)), .int (nI (4 * e)), UU]) dX11_goesSteps_45 rfl (by decide) rfl ?_
            refine ww_iconst (v := nI 0) dX11_goesSteps_47 (by decide) ?_
            refine ww_sti (lv2 := [.ref m, .int (nI f0), .int (nI (4 * b)), .int (nI (4 * nx)), .int (nI (4 * e)), .int (nI 0)]) dX11_goesSteps_48 rfl (by decide) rfl ?_
            have hxg : XG np (x.1 + 1, x.2) := ⟨hX.1, by show x.1 + 1 ≤ 200; omega, by show x.2.1 + x.2.2.1 ≤ x.1 + 1; omega⟩
            obtain ⟨k2, ek, hP⟩ := hR nx e hlt g1 g2
            subst ek
            rw [WfI_s] at g2
            refine l_Mg_rep (h := h) hst hok h6 hr hW8 hd k2 nx e b (by omega) hb g1 g2 hP f0 (4 * b) (onN W nx) 0 (x.1 + 1, x.2) hq1 (by omega) hA1 hxg hS1 (fun h9 q1 q2 => ?_)
            refine ww_iload dX11_goesSteps_88 rfl ?_
            refine ww_sti_n (lv2 := [.ref m, .int (nI f0), .int (nI (4 * b)), .int (nI (4 * e)), .int (nI (4 * e)), UU]) dX11_goesSteps_90 rfl rfl (by decide) rfl ?_
            refine ww_goto (tgt := 2) dX11_goesSteps_91 (by decide) ?_
            refine ww_fg (lv2 := [.ref m, .int (nI f0), .int (nI (4 * b)), .int (nI (4 * e)), UU, UU]) ⟨Or.inr rfl, Or.inr rfl, Or.inr rfl, Or.inr rfl, Or.inl rfl, Or.inl rfl, trivial⟩ ?_
            rw [pfJ_a hlt (by omega) g1.1, hn.2.2, rpI_s, hn.2.2]
            exact ih e _ h9 g3 q1 (by have q9 := rpI_g h6 sz kf vf (k2 + 1) nx e (x.1 + 1, x.2) (by omega) hn.2.2 (by rw [WfI_s]; exact g2) hxg; rw [rpI_s, hn.2.2] at q9; exact q9) q2
set_option maxHeartbeats 4000000 in
set_option maxRecDepth 100000 in
theorem c_Mg_steps {l : Launch} {Z : EE} (hst : l.stackTraces = false) {h : PH} {m sz : Nat} {kf vf ns : Nat → Int32} (hok : LawOK kf vf sz) {np : Nat} (h6 : np ≤ 6) {W : AF} (hr : RsR W ns) (hW8 : W.1 ≤ 38) {d : Nat} (hd : 6 ≤ d) (k b : Nat) (hb : b ≤ W.1) (hR : ∀ (i e : Nat), i < b → agE W i b e → WfI np W k (i + 1) e → ∃ k2, k = k2 + 1 ∧ ∀ (x : XS) (hq : PH), PmA m sz kf vf ns x hq → XG np x → CC l Z m_X11_goesSteps d 0 0 [.ref m, .int (nI (4 * (i + 1))), .int (nI (4 * e))] hq (RQ none (fun h9 => PmA m sz kf vf ns (pfJ W (onX sz kf vf W) (rpI W (onX sz kf vf W) k2) 38 (i + 1) e x) h9 ∧ Same (gmX m) (gmY m) hq h9))) (a0 : Nat) (hw : WfJ np W (WfI np W k) 38 a0 b) (x : XS) (hA : PmA m sz kf vf ns x h) (hX : XG np x) : CC l Z m_X11_goesSteps (d + 1) 0 0 [.ref m, .int (nI (4 * a0)), .int (nI (4 * b))] h (RQ none (fun h9 => PmA m sz kf vf ns (pfJ W (onX sz kf vf W) (rpI W (onX sz kf vf W) k) 38 a0 b x) h9 ∧ Same (gmX m) (gmY m) h h9)) := by
  refine ee_entry hst (by decide +kernel) rfl rfl (by simp [Value.category]) (Nat.le_of_ble_eq_true rfl) ?_
  refine ww_lv (lv2 := [.ref m, .int (nI (4 * a0)), .int (nI (4 * b)), UU, UU, UU]) rfl ?_
  refine ww_iload_n dX11_goesSteps_0 rfl rfl ?_
  refine ww_sti_n (lv2 := [.ref m, .int (nI (4 * a0)), .int (nI (4 * b)), .int (nI (4 * a0)), UU, UU]) dX11_goesSteps_1 rfl rfl (by decide) rfl ?_
  exact l_Mg_steps hst hok h6 hr hW8 hd k b hb hR (4 * a0) 38 a0 x h hw hA hX Same.rf
theorem c_Mg_K {l : Launch} {Z : EE} (hst : l.stackTraces = false) {m sz : Nat} {kf vf ns : Nat → Int32} (hok : LawOK kf vf sz) {np : Nat} (h6 : np ≤ 6) {W : AF} (hr : RsR W ns) (hW8 : W.1 ≤ 38) : ∀ (k a0 b : Nat), b ≤ W.1 → WfJ np W (WfI np W k) 38 a0 b → ∀ (x : XS) (h : PH), PmA m sz kf vf ns x h → XG np x → CC l Z m_X11_goesSteps (k + 7) 0 0 [.ref m, .int (nI (4 * a0)), .int (nI (4 * b))] h (RQ none (fun h9 => PmA m sz kf vf ns (pfJ W (onX sz kf vf W) (rpI W (onX sz kf vf W) k) 38 a0 b x) h9 ∧ Same (gmX m) (gmY m) h h9)) := by
  intro k
  induction k with
  | zero =>
    intro a0 b hb hw x h hA hX
    exact c_Mg_steps hst hok h6 hr hW8 (d := 6) (by omega) 0 b hb (fun i e h1 h2 h3 => h3.elim) a0 hw x hA hX
  | succ k ih =>
    intro a0 b hb hw x h hA hX
    exact c_Mg_steps hst hok h6 hr hW8 (d := k + 7) (by omega) (k + 1) b hb (fun i e h1 h2 h3 => by
      rw [WfI_s] at h3
      exact ⟨k, rfl, fun y hq2 q1 q2 => ih (i + 1) e (by have := h2.2.2.2.2; omega) h3 y hq2 q1 q2⟩) a0 hw x hA hX
