theorem ModS.sam {h h' : PH} {m : Nat} {X : Nat → Prop} (hM : ModS h m) (hS : Same X (fun _ _ => False) h h') : ModS h' m := hM.same hS (fun _ _ e => e)
def cpF (f g : Nat → Int32) (c : Nat) : Nat → Int32 := fun i => if i < c then f i else g i
theorem cpF_0 (f g : Nat → Int32) : cpF f g 0 = g := by funext i; unfold cpF; rw [if_neg (by omega)]
theorem cpF_s (f g : Nat → Int32) (k : Nat) : upd (cpF f g k) k (f k) = cpF f g (k + 1) := by
  funext i
  unfold upd cpF
  by_cases h1 : i = k
  · rw [if_pos h1, if_pos (by omega), h1]
  · rw [if_neg h1]
    by_cases h2 : i < k
    · rw [if_pos h2, if_pos (by omega)]
    · rw [if_neg h2, if_neg (by omega)]
theorem cpF_in {f g : Nat → Int32} {c i : Nat} (h : i < c) : cpF f g c i = f i := if_pos h
theorem fareC_congr {f g : Nat → Int32} (hfg : ∀ i, i < 190 → f i = g i) {sz : Nat} {kf vf : Nat → Int32} {n w : Nat} (hn : n ≤ 60) : fareC f sz kf vf n w = fareC g sz kf vf n w := by
  unfold fareC
  rw [hfg n (by omega), hfg (61 + n) (by omega), hfg (122 + n) (by omega), hfg 189 (by omega)]
def hbI (x : Int32) : Int32 := if x ≤ nI 9999 then x else nI 9999
theorem hbI_mn (x : Int32) : hbI x = mnI (nI 9999) x := by
  unfold hbI mnI
  by_cases h1 : x < nI 9999
  · rw [if_pos h1, if_pos (Int32.le_of_lt h1)]
  · rw [if_neg h1]
    by_cases h2 : x ≤ nI 9999
    · rw [if_pos h2]; exact Int32.le_antisymm h2 (Int32.not_lt.mp h1)
    · rw [if_neg h2]
theorem nI_sub0 (c : Nat) : nI c - nI 0 = nI c := by rw [pk_sub (Nat.zero_le c)]; rfl
theorem upd_id (f : Nat → Int32) (k : Nat) (x : Int32) (h : f k = x) : upd f k x = f := by
  funext i
  unfold upd
  by_cases e : i = k
  · rw [if_pos e, e, h]
  · rw [if_neg e]
set_option maxHeartbeats 4000000 in
set_option maxRecDepth 100000 in
theorem l_M_copies {l : Launch} {Z : EE} (hst : l.stackTraces = false) {h : PH} {m : Nat} (hM : ModS h m) {x y nx ny : Nat} {fx fy : Nat → Int32} (hx : hp_K h x = (20, nx)) (hy : hp_K h y = (20, ny)) (hxy : x ≠ y) (hfx : hp_I h x = fx) (hfy : hp_I h y = fy) (c : Nat) (hcx : c ≤ nx) (hcy : c ≤ ny) (hnx : nx < 2 ^ 31) (hny : ny < 2 ^ 31) {Post : Res → PH → Prop} : ∀ (j k : Nat), k + j = c → WW l Z m_X11_copies 0 0 0 23 [.ref m, .ref x, .ref y, .int (nI c), .int (nI c)] [] (hp_sI h y (cpF fx fy c)) Post → WW l Z m_X11_copies 0 0 0 3 [.ref m, .ref x, .ref y, .int (nI c), .int (nI k)] [] (hp_sI h y (cpF fx fy k)) Post := by
  intro j
  induction j with
  | zero =>
    intro k hk hexit
    have hk0 : k = c := by omega
    subst hk0
    refine ww_iload dX11_copies_3 rfl ?_
    refine ww_iload_n dX11_copies_5 rfl rfl ?_
    refine ww_icmp_geN (tgt := 23) dX11_copies_6 (by decide) (by omega) (by omega) (fun c6 => ?_) (fun c6 => ?_)
    · exact hexit
    · exfalso; omega
  | succ j ih =>
    intro k hk hexit
    refine ww_iload dX11_copies_3 rfl ?_
    refine ww_iload_n dX11_copies_5 rfl rfl ?_
    refine ww_icmp_geN (tgt := 23) dX11_copies_6 (by decide) (by omega) (by omega) (fun c6 => ?_) (fun c6 => ?_)
    · exfalso; omega
    · refine ww_aload_n dX11_copies_9 rfl rfl ?_
      refine ww_iload dX11_copies_10 rfl ?_
      refine ww_aload_n dX11_copies_12 rfl rfl ?_
      refine ww_iload dX11_copies_13 rfl ?_
      refine ww_ialdF dX11_copies_15 hx (hp_I_nx hxy hfx) (by omega) (by omega) ?_
      refine ww_iastC dX11_copies_16 hy (by omega) (by omega) ?_
      refine ww_incN (c := 1) (lv2 := [.ref m, .ref x, .ref y, .int (nI c), .int (nI (k + 1))]) dX11_copies_17 rfl rfl rfl (by decide) rfl ?_
      refine ww_goto (tgt := 3) dX11_copies_20 (by decide) ?_
      refine ww_hp (h2 := hp_sI h y (cpF fx fy (k + 1))) (by rw [cpF_s]) ?_
      exact ih (k + 1) (by omega) hexit
set_option maxHeartbeats 4000000 in
set_option maxRecDepth 100000 in
theorem c_M_copies {l : Launch} {Z : EE} (hst : l.stackTraces = false) {h : PH} {m : Nat} (hM : ModS h m) {x y nx ny : Nat} {fx fy : Nat → Int32} (hx : hp_K h x = (20, nx)) (hy : hp_K h y = (20, ny)) (hxy : x ≠ y) (hfx : hp_I h x = fx) (hfy : hp_I h y = fy) (c : Nat) (hcx : c ≤ nx) (hcy : c ≤ ny) (hnx : nx < 2 ^ 31) (hny : ny < 2 ^ 31) : CC l Z m_X11_copies 0 0 0 [.ref m, .ref x, .ref y, .int (nI c)] h (RT none (hp_sI h y (cpF fx fy c))) := by
  refine ee_entry hst (by decide +kernel) rfl rfl (by simp [Value.category]) (Nat.le_of_ble_eq_true rfl) ?_
  refine ww_lv (lv2 := [.ref m, .ref x, .ref y, .int (nI c), UU]) rfl ?_
  refine ww_iconst (v := nI 0) dX11_copies_0 (by decide) ?_
  refine ww_sti (lv2 := [.ref m, .ref x, .ref y, .int (nI c), .int (nI 0)]) dX11_copies_1 rfl (by decide) rfl ?_
  refine ww_hp (h2 := hp_sI h y (cpF fx fy 0)) (by rw [cpF_0, ← hfy, hp_sI_id]) ?_
  refine l_M_copies hst hM hx hy hxy hfx hfy c hcx hcy hnx hny c 0 (by omega) ?_
  exact ww_vret dX11_copies_23 rfl ⟨rfl, rfl⟩
set_option maxHeartbeats 4000000 in
set_option maxRecDepth 100000 in
theorem c_M_take {l : Launch} {Z : EE} (hst : l.stackTraces = false) {h : PH} {m : Nat} (hM : ModS h m) {f g : Nat → Int32} (hf : hp_I h (m + 14) = f) (hs : hp_I h (m + 15) = g) : CC l Z m_X11_take 1 0 0 [.ref m] h (RT none (hp_sI h (m + 15) (cpF f g 190))) := by
  refine ee_entry hst (by decide +kernel) rfl rfl (by simp [Value.category]) (Nat.le_of_ble_eq_true rfl) ?_
  refine ww_lv (lv2 := [.ref m]) rfl ?_
  refine ww_aload_n dX11_take_0 rfl rfl ?_
  refine ww_aload_n dX11_take_1 rfl rfl ?_
  refine ww_get 33 dX11_take_2 hM.K0 rfl (by decide) inX11 wg_1273 hM.F14 ?_
  refine ww_aload_n dX11_take_5 rfl rfl ?_
  refine ww_get 34 dX11_take_6 hM.K0 rfl (by decide) inX11 wg_1274 hM.F15 ?_
  refine ww_sipush (v := nI 190) dX11_take_9 (by decide) ?_
  refine ww_cV0 (M := m_X11_take) (pc := 12) (h1 := hp_sI h (m + 15) (cpF f g 190)) (st := []) (bc := 0) (bs := 0) (c_M_copies hst hM hM.K14 hM.K15 (by omega) hf hs 190 (by omega) (by omega) (by omega) (by omega)) vv_X11_copies dX11_take_12 wg_1516 hM.K0 rfl rfl rfl rfl (Nat.le_of_ble_eq_true rfl) (Nat.le_of_ble_eq_true rfl) (Nat.le_of_ble_eq_true rfl) (Nat.le_of_ble_eq_true rfl) ?_
  exact ww_vret dX11_take_15 rfl ⟨rfl, rfl⟩
set_option maxHeartbeats 4000000 in
set_option maxRecDepth 100000 in
theorem c_M_heldBy {l : Launch} {Z : EE} (hst : l.stackTraces = false) {h : PH} {m : Nat} (hM : ModS h m) (x : Int32) : CC l Z m_X11_heldBy 0 0 0 [.ref m, .int x] h (RT (some (.int (hbI x))) h) := by
  refine ee_entry hst (by decide +kernel) rfl rfl (by simp [Value.category]) (Nat.le_of_ble_eq_true rfl) ?_
  refine ww_lv (lv2 := [.ref m, .int x]) rfl ?_
  refine ww_iload_n dX11_heldBy_0 rfl rfl ?_
  refine ww_sipush (v := nI 9999) dX11_heldBy_1 (by decide) ?_
  refine ww_icmp_le (tgt := 13) dX11_heldBy_4 (by decide) (fun c4 => ?_) (fun c4 => ?_)
  · refine ww_iload_n dX11_heldBy_13 rfl rfl ?_
    exact ww_iret dX11_heldBy_14 rfl ⟨by unfold hbI; first | rw [if_pos (by simpa using c4)] | rw [if_neg (by simpa using c4)], rfl⟩
  · refine ww_sipush (v := nI 9999) dX11_heldBy_7 (by decide) ?_
    refine ww_goto (tgt := 14) dX11_heldBy_10 (by decide) ?_
    exact ww_iret dX11_heldBy_14 rfl ⟨by unfold hbI; first | rw [if_pos (by simpa using c4)] | rw [if_neg (by simpa using c4)], rfl⟩
set_option maxHeartbeats 4000000 in
set_option maxRecDepth 100000 in
theorem c_M_uses_a {l : Launch} {Z : EE} (hst : l.stackTraces = false) {h : PH} {m : Nat} (hM : ModS h m) {sz : Nat} {kf vf : Nat → Int32} (hQ : LawM h m sz kf vf) (hok : LawOK kf vf sz) {g : Nat → Int32} (hs : hp_I h (m + 15) = g) (q n : Nat) (hq : q < 6) (hn : n ≤ 60) (w : Nat) (hw : w ≤ 2) (ho : g n = -1) : CC l Z m_X11_uses 5 0 0 [.ref m, .int (nI q), .int (nI n), .int (nI w)] h (RQ (some (.int (bI (useF g q n (fareC g sz kf vf n w)).1))) (fun h9 => Same (fun c => c = m + 10 ∨ c = m + 11 ∨ c = m + 15) (fun _ _ => False) h h9 ∧ hp_I h9 (m + 15) = (useF g q n (fareC g sz kf vf n w)).2)) := by
  refine ee_entry hst (by decide +kernel) rfl rfl (by simp [Value.category]) (Nat.le_of_ble_eq_true rfl) ?_
  refine ww_lv (lv2 := [.ref m, .int (nI q), .int (nI n), .int (nI w), UU, UU]) rfl ?_
  have nz : ¬ (-1 : Int32) = nI q := fun e => nI_nm1 q hq e.symm
  refine ww_aload_n dX11_uses_0 rfl rfl ?_
  refine ww_get 34 dX11_uses_1 hM.K0 rfl (by decide) inX11 wg_1274 hM.F15 ?_
  refine ww_iconst (v := nI 0) dX11_uses_4 (by decide) ?_
  refine ww_iload_n dX11_uses_5 rfl rfl ?_
  refine ww_iadd0 dX11_uses_6 ?_
  refine ww_ialdF dX11_uses_7 hM.K15 hs (by omega) (by omega) ?_
  rw [ho]
  refine ww_sti (lv2 := [.ref m, .int (nI q), .int (nI n), .int (nI w), .int (-1), UU]) dX11_uses_8 rfl (by decide) rfl ?_
  refine ww_iload dX11_uses_10 rfl ?_
  refine ww_iload_n dX11_uses_12 rfl rfl ?_
  refine ww_icmp_ne (tgt := 20) dX11_uses_13 (by decide) (fun c13 => ?_) (fun c13 => ?_)
  · refine ww_aload_n dX11_uses_20 rfl rfl ?_
    refine ww_iload_n dX11_uses_21 rfl rfl ?_
    refine ww_iload_n dX11_uses_22 rfl rfl ?_
    refine ww_cVq (M := m_X11_uses) (pc := 23) (v := .int (fareC g sz kf vf n w)) (st := []) (bc := 0) (bs := 0) (c_M_fareBy hst hM hQ hok hs n (by omega) w hw) vv_X11_fareBy dX11_uses_23 wg_1555 hM.K0 rfl rfl rfl rfl (Nat.le_of_ble_eq_true rfl) (Nat.le_of_ble_eq_true rfl) (Nat.le_of_ble_eq_true rfl) (Nat.le_of_ble_eq_true rfl) (fun h9 q9 => ?_)
    refine ww_sti (lv2 := [.ref m, .int (nI q), .int (nI n), .int (nI w), .int (-1), .int (fareC g sz kf vf n w)]) dX11_uses_26 rfl (by decide) rfl ?_
    refine ww_aload_n dX11_uses_28 rfl rfl ?_
    refine ww_get 34 dX11_uses_29 ((q9.2.1 _).trans hM.K0) rfl (by decide) inX11 wg_1274 ((q9.2.2.1 _ _ (fun e => e)).trans hM.F15) ?_
    refine ww_sipush (v := nI 183) dX11_uses_32 (by decide) ?_
    refine ww_iload_n dX11_uses_35 rfl rfl ?_
    refine ww_iaddN dX11_uses_36 ?_
    refine ww_ialdF dX11_uses_37 ((q9.2.1 _).trans hM.K15) ((q9.2.2.2.1 _ (by omega)).trans hs) (by omega) (by omega) ?_
    refine ww_iload dX11_uses_38 rfl ?_
    refine ww_icmp_ge (tgt := 45) dX11_uses_40 (by decide) (fun c40 => ?_) (fun c40 => ?_)
    · refine ww_aload_n dX11_uses_45 rfl rfl ?_
      refine ww_get 34 dX11_uses_46 ((q9.2.1 _).trans hM.K0) rfl (by decide) inX11 wg_1274 ((q9.2.2.1 _ _ (fun e => e)).trans hM.F15) ?_
      refine ww_sipush (v := nI 183) dX11_uses_49 (by decide) ?_
      refine ww_iload_n dX11_uses_52 rfl rfl ?_
      refine ww_iaddN dX11_uses_53 ?_
      refine ww_dup2 dX11_uses_54 rfl rfl ?_
      refine ww_ialdF dX11_uses_55 ((q9.2.1 _).trans hM.K15) ((q9.2.2.2.1 _ (by omega)).trans hs) (by omega) (by omega) ?_
      refine ww_iload dX11_uses_56 rfl ?_
      refine ww_isub dX11_uses_58 ?_
      refine ww_iastF dX11_uses_59 ((q9.2.1 _).trans hM.K15) ((q9.2.2.2.1 _ (by omega)).trans hs) (by omega) (by omega) ?_
      refine ww_iload dX11_uses_60 rfl ?_
      refine ww_iconst (v := -1) dX11_uses_62 (by decide) ?_
      refine ww_icmp_eq (tgt := 95) dX11_uses_63 (by decide) (fun c63 => ?_) (fun c63 => ?_)
      · refine ww_aload_n dX11_uses_95 rfl rfl ?_
        refine ww_get 34 dX11_uses_96 ((q9.2.1 _).trans hM.K0) rfl (by decide) inX11 wg_1274 ((q9.2.2.1 _ _ (fun e => e)).trans hM.F15) ?_
        refine ww_bipush (v := nI 122) dX11_uses_99 (by decide) ?_
        refine ww_iload_n dX11_uses_101 rfl rfl ?_
        refine ww_iaddN dX11_uses_102 ?_
        refine ww_dup2 dX11_uses_103 rfl rfl ?_
        refine ww_ialdF dX11_uses_104 ((q9.2.1 _).trans hM.K15) (hp_I_eq _ _ _) (by omega) (by omega) ?_
        refine ww_iconst (v := nI 1) dX11_uses_105 (by decide) ?_
        refine ww_iadd dX11_uses_106 ?_
        refine ww_iastC dX11_uses_107 ((q9.2.1 _).trans hM.K15) (by omega) (by omega) ?_
        refine ww_iconst (v := nI 1) dX11_uses_108 (by decide) ?_
        exact ww_zret dX11_uses_109 rfl (by first | rfl | exact nar_bI _) ⟨by simp [useF, ho, nz, show fareC g sz kf vf n w ≤ g (183 + q) from c40, bI]; (try rfl), ((Same.rf.tr (q9.mono (fun c hc => hc.elim Or.inl (fun e => Or.inr (Or.inl e))) (fun _ _ e => e))).sI (Or.inr (Or.inr rfl))), by rw [hp_I_eq]; simp [useF, ho, nz, payF, show fareC g sz kf vf n w ≤ g (183 + q) from c40]⟩
      · exact absurd rfl c63
    · refine ww_iconst (v := nI 0) dX11_uses_43 (by decide) ?_
      exact ww_zret dX11_uses_44 rfl (by first | rfl | exact nar_bI _) ⟨by simp [useF, ho, nz, c40, bI]; (try rfl), (Same.rf.tr (q9.mono (fun c hc => hc.elim Or.inl (fun e => Or.inr (Or.inl e))) (fun _ _ e => e))), by rw [(q9.2.2.2.1 _ (by omega)).trans hs]; simp [useF, ho, nz, c40]⟩
  · exact absurd c13.symm (nI_nm1 q hq)
set_option maxHeartbeats 4000000 in
set_option maxRecDepth 100000 in
theorem c_M_uses_b {l : Launch} {Z : EE} (hst : l.stackTraces = false) {h : PH} {m : Nat} (hM : ModS h m) {sz : Nat} {kf vf : Nat → Int32} (hQ : LawM h m sz kf vf) (hok : LawOK kf vf sz) {g : Nat → Int32} (hs : hp_I h (m + 15) = g) (q n : Nat) (hq : q < 6) (hn : n ≤ 60) (w : Nat) (hw : w ≤ 2) (o : Nat) (ho6 : o < 6) (hoq : o ≠ q) (ho : g n = nI o) : CC l Z m_X11_uses 5 0 0 [.ref m, .int (nI q), .int (nI n), .int (nI w)] h (RQ (some (.int (bI (useF g q n (fareC g sz kf vf n w)).1))) (fun h9 => Same (fun c => c = m + 10 ∨ c = m + 11 ∨ c = m + 15) (fun _ _ => False) h h9 ∧ hp_I h9 (m + 15) = (useF g q n (fareC g sz kf vf n w)).2)) := by
  refine ee_entry hst (by decide +kernel) rfl rfl (by simp [Value.category]) (Nat.le_of_ble_eq_true rfl) ?_
  refine ww_lv (lv2 := [.ref m, .int (nI q), .int (nI n), .int (nI w), UU, UU]) rfl ?_
  have nz : ¬ nI o = nI q := nI_ne hoq (by omega) (by omega)
  have n1 := nI_nm1 o ho6
  refine ww_aload_n dX11_uses_0 rfl rfl ?_
  refine ww_get 34 dX11_uses_1 hM.K0 rfl (by decide) inX11 wg_1274 hM.F15 ?_
  refine ww_iconst (v := nI 0) dX11_uses_4 (by decide) ?_
  refine ww_iload_n dX11_uses_5 rfl rfl ?_
  refine ww_iadd0 dX11_uses_6 ?_
  refine ww_ialdF dX11_uses_7 hM.K15 hs (by omega) (by omega) ?_
  rw [ho]
  refine ww_sti (lv2 := [.ref m, .int (nI q), .int (nI n), .int (nI w), .int (nI o), UU]) dX11_uses_8 rfl (by decide) rfl ?_
  refine ww_iload dX11_uses_10 rfl ?_
  refine ww_iload_n dX11_uses_12 rfl rfl ?_
  refine ww_icmp_neN (tgt := 20) dX11_uses_13 (by decide) (by omega) (by omega) (fun c13 => ?_) (fun c13 => ?_)
  · refine ww_aload_n dX11_uses_20 rfl rfl ?_
    refine ww_iload_n dX11_uses_21 rfl rfl ?_
    refine ww_iload_n dX11_uses_22 rfl rfl ?_
    refine ww_cVq (M := m_X11_uses) (pc := 23) (v := .int (fareC g sz kf vf n w)) (st := []) (bc := 0) (bs := 0) (c_M_fareBy hst hM hQ hok hs n (by omega) w hw) vv_X11_fareBy dX11_uses_23 wg_1555 hM.K0 rfl rfl rfl rfl (Nat.le_of_ble_eq_true rfl) (Nat.le_of_ble_eq_true rfl) (Nat.le_of_ble_eq_true rfl) (Nat.le_of_ble_eq_true rfl) (fun h9 q9 => ?_)
    refine ww_sti (lv2 := [.ref m, .int (nI q), .int (nI n), .int (nI w), .int (nI o), .int (fareC g sz kf vf n w)]) dX11_uses_26 rfl (by decide) rfl ?_
    refine ww_aload_n dX11_uses_28 rfl rfl ?_
    refine ww_get 34 dX11_uses_29 ((q9.2.1 _).trans hM.K0) rfl (by decide) inX11 wg_1274 ((q9.2.2.1 _ _ (fun e => e)).trans hM.F15) ?_
    refine ww_sipush (v := nI 183) dX11_uses_32 (by decide) ?_
    refine ww_iload_n dX11_uses_35 rfl rfl ?_
    refine ww_iaddN dX11_uses_36 ?_
    refine ww_ialdF dX11_uses_37 ((q9.2.1 _).trans hM.K15) ((q9.2.2.2.1 _ (by omega)).trans hs) (by omega) (by omega) ?_
    refine ww_iload dX11_uses_38 rfl ?_
    refine ww_icmp_ge (tgt := 45) dX11_uses_40 (by decide) (fun c40 => ?_) (fun c40 => ?_)
    · refine ww_aload_n dX11_uses_45 rfl rfl ?_
      refine ww_get 34 dX11_uses_46 ((q9.2.1 _).trans hM.K0) rfl (by decide) inX11 wg_1274 ((q9.2.2.1 _ _ (fun e => e)).trans hM.F15) ?_
      refine ww_sipush (v := nI 183) dX11_uses_49 (by decide) ?_
      refine ww_iload_n dX11_uses_52 rfl rfl ?_
      refine ww_iaddN dX11_uses_53 ?_
      refine ww_dup2 dX11_uses_54 rfl rfl ?_
      refine ww_ialdF dX11_uses_55 ((q9.2.1 _).trans hM.K15) ((q9.2.2.2.1 _ (by omega)).trans hs) (by omega) (by omega) ?_
      refine ww_iload dX11_uses_56 rfl ?_
      refine ww_isub dX11_uses_58 ?_
      refine ww_iastF dX11_uses_59 ((q9.2.1 _).trans hM.K15) ((q9.2.2.2.1 _ (by omega)).trans hs) (by omega) (by omega) ?_
      refine ww_iload dX11_uses_60 rfl ?_
      refine ww_iconst (v := -1) dX11_uses_62 (by decide) ?_
      refine ww_icmp_eq (tgt := 95) dX11_uses_63 (by decide) (fun c63 => ?_) (fun c63 => ?_)
      · exact absurd c63 (nI_nm1 o ho6)
      · refine ww_aload_n dX11_uses_66 rfl rfl ?_
        refine ww_get 34 dX11_uses_67 ((q9.2.1 _).trans hM.K0) rfl (by decide) inX11 wg_1274 ((q9.2.2.1 _ _ (fun e => e)).trans hM.F15) ?_
        refine ww_sipush (v := nI 183) dX11_uses_70 (by decide) ?_
        refine ww_iload dX11_uses_73 rfl ?_
        refine ww_iaddN dX11_uses_75 ?_
        refine ww_aload_n dX11_uses_76 rfl rfl ?_
        refine ww_aload_n dX11_uses_77 rfl rfl ?_
        refine ww_get 34 dX11_uses_78 ((q9.2.1 _).trans hM.K0) rfl (by decide) inX11 wg_1274 ((q9.2.2.1 _ _ (fun e => e)).trans hM.F15) ?_
        refine ww_sipush (v := nI 183) dX11_uses_81 (by decide) ?_
        refine ww_iload dX11_uses_84 rfl ?_
        refine ww_iaddN dX11_uses_86 ?_
        refine ww_ialdF dX11_uses_87 ((q9.2.1 _).trans hM.K15) (hp_I_eq _ _ _) (by omega) (by omega) ?_
        refine ww_iload dX11_uses_88 rfl ?_
        refine ww_iadd dX11_uses_90 ?_
        refine ww_cVr (M := m_X11_uses) (pc := 91) (v := .int (hbI (((upd g (183 + q) ((g (183 + q)) - (fareC g sz kf vf n w))) (183 + o)) + (fareC g sz kf vf n w)))) (h1 := hp_sI h9 (m + 15) (upd g (183 + q) ((g (183 + q)) - (fareC g sz kf vf n w)))) (st := [.int (nI (183 + o)), .ref (m + 15)]) (bc := 0) (bs := 0) (c_M_heldBy hst (h := hp_sI h9 (m + 15) (upd g (183 + q) ((g (183 + q)) - (fareC g sz kf vf n w)))) (hM.sam q9 : ModS h9 m) (((upd g (183 + q) ((g (183 + q)) - (fareC g sz kf vf n w))) (183 + o)) + (fareC g sz kf vf n w))) vv_X11_heldBy dX11_uses_91 wg_1577 ((q9.2.1 _).trans hM.K0) rfl rfl rfl rfl (Nat.le_of_ble_eq_true rfl) (Nat.le_of_ble_eq_true rfl) (Nat.le_of_ble_eq_true rfl) (Nat.le_of_ble_eq_true rfl) ?_
        refine ww_iastC dX11_uses_94 ((q9.2.1 _).trans hM.K15) (by omega) (by omega) ?_
        refine ww_aload_n dX11_uses_95 rfl rfl ?_
        refine ww_get 34 dX11_uses_96 ((q9.2.1 _).trans hM.K0) rfl (by decide) inX11 wg_1274 ((q9.2.2.1 _ _ (fun e => e)).trans hM.F15) ?_
        refine ww_bipush (v := nI 122) dX11_uses_99 (by decide) ?_
        refine ww_iload_n dX11_uses_101 rfl rfl ?_
        refine ww_iaddN dX11_uses_102 ?_
        refine ww_dup2 dX11_uses_103 rfl rfl ?_
        refine ww_ialdF dX11_uses_104 ((q9.2.1 _).trans hM.K15) (hp_I_eq _ _ _) (by omega) (by omega) ?_
        refine ww_iconst (v := nI 1) dX11_uses_105 (by decide) ?_
        refine ww_iadd dX11_uses_106 ?_
        refine ww_iastC dX11_uses_107 ((q9.2.1 _).trans hM.K15) (by omega) (by omega) ?_
        refine ww_iconst (v := nI 1) dX11_uses_108 (by decide) ?_
        exact ww_zret dX11_uses_109 rfl (by first | rfl | exact nar_bI _) ⟨by simp [useF, ho, nz, show fareC g sz kf vf n w ≤ g (183 + q) from c40, bI]; (try rfl), ((Same.rf.tr (q9.mono (fun c hc => hc.elim Or.inl (fun e => Or.inr (Or.inl e))) (fun _ _ e => e))).sI (Or.inr (Or.inr rfl))), by rw [hp_I_eq]; simp [useF, ho, nz, n1, payF, hbI_mn, nI_clamp (show o < 2 ^ 31 by omega), show fareC g sz kf vf n w ≤ g (183 + q) from c40]⟩
    · refine ww_iconst (v := nI 0) dX11_uses_43 (by decide) ?_
      exact ww_zret dX11_uses_44 rfl (by first | rfl | exact nar_bI _) ⟨by simp [useF, ho, nz, c40, bI]; (try rfl), (Same.rf.tr (q9.mono (fun c hc => hc.elim Or.inl (fun e => Or.inr (Or.inl e))) (fun _ _ e => e))), by rw [(q9.2.2.2.1 _ (by omega)).trans hs]; simp [useF, ho, nz, c40]⟩
  · exfalso; omega
set_option maxHeartbeats 4000000 in
set_option maxRecDepth 100000 in
theorem c_M_uses_c {l : Launch} {Z : EE} (hst : l.stackTraces = false) {h : PH} {m : Nat} (hM : ModS h m) {sz : Nat} {kf vf : Nat → Int32} (hQ : LawM h m sz kf vf) (hok : LawOK kf vf sz) {g : Nat → Int32} (hs : hp_I h (m + 15) = g) (q n : Nat) (hq : q < 6) (hn : n ≤ 60) (w : Nat) (hw : w ≤ 2) (ho : g n = nI q) (c : Nat) (hc : c ≤ 9999) (hcq : g (183 + q) = nI c) : CC l Z m_X11_uses 5 0 0 [.ref m, .int (nI q), .int (nI n), .int (nI w)] h (RQ (some (.int (bI (useF g q n (fareC g sz kf vf n w)).1))) (fun h9 => Same (fun c => c = m + 10 ∨ c = m + 11 ∨ c = m + 15) (fun _ _ => False) h h9 ∧ hp_I h9 (m + 15) = (useF g q n (fareC g sz kf vf n w)).2)) := by
  refine ee_entry hst (by decide +kernel) rfl rfl (by simp [Value.category]) (Nat.le_of_ble_eq_true rfl) ?_
  refine ww_lv (lv2 := [.ref m, .int (nI q), .int (nI n), .int (nI w), UU, UU]) rfl ?_
  have u1 : upd g (183 + q) (g (183 + q) - nI 0) = g := upd_id g _ _ (by rw [hcq, nI_sub0])
  have u2 : upd g (183 + q) (hbI (g (183 + q) + nI 0)) = g := upd_id g _ _ (by rw [hcq, nI_add, Nat.add_zero]; unfold hbI; rw [if_pos (nI_le hc (by omega))])
  refine ww_aload_n dX11_uses_0 rfl rfl ?_
  refine ww_get 34 dX11_uses_1 hM.K0 rfl (by decide) inX11 wg_1274 hM.F15 ?_
  refine ww_iconst (v := nI 0) dX11_uses_4 (by decide) ?_
  refine ww_iload_n dX11_uses_5 rfl rfl ?_
  refine ww_iadd0 dX11_uses_6 ?_
  refine ww_ialdF dX11_uses_7 hM.K15 hs (by omega) (by omega) ?_
  rw [ho]
  refine ww_sti (lv2 := [.ref m, .int (nI q), .int (nI n), .int (nI w), .int (nI q), UU]) dX11_uses_8 rfl (by decide) rfl ?_
  refine ww_iload dX11_uses_10 rfl ?_
  refine ww_iload_n dX11_uses_12 rfl rfl ?_
  refine ww_icmp_neN (tgt := 20) dX11_uses_13 (by decide) (by omega) (by omega) (fun c13 => ?_) (fun c13 => ?_)
  · exact absurd rfl c13
  · refine ww_iconst (v := nI 0) dX11_uses_16 (by decide) ?_
    refine ww_goto (tgt := 26) dX11_uses_17 (by decide) ?_
    refine ww_sti (lv2 := [.ref m, .int (nI q), .int (nI n), .int (nI w), .int (nI q), .int (nI 0)]) dX11_uses_26 rfl (by decide) rfl ?_
    refine ww_aload_n dX11_uses_28 rfl rfl ?_
    refine ww_get 34 dX11_uses_29 hM.K0 rfl (by decide) inX11 wg_1274 hM.F15 ?_
    refine ww_sipush (v := nI 183) dX11_uses_32 (by decide) ?_
    refine ww_iload_n dX11_uses_35 rfl rfl ?_
    refine ww_iaddN dX11_uses_36 ?_
    refine ww_ialdF dX11_uses_37 hM.K15 hs (by omega) (by omega) ?_
    rw [hcq]
    refine ww_iload dX11_uses_38 rfl ?_
    refine ww_icmp_geN (tgt := 45) dX11_uses_40 (by decide) (by omega) (by omega) (fun c40 => ?_) (fun c40 => ?_)
    · refine ww_aload_n dX11_uses_45 rfl rfl ?_
      refine ww_get 34 dX11_uses_46 hM.K0 rfl (by decide) inX11 wg_1274 hM.F15 ?_
      refine ww_sipush (v := nI 183) dX11_uses_49 (by decide) ?_
      refine ww_iload_n dX11_uses_52 rfl rfl ?_
      refine ww_iaddN dX11_uses_53 ?_
      refine ww_dup2 dX11_uses_54 rfl rfl ?_
      refine ww_ialdF dX11_uses_55 hM.K15 hs (by omega) (by omega) ?_
      refine ww_iload dX11_uses_56 rfl ?_
      refine ww_isub dX11_uses_58 ?_
      refine ww_iastF dX11_uses_59 hM.K15 hs (by omega) (by omega) ?_
      refine ww_iload dX11_uses_60 rfl ?_
      refine ww_iconst (v := -1) dX11_uses_62 (by decide) ?_
      refine ww_icmp_eq (tgt := 95) dX11_uses_63 (by decide) (fun c63 => ?_) (fun c63 => ?_)
      · exact absurd c63 (nI_nm1 q hq)
      · refine ww_aload_n dX11_uses_66 rfl rfl ?_
        refine ww_get 34 dX11_uses_67 hM.K0 rfl (by decide) inX11 wg_1274 hM.F15 ?_
        refine ww_sipush (v := nI 183) dX11_uses_70 (by decide) ?_
        refine ww_iload dX11_uses_73 rfl ?_
        refine ww_iaddN dX11_uses_75 ?_
        refine ww_aload_n dX11_uses_76 rfl rfl ?_
        refine ww_aload_n dX11_uses_77 rfl rfl ?_
        refine ww_get 34 dX11_uses_78 hM.K0 rfl (by decide) inX11 wg_1274 hM.F15 ?_
        refine ww_sipush (v := nI 183) dX11_uses_81 (by decide) ?_
        refine ww_iload dX11_uses_84 rfl ?_
        refine ww_iaddN dX11_uses_86 ?_
        refine ww_ialdF dX11_uses_87 hM.K15 (hp_I_eq _ _ _) (by omega) (by omega) ?_
        refine ww_iload dX11_uses_88 rfl ?_
        refine ww_iadd dX11_uses_90 ?_
        refine ww_cVr (M := m_X11_uses) (pc := 91) (v := .int (hbI (((upd g (183 + q) ((g (183 + q)) - (nI 0))) (183 + q)) + (nI 0)))) (h1 := hp_sI h (m + 15) (upd g (183 + q) ((g (183 + q)) - (nI 0)))) (st := [.int (nI (183 + q)), .ref (m + 15)]) (bc := 0) (bs := 0) (c_M_heldBy hst (h := hp_sI h (m + 15) (upd g (183 + q) ((g (183 + q)) - (nI 0)))) hM (((upd g (183 + q) ((g (183 + q)) - (nI 0))) (183 + q)) + (nI 0))) vv_X11_heldBy dX11_uses_91 wg_1577 hM.K0 rfl rfl rfl rfl (Nat.le_of_ble_eq_true rfl) (Nat.le_of_ble_eq_true rfl) (Nat.le_of_ble_eq_true rfl) (Nat.le_of_ble_eq_true rfl) ?_
        refine ww_iastC dX11_uses_94 hM.K15 (by omega) (by omega) ?_
        refine ww_aload_n dX11_uses_95 rfl rfl ?_
        refine ww_get 34 dX11_uses_96 hM.K0 rfl (by decide) inX11 wg_1274 hM.F15 ?_
        refine ww_bipush (v := nI 122) dX11_uses_99 (by decide) ?_
        refine ww_iload_n dX11_uses_101 rfl rfl ?_
        refine ww_iaddN dX11_uses_102 ?_
        refine ww_dup2 dX11_uses_103 rfl rfl ?_
        refine ww_ialdF dX11_uses_104 hM.K15 (hp_I_eq _ _ _) (by omega) (by omega) ?_
        refine ww_iconst (v := nI 1) dX11_uses_105 (by decide) ?_
        refine ww_iadd dX11_uses_106 ?_
        refine ww_iastC dX11_uses_107 hM.K15 (by omega) (by omega) ?_
        refine ww_iconst (v := nI 1) dX11_uses_108 (by decide) ?_
        exact ww_zret dX11_uses_109 rfl (by first | rfl | exact nar_bI _) ⟨by simp [useF, ho, bI]; (try rfl), Same.rf.sI (Or.inr (Or.inr rfl)), by rw [hp_I_eq, u1, u2]; simp [useF, ho]⟩
    · exfalso; omega
set_option maxHeartbeats 4000000 in
set_option maxRecDepth 100000 in
theorem c_M_uses {l : Launch} {Z : EE} (hst : l.stackTraces = false) {h : PH} {m : Nat} (hM : ModS h m) {sz : Nat} {kf vf : Nat → Int32} (hQ : LawM h m sz kf vf) (hok : LawOK kf vf sz) {g : Nat → Int32} (hs : hp_I h (m + 15) = g) (q n : Nat) (hq : q < 6) (hn : n ≤ 60) (w : Nat) (hw : w ≤ 2) (ho : isOw (g n)) (hcn : ∃ c, c ≤ 9999 ∧ g (183 + q) = nI c) : CC l Z m_X11_uses 5 0 0 [.ref m, .int (nI q), .int (nI n), .int (nI w)] h (RQ (some (.int (bI (useF g q n (fareC g sz kf vf n w)).1))) (fun h9 => Same (fun c => c = m + 10 ∨ c = m + 11 ∨ c = m + 15) (fun _ _ => False) h h9 ∧ hp_I h9 (m + 15) = (useF g q n (fareC g sz kf vf n w)).2)) := by
  rcases ho with ho | ⟨o, ho6, ho⟩
  · exact c_M_uses_a hst hM hQ hok hs q n hq hn w hw ho
  · obtain ⟨c, hc, hcq⟩ := hcn
    by_cases e : o = q
    · subst e
      exact c_M_uses_c hst hM hQ hok hs o n hq hn w hw ho c hc hcq
    · exact c_M_uses_b hst hM hQ hok hs q n hq hn w hw o ho6 e ho
set_option maxHeartbeats 4000000 in
set_option maxRecDepth 100000 in
theorem c_M_sells_a {l : Launch} {Z : EE} (hst : l.stackTraces = false) {h : PH} {m : Nat} (hM : ModS h m) {g : Nat → Int32} (hs : hp_I h (m + 15) = g) (q n : Nat) (hq : q < 6) (hn : n ≤ 60) (c : Int32) (ho : g n = -1) : CC l Z m_X11_sells 1 0 0 [.ref m, .int (nI q), .int (nI n), .int c] h (RT (some (.int (bI (sellF g n q c).1))) (hp_sI h (m + 15) (sellF g n q c).2)) := by
  refine ee_entry hst (by decide +kernel) rfl rfl (by simp [Value.category]) (Nat.le_of_ble_eq_true rfl) ?_
  refine ww_lv (lv2 := [.ref m, .int (nI q), .int (nI n), .int c, UU]) rfl ?_
  have nz : ¬ (-1 : Int32) = nI q := fun e => nI_nm1 q hq e.symm
  refine ww_aload_n dX11_sells_0 rfl rfl ?_
  refine ww_get 34 dX11_sells_1 hM.K0 rfl (by decide) inX11 wg_1274 hM.F15 ?_
  refine ww_iconst (v := nI 0) dX11_sells_4 (by decide) ?_
  refine ww_iload_n dX11_sells_5 rfl rfl ?_
  refine ww_iadd0 dX11_sells_6 ?_
  refine ww_ialdF dX11_sells_7 hM.K15 hs (by omega) (by omega) ?_
  rw [ho]
  refine ww_sti (lv2 := [.ref m, .int (nI q), .int (nI n), .int c, .int (-1)]) dX11_sells_8 rfl (by decide) rfl ?_
  refine ww_iload dX11_sells_10 rfl ?_
  refine ww_iload_n dX11_sells_12 rfl rfl ?_
  refine ww_icmp_eq (tgt := 30) dX11_sells_13 (by decide) (fun c13 => ?_) (fun c13 => ?_)
  · exact absurd c13.symm (nI_nm1 q hq)
  · refine ww_aload_n dX11_sells_16 rfl rfl ?_
    refine ww_get 34 dX11_sells_17 hM.K0 rfl (by decide) inX11 wg_1274 hM.F15 ?_
    refine ww_sipush (v := nI 183) dX11_sells_20 (by decide) ?_
    refine ww_iload_n dX11_sells_23 rfl rfl ?_
    refine ww_iaddN dX11_sells_24 ?_
    refine ww_ialdF dX11_sells_25 hM.K15 hs (by omega) (by omega) ?_
    refine ww_iload_n dX11_sells_26 rfl rfl ?_
    refine ww_icmp_ge (tgt := 32) dX11_sells_27 (by decide) (fun c27 => ?_) (fun c27 => ?_)
    · refine ww_aload_n dX11_sells_32 rfl rfl ?_
      refine ww_get 34 dX11_sells_33 hM.K0 rfl (by decide) inX11 wg_1274 hM.F15 ?_
      refine ww_sipush (v := nI 183) dX11_sells_36 (by decide) ?_
      refine ww_iload_n dX11_sells_39 rfl rfl ?_
      refine ww_iaddN dX11_sells_40 ?_
      refine ww_dup2 dX11_sells_41 rfl rfl ?_
      refine ww_ialdF dX11_sells_42 hM.K15 hs (by omega) (by omega) ?_
      refine ww_iload_n dX11_sells_43 rfl rfl ?_
      refine ww_isub dX11_sells_44 ?_
      refine ww_iastF dX11_sells_45 hM.K15 hs (by omega) (by omega) ?_
      refine ww_iload dX11_sells_46 rfl ?_
      refine ww_iconst (v := -1) dX11_sells_48 (by decide) ?_
      refine ww_icmp_eq (tgt := 80) dX11_sells_49 (by decide) (fun c49 => ?_) (fun c49 => ?_)
      · refine ww_aload_n dX11_sells_80 rfl rfl ?_
        refine ww_get 34 dX11_sells_81 hM.K0 rfl (by decide) inX11 wg_1274 hM.F15 ?_
        refine ww_iconst (v := nI 0) dX11_sells_84 (by decide) ?_
        refine ww_iload_n dX11_sells_85 rfl rfl ?_
        refine ww_iadd0 dX11_sells_86 ?_
        refine ww_iload_n dX11_sells_87 rfl rfl ?_
        refine ww_iastC dX11_sells_88 hM.K15 (by omega) (by omega) ?_
        refine ww_iconst (v := nI 1) dX11_sells_89 (by decide) ?_
        exact ww_zret dX11_sells_90 rfl (by first | rfl | exact nar_bI _) ⟨by simp [sellF, ho, nz, show c ≤ g (183 + q) from c27, bI]; (try rfl), by simp [sellF, ho, nz, payF, show c ≤ g (183 + q) from c27]⟩
      · exact absurd rfl c49
    · refine ww_iconst (v := nI 0) dX11_sells_30 (by decide) ?_
      exact ww_zret dX11_sells_31 rfl (by first | rfl | exact nar_bI _) ⟨by simp [sellF, ho, nz, c27, bI]; (try rfl), by simp only [sellF, ho, nz, c27, if_false]; rw [← hs, hp_sI_id]⟩
set_option maxHeartbeats 4000000 in
set_option maxRecDepth 100000 in
theorem c_M_sells_b {l : Launch} {Z : EE} (hst : l.stackTraces = false) {h : PH} {m : Nat} (hM : ModS h m) {g : Nat → Int32} (hs : hp_I h (m + 15) = g) (q n : Nat) (hq : q < 6) (hn : n ≤ 60) (c : Int32) (o : Nat) (ho6 : o < 6) (hoq : o ≠ q) (ho : g n = nI o) : CC l Z m_X11_sells 1 0 0 [.ref m, .int (nI q), .int (nI n), .int c] h (RT (some (.int (bI (sellF g n q c).1))) (hp_sI h (m + 15) (sellF g n q c).2)) := by
  refine ee_entry hst (by decide +kernel) rfl rfl (by simp [Value.category]) (Nat.le_of_ble_eq_true rfl) ?_
  refine ww_lv (lv2 := [.ref m, .int (nI q), .int (nI n), .int c, UU]) rfl ?_
  have nz : ¬ nI o = nI q := nI_ne hoq (by omega) (by omega)
  have n1 := nI_nm1 o ho6
  refine ww_aload_n dX11_sells_0 rfl rfl ?_
  refine ww_get 34 dX11_sells_1 hM.K0 rfl (by decide) inX11 wg_1274 hM.F15 ?_
  refine ww_iconst (v := nI 0) dX11_sells_4 (by decide) ?_
  refine ww_iload_n dX11_sells_5 rfl rfl ?_
  refine ww_iadd0 dX11_sells_6 ?_
  refine ww_ialdF dX11_sells_7 hM.K15 hs (by omega) (by omega) ?_
  rw [ho]
  refine ww_sti (lv2 := [.ref m, .int (nI q), .int (nI n), .int c, .int (nI o)]) dX11_sells_8 rfl (by decide) rfl ?_
  refine ww_iload dX11_sells_10 rfl ?_
  refine ww_iload_n dX11_sells_12 rfl rfl ?_
  refine ww_icmp_eqN (tgt := 30) dX11_sells_13 (by decide) (by omega) (by omega) (fun c13 => ?_) (fun c13 => ?_)
  · exfalso; omega
  · refine ww_aload_n dX11_sells_16 rfl rfl ?_
    refine ww_get 34 dX11_sells_17 hM.K0 rfl (by decide) inX11 wg_1274 hM.F15 ?_
    refine ww_sipush (v := nI 183) dX11_sells_20 (by decide) ?_
    refine ww_iload_n dX11_sells_23 rfl rfl ?_
    refine ww_iaddN dX11_sells_24 ?_
    refine ww_ialdF dX11_sells_25 hM.K15 hs (by omega) (by omega) ?_
    refine ww_iload_n dX11_sells_26 rfl rfl ?_
    refine ww_icmp_ge (tgt := 32) dX11_sells_27 (by decide) (fun c27 => ?_) (fun c27 => ?_)
    · refine ww_aload_n dX11_sells_32 rfl rfl ?_
      refine ww_get 34 dX11_sells_33 hM.K0 rfl (by decide) inX11 wg_1274 hM.F15 ?_
      refine ww_sipush (v := nI 183) dX11_sells_36 (by decide) ?_
      refine ww_iload_n dX11_sells_39 rfl rfl ?_
      refine ww_iaddN dX11_sells_40 ?_
      refine ww_dup2 dX11_sells_41 rfl rfl ?_
      refine ww_ialdF dX11_sells_42 hM.K15 hs (by omega) (by omega) ?_
      refine ww_iload_n dX11_sells_43 rfl rfl ?_
      refine ww_isub dX11_sells_44 ?_
      refine ww_iastF dX11_sells_45 hM.K15 hs (by omega) (by omega) ?_
      refine ww_iload dX11_sells_46 rfl ?_
      refine ww_iconst (v := -1) dX11_sells_48 (by decide) ?_
      refine ww_icmp_eq (tgt := 80) dX11_sells_49 (by decide) (fun c49 => ?_) (fun c49 => ?_)
      · exact absurd c49 (nI_nm1 o ho6)
      · refine ww_aload_n dX11_sells_52 rfl rfl ?_
        refine ww_get 34 dX11_sells_53 hM.K0 rfl (by decide) inX11 wg_1274 hM.F15 ?_
        refine ww_sipush (v := nI 183) dX11_sells_56 (by decide) ?_
        refine ww_iload dX11_sells_59 rfl ?_
        refine ww_iaddN dX11_sells_61 ?_
        refine ww_aload_n dX11_sells_62 rfl rfl ?_
        refine ww_aload_n dX11_sells_63 rfl rfl ?_
        refine ww_get 34 dX11_sells_64 hM.K0 rfl (by decide) inX11 wg_1274 hM.F15 ?_
        refine ww_sipush (v := nI 183) dX11_sells_67 (by decide) ?_
        refine ww_iload dX11_sells_70 rfl ?_
        refine ww_iaddN dX11_sells_72 ?_
        refine ww_ialdF dX11_sells_73 hM.K15 (hp_I_eq _ _ _) (by omega) (by omega) ?_
        refine ww_iload_n dX11_sells_74 rfl rfl ?_
        refine ww_iadd dX11_sells_75 ?_
        refine ww_cVr (M := m_X11_sells) (pc := 76) (v := .int (hbI (((upd g (183 + q) ((g (183 + q)) - c)) (183 + o)) + c))) (h1 := hp_sI h (m + 15) (upd g (183 + q) ((g (183 + q)) - c))) (st := [.int (nI (183 + o)), .ref (m + 15)]) (bc := 0) (bs := 0) (c_M_heldBy hst (h := hp_sI h (m + 15) (upd g (183 + q) ((g (183 + q)) - c))) hM (((upd g (183 + q) ((g (183 + q)) - c)) (183 + o)) + c)) vv_X11_heldBy dX11_sells_76 wg_1577 hM.K0 rfl rfl rfl rfl (Nat.le_of_ble_eq_true rfl) (Nat.le_of_ble_eq_true rfl) (Nat.le_of_ble_eq_true rfl) (Nat.le_of_ble_eq_true rfl) ?_
        refine ww_iastC dX11_sells_79 hM.K15 (by omega) (by omega) ?_
        refine ww_aload_n dX11_sells_80 rfl rfl ?_
        refine ww_get 34 dX11_sells_81 hM.K0 rfl (by decide) inX11 wg_1274 hM.F15 ?_
        refine ww_iconst (v := nI 0) dX11_sells_84 (by decide) ?_
        refine ww_iload_n dX11_sells_85 rfl rfl ?_
        refine ww_iadd0 dX11_sells_86 ?_
        refine ww_iload_n dX11_sells_87 rfl rfl ?_
        refine ww_iastC dX11_sells_88 hM.K15 (by omega) (by omega) ?_
        refine ww_iconst (v := nI 1) dX11_sells_89 (by decide) ?_
        exact ww_zret dX11_sells_90 rfl (by first | rfl | exact nar_bI _) ⟨by simp [sellF, ho, nz, show c ≤ g (183 + q) from c27, bI]; (try rfl), by simp [sellF, ho, nz, n1, payF, hbI_mn, nI_clamp (show o < 2 ^ 31 by omega), show c ≤ g (183 + q) from c27]⟩
    · refine ww_iconst (v := nI 0) dX11_sells_30 (by decide) ?_
      exact ww_zret dX11_sells_31 rfl (by first | rfl | exact nar_bI _) ⟨by simp [sellF, ho, nz, c27, bI]; (try rfl), by simp only [sellF, ho, nz, c27, if_false]; rw [← hs, hp_sI_id]⟩
set_option maxHeartbeats 4000000 in
set_option maxRecDepth 100000 in
theorem c_M_sells_c {l : Launch} {Z : EE} (hst : l.stackTraces = false) {h : PH} {m : Nat} (hM : ModS h m) {g : Nat → Int32} (hs : hp_I h (m + 15) = g) (q n : Nat) (hq : q < 6) (hn : n ≤ 60) (c : Int32) (ho : g n = nI q) : CC l Z m_X11_sells 1 0 0 [.ref m, .int (nI q), .int (nI n), .int c] h (RT (some (.int (bI (sellF g n q c).1))) (hp_sI h (m + 15) (sellF g n q c).2)) := by
  refine ee_entry hst (by decide +kernel) rfl rfl (by simp [Value.category]) (Nat.le_of_ble_eq_true rfl) ?_
  refine ww_lv (lv2 := [.ref m, .int (nI q), .int (nI n), .int c, UU]) rfl ?_
  refine ww_aload_n dX11_sells_0 rfl rfl ?_
  refine ww_get 34 dX11_sells_1 hM.K0 rfl (by decide) inX11 wg_1274 hM.F15 ?_
  refine ww_iconst (v := nI 0) dX11_sells_4 (by decide) ?_
  refine ww_iload_n dX11_sells_5 rfl rfl ?_
  refine ww_iadd0 dX11_sells_6 ?_
  refine ww_ialdF dX11_sells_7 hM.K15 hs (by omega) (by omega) ?_
  rw [ho]
  refine ww_sti (lv2 := [.ref m, .int (nI q), .int (nI n), .int c, .int (nI q)]) dX11_sells_8 rfl (by decide) rfl ?_
  refine ww_iload dX11_sells_10 rfl ?_
  refine ww_iload_n dX11_sells_12 rfl rfl ?_
  refine ww_icmp_eqN (tgt := 30) dX11_sells_13 (by decide) (by omega) (by omega) (fun c13 => ?_) (fun c13 => ?_)
  · refine ww_iconst (v := nI 0) dX11_sells_30 (by decide) ?_
    exact ww_zret dX11_sells_31 rfl (by first | rfl | exact nar_bI _) ⟨by simp [sellF, ho, bI]; (try rfl), by simp only [sellF, ho, if_true]; rw [← hs, hp_sI_id]⟩
  · exact absurd rfl c13
set_option maxHeartbeats 4000000 in
set_option maxRecDepth 100000 in
theorem c_M_sells {l : Launch} {Z : EE} (hst : l.stackTraces = false) {h : PH} {m : Nat} (hM : ModS h m) {g : Nat → Int32} (hs : hp_I h (m + 15) = g) (q n : Nat) (hq : q < 6) (hn : n ≤ 60) (c : Int32) (ho : isOw (g n)) : CC l Z m_X11_sells 1 0 0 [.ref m, .int (nI q), .int (nI n), .int c] h (RT (some (.int (bI (sellF g n q c).1))) (hp_sI h (m + 15) (sellF g n q c).2)) := by
  rcases ho with ho | ⟨o, ho6, ho⟩
  · exact c_M_sells_a hst hM hs q n hq hn c ho
  · by_cases e : o = q
    · subst e
      exact c_M_sells_c hst hM hs o n hq hn c ho
    · exact c_M_sells_b hst hM hs q n hq hn c o ho6 e ho
set_option maxHeartbeats 4000000 in
set_option maxRecDepth 100000 in
theorem l_M_passes {l : Launch} {Z : EE} (hst : l.stackTraces = false) {h : PH} {m : Nat} (hM : ModS h m) {g : Nat → Int32} (hs : hp_I h (m + 15) = g) {Post : Res → PH → Prop} : ∀ (j k : Nat), k + j = 61 → WW l Z m_X11_passes 0 0 0 36 [.ref m, .int (nI 61)] [] (hp_sI h (m + 15) (clr (upd g 189 (g 189 + nI 1)) 61)) Post → WW l Z m_X11_passes 0 0 0 14 [.ref m, .int (nI k)] [] (hp_sI h (m + 15) (clr (upd g 189 (g 189 + nI 1)) k)) Post := by
  intro j
  induction j with
  | zero =>
    intro k hk hexit
    have hk0 : k = 61 := by omega
    subst hk0
    refine ww_iload_n dX11_passes_14 rfl rfl ?_
    refine ww_bipush (v := nI 61) dX11_passes_15 (by decide) ?_
    refine ww_icmp_geN (tgt := 36) dX11_passes_17 (by decide) (by omega) (by omega) (fun c17 => ?_) (fun c17 => ?_)
    · exact hexit
    · exact absurd c17 (by decide)
  | succ j ih =>
    intro k hk hexit
    refine ww_iload_n dX11_passes_14 rfl rfl ?_
    refine ww_bipush (v := nI 61) dX11_passes_15 (by decide) ?_
    refine ww_icmp_geN (tgt := 36) dX11_passes_17 (by decide) (by omega) (by omega) (fun c17 => ?_) (fun c17 => ?_)
    · exfalso; omega
    · refine ww_aload_n dX11_passes_20 rfl rfl ?_
      refine ww_get 34 dX11_passes_21 hM.K0 rfl (by decide) inX11 wg_1274 hM.F15 ?_
      refine ww_bipush (v := nI 122) dX11_passes_24 (by decide) ?_
      refine ww_iload_n dX11_passes_26 rfl rfl ?_
      refine ww_iaddN dX11_passes_27 ?_
      refine ww_iconst (v := nI 0) dX11_passes_28 (by decide) ?_
      refine ww_iastC dX11_passes_29 hM.K15 (by omega) (by omega) ?_
      refine ww_incN (c := 1) (lv2 := [.ref m, .int (nI (k + 1))]) dX11_passes_30 rfl rfl rfl (by decide) rfl ?_
      refine ww_goto (tgt := 14) dX11_passes_33 (by decide) ?_
      refine ww_hp (h2 := hp_sI h (m + 15) (clr (upd g 189 (g 189 + nI 1)) (k + 1))) (by rw [clr_s]) ?_
      exact ih (k + 1) (by omega) hexit
set_option maxHeartbeats 4000000 in
set_option maxRecDepth 100000 in
theorem c_M_passes {l : Launch} {Z : EE} (hst : l.stackTraces = false) {h : PH} {m : Nat} (hM : ModS h m) {g : Nat → Int32} (hs : hp_I h (m + 15) = g) : CC l Z m_X11_passes 0 0 0 [.ref m] h (RT none (hp_sI h (m + 15) (dayF g))) := by
  refine ee_entry hst (by decide +kernel) rfl rfl (by simp [Value.category]) (Nat.le_of_ble_eq_true rfl) ?_
  refine ww_lv (lv2 := [.ref m, UU]) rfl ?_
  refine ww_aload_n dX11_passes_0 rfl rfl ?_
  refine ww_get 34 dX11_passes_1 hM.K0 rfl (by decide) inX11 wg_1274 hM.F15 ?_
  refine ww_sipush (v := nI 189) dX11_passes_4 (by decide) ?_
  refine ww_dup2 dX11_passes_7 rfl rfl ?_
  refine ww_ialdF dX11_passes_8 hM.K15 hs (by omega) (by omega) ?_
  refine ww_iconst (v := nI 1) dX11_passes_9 (by decide) ?_
  refine ww_iadd dX11_passes_10 ?_
  refine ww_iastF dX11_passes_11 hM.K15 hs (by omega) (by omega) ?_
  refine ww_iconst (v := nI 0) dX11_passes_12 (by decide) ?_
  refine ww_sti_n (lv2 := [.ref m, .int (nI 0)]) dX11_passes_13 rfl rfl (by decide) rfl ?_
  refine ww_hp (h2 := hp_sI h (m + 15) (clr (upd g 189 (g 189 + nI 1)) 0)) (by rw [clr_0]) ?_
  refine l_M_passes hst hM hs 61 0 rfl ?_
  exact ww_vret dX11_passes_36 rfl ⟨rfl, rfl⟩
