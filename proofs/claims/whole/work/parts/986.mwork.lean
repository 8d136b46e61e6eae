/-! ===== a work's text in the reference ===== -/
def maS (h : PH) (m c : Nat) (ns : Nat → Int32) : PH := hp_sF (hp_sI h (m + 12) ns) m 27 (.int (nI c))
theorem maS_F (h : PH) (m c : Nat) (ns : Nat → Int32) (x j : Nat) : hp_F (maS h m c ns) x j = if x = m ∧ j = 27 then .int (nI c) else hp_F h x j := rfl
theorem maS_27 (h : PH) (m c : Nat) (ns : Nat → Int32) : hp_F (maS h m c ns) m 27 = .int (nI c) := by rw [maS_F, if_pos ⟨rfl, rfl⟩]
theorem maS_j {h : PH} {m c : Nat} {ns : Nat → Int32} {j : Nat} {v : Value} (hj : j ≠ 27) (e : hp_F h m j = v) : hp_F (maS h m c ns) m j = v := by rw [maS_F, if_neg (by omega)]; exact e
theorem maS_I (h : PH) (m c : Nat) (ns : Nat → Int32) (x : Nat) : hp_I (maS h m c ns) x = if x = m + 12 then ns else hp_I h x := rfl
theorem maS_12 (h : PH) (m c : Nat) (ns : Nat → Int32) : hp_I (maS h m c ns) (m + 12) = ns := by rw [maS_I, if_pos rfl]
theorem maS_M {h : PH} {m : Nat} (hM : ModS h m) (c : Nat) (ns : Nat → Int32) : ModS (maS h m c ns) m := by
  unfold maS
  exact (hM.sI).sF (by decide)
theorem maS_t {h : PH} {m c : Nat} {ns : Nat → Int32} {tf : Nat → Int32} (htf : hp_I h (m + 2) = tf) : hp_I (maS h m c ns) (m + 2) = tf := by rw [maS_I, if_neg (by omega)]; exact htf
theorem ma_s12 (h : PH) (m c : Nat) (ns : Nat → Int32) (n a : Nat) (bd bk : Int32) (op : Nat) (g : Nat → Int32) : hp_sI (mrS (maS h m c ns) m n a bd bk op) (m + 12) g = mrS (maS h m c g) m n a bd bk op := by
  refine hp_ext rfl (fun _ => rfl) (fun _ _ => rfl) (fun x => ?_) (fun _ => rfl)
  show (if x = m + 12 then g else hp_I (maS h m c ns) x) = hp_I (maS h m c g) x
  rw [maS_I, maS_I]
  by_cases e : x = m + 12
  · rw [if_pos e, if_pos e]
  · rw [if_neg e, if_neg e, if_neg e]
theorem ma_s27 (h : PH) (m c : Nat) (ns : Nat → Int32) (n a : Nat) (bd bk : Int32) (op : Nat) (v : Nat) : hp_sF (mrS (maS h m c ns) m n a bd bk op) m 27 (.int (nI v)) = mrS (maS h m v ns) m n a bd bk op := by
  refine hp_ext rfl (fun _ => rfl) (fun x j => ?_) (fun _ => rfl) (fun _ => rfl)
  show (if x = m ∧ j = 27 then _ else hp_F (mrS (maS h m c ns) m n a bd bk op) x j) = _
  rw [mrS_F, mrS_F, maS_F, maS_F]
  by_cases e : x = m ∧ j = 27
  · rw [if_pos e]
    repeat rw [if_neg (by omega)]
    rw [if_pos e]
  · rw [if_neg e, if_neg e, if_neg e]
/-- the reference's entries, four a step -/
def RsR (W : AF) (ns : Nat → Int32) : Prop := ∀ i, i < W.1 → ns (4 * i) = W.2.1 i ∧
  (W.2.1 i = nI 0 → ns (4 * i + 1) = W.2.2.1 i ∧ ns (4 * i + 2) = W.2.2.2.1 i ∧ ns (4 * i + 3) = W.2.2.2.2 i) ∧
  (W.2.1 i = nI 1 → ns (4 * i + 1) = W.2.2.2.1 i ∧ ns (4 * i + 2) = W.2.2.1 i ∧ ns (4 * i + 3) = W.2.2.2.2 i) ∧
  (W.2.1 i = nI 2 → ns (4 * i + 2) = W.2.2.1 i ∧ ns (4 * i + 3) = W.2.2.2.1 i) ∧
  (W.2.1 i = nI 4 → ns (4 * i + 1) = W.2.2.1 i ∧ ns (4 * i + 2) = nI 4 * W.2.2.2.1 i)
def tl4 (ns : Nat → Int32) (c : Nat) (k x y z : Int32) : Nat → Int32 := upd (upd (upd (upd ns c k) (c + 1) x) (c + 2) y) (c + 3) z
theorem tl4_o {ns : Nat → Int32} {c : Nat} {k x y z : Int32} {i : Nat} (h : i < c) : tl4 ns c k x y z i = ns i := by
  unfold tl4; rw [pk_un (by omega), pk_un (by omega), pk_un (by omega), pk_un (by omega)]
theorem tl4_0 (ns : Nat → Int32) (c : Nat) (k x y z : Int32) : tl4 ns c k x y z c = k := by
  unfold tl4; rw [pk_un (by omega), pk_un (by omega), pk_un (by omega), pk_us]
theorem tl4_1 (ns : Nat → Int32) (c : Nat) (k x y z : Int32) : tl4 ns c k x y z (c + 1) = x := by
  unfold tl4; rw [pk_un (by omega), pk_un (by omega), pk_us]
theorem tl4_2 (ns : Nat → Int32) (c : Nat) (k x y z : Int32) : tl4 ns c k x y z (c + 2) = y := by
  unfold tl4; rw [pk_un (by omega), pk_us]
theorem tl4_3 (ns : Nat → Int32) (c : Nat) (k x y z : Int32) : tl4 ns c k x y z (c + 3) = z := by
  unfold tl4; rw [pk_us]
theorem RsR.new {W : AF} {ns : Nat → Int32} (h : RsR W ns) {k a b c : Nat} {x y z : Int32} (hk : k < 5) (h0 : k = 0 → x = nI a ∧ y = nI b ∧ z = nI c) (h1 : k = 1 → x = nI b ∧ y = nI a ∧ z = nI c) (h2 : k = 2 → y = nI a ∧ z = nI b) (h4 : k = 4 → x = nI a ∧ y = nI 4 * nI b) : RsR (aA k a b c W) (tl4 ns (4 * W.1) (nI k) x y z) := by
  intro i hi
  have hi2 : i < W.1 + 1 := hi
  by_cases e : i = W.1
  · subst e
    obtain ⟨e1, e2, e3, e4⟩ := aA_at k a b c W
    have inj : ∀ j, j < 5 → nI k = nI j → k = j := fun j hj q => (nI_eq (by omega) (by omega)).mp q
    rw [e1, e2, e3, e4, tl4_0, tl4_1, tl4_2, tl4_3]
    exact ⟨rfl, fun q => h0 (inj 0 (by omega) q), fun q => h1 (inj 1 (by omega) q), fun q => h2 (inj 2 (by omega) q), fun q => h4 (inj 4 (by omega) q)⟩
  · obtain ⟨e1, e2, e3, e4⟩ := aA_in (k := k) (a := a) (b := b) (c := c) (W := W) i (Nat.zero_le _) (by omega)
    rw [e1, e2, e3, e4, tl4_o (by omega), tl4_o (by omega), tl4_o (by omega), tl4_o (by omega)]
    exact h i (by omega)
theorem RsR.fin {W : AF} {ns : Nat → Int32} (h : RsR W ns) {p : Nat} (hp : p < W.1) (hk : W.2.1 p = nI 4) : RsR (aE p W) (upd ns (4 * p + 2) (nI (4 * W.1))) := by
  intro i hi
  have g := h i hi
  show upd ns (4 * p + 2) _ (4 * i) = W.2.1 i ∧ (W.2.1 i = nI 0 → _ ∧ _ ∧ _) ∧ (W.2.1 i = nI 1 → _ ∧ _ ∧ _) ∧ (W.2.1 i = nI 2 → _ ∧ _) ∧ (W.2.1 i = nI 4 → upd ns (4 * p + 2) _ (4 * i + 1) = W.2.2.1 i ∧ upd ns (4 * p + 2) _ (4 * i + 2) = nI 4 * (upd W.2.2.2.1 p (nI W.1)) i)
  by_cases e : i = p
  · subst e
    rw [pk_un (show 4 * i ≠ 4 * i + 2 by omega), pk_un (show 4 * i + 1 ≠ 4 * i + 2 by omega), pk_us, pk_us, pk_mul]
    exact ⟨g.1, fun q => absurd (hk.symm.trans q) (by decide), fun q => absurd (hk.symm.trans q) (by decide), fun q => absurd (hk.symm.trans q) (by decide), fun q => ⟨(g.2.2.2.2 q).1, rfl⟩⟩
  · show upd ns (4 * p + 2) _ (4 * i) = W.2.1 i ∧ (W.2.1 i = nI 0 → upd ns (4 * p + 2) _ (4 * i + 1) = W.2.2.1 i ∧ upd ns (4 * p + 2) _ (4 * i + 2) = (upd W.2.2.2.1 p (nI W.1)) i ∧ upd ns (4 * p + 2) _ (4 * i + 3) = W.2.2.2.2 i) ∧ (W.2.1 i = nI 1 → upd ns (4 * p + 2) _ (4 * i + 1) = (upd W.2.2.2.1 p (nI W.1)) i ∧ upd ns (4 * p + 2) _ (4 * i + 2) = W.2.2.1 i ∧ upd ns (4 * p + 2) _ (4 * i + 3) = W.2.2.2.2 i) ∧ (W.2.1 i = nI 2 → upd ns (4 * p + 2) _ (4 * i + 2) = W.2.2.1 i ∧ upd ns (4 * p + 2) _ (4 * i + 3) = (upd W.2.2.2.1 p (nI W.1)) i) ∧ (W.2.1 i = nI 4 → upd ns (4 * p + 2) _ (4 * i + 1) = W.2.2.1 i ∧ upd ns (4 * p + 2) _ (4 * i + 2) = nI 4 * (upd W.2.2.2.1 p (nI W.1)) i)
    rw [pk_un (show 4 * i ≠ 4 * p + 2 by omega), pk_un (show 4 * i + 1 ≠ 4 * p + 2 by omega), pk_un (show 4 * i + 2 ≠ 4 * p + 2 by omega), pk_un (show 4 * i + 3 ≠ 4 * p + 2 by omega), pk_un e]
    exact g
def MaO (h : PH) (m n : Nat) (bk : Int32) (op : Nat) (r : PR AF) (h9 : PH) : Prop := match r with
  | .inl (k, q) => ∃ a9 c9 ns9, a9 ≤ n ∧ h9 = mrS (maS h m c9 ns9) m n a9 (nI q) (nI k) op
  | .inr (a, V) => ∃ ns9, RsR V ns9 ∧ h9 = mrS (maS h m (4 * V.1) ns9) m n a (-1) bk op
theorem wWork_5 {T : Nat → Nat} {n a b : Nat} (h : wrdS wWork T n a = .inr (b, 4)) : b = sk T n a + 5 := by
  obtain ⟨h1, h2⟩ := wrdS_r h
  obtain ⟨h3, h4, w, h5, h6⟩ := fdW_k wWork 0 4 h2
  have h7 := eqW_le h6
  rw [Nat.sub_zero] at h5
  cases (Option.some.inj h5)
  exact h7
set_option maxHeartbeats 4000000 in
set_option maxRecDepth 100000 in
theorem c_Ma_tell {l : Launch} {Z : EE} (hst : l.stackTraces = false) {h : PH} {m : Nat} (hM : ModS h m) {tf : Nat → Int32} (htf : hp_I h (m + 2) = tf) {T : Nat → Nat} (hB : BT tf T) {n : Nat} (hn : n ≤ 600) {np : Nat} (hnp : hp_F h m 15 = .int (nI np)) (hn6 : np ≤ 6) (c : Nat) (hc : c ≤ 196) (ns : Nat → Int32) (a : Nat) (bk : Int32) (op k x y z : Nat) : CC l Z m_X11_tellsStep 1 0 0 [.ref m, .int (nI k), .int (nI x), .int (nI y), .int (nI z)] (mrS (maS h m c ns) m n a (-1) bk op) (RT none (mrS (maS h m (c + 4) (tl4 ns c (nI k) (nI x) (nI y) (nI z))) m n a (-1) bk op)) := by
  refine ee_entry hst (by decide +kernel) rfl rfl (by simp [Value.category]) (Nat.le_of_ble_eq_true rfl) ?_
  refine ww_lv (lv2 := [.ref m, .int (nI k), .int (nI x), .int (nI y), .int (nI z)]) rfl ?_
  refine ww_aload_n dX11_tellsStep_0 rfl rfl ?_
  refine ww_cVr (M := m_X11_tellsStep) (pc := 1) (v := .int (nI 1)) (h1 := mrS (maS h m c ns) m n a (-1) bk op) (st := []) (d := 1) (bc := 0) (bs := 0) (c_MR_fine_t hst (maS_M hM c ns) (maS_t (c := c) (ns := ns) htf) hB hn a bk op) vv_X11_fine dX11_tellsStep_1 wg_1421 ((maS_M hM c ns).K0) rfl rfl rfl rfl (Nat.le_of_ble_eq_true rfl) (Nat.le_of_ble_eq_true rfl) (Nat.le_of_ble_eq_true rfl) (Nat.le_of_ble_eq_true rfl) ?_
  refine ww_if_neN (tgt := 8) dX11_tellsStep_4 (by decide) (by omega) (fun c4 => ?_) (fun c4 => ?_)
  · refine ww_aload_n dX11_tellsStep_8 rfl rfl ?_
    refine ww_get 25 dX11_tellsStep_9 ((maS_M hM c ns).K0) rfl (by decide) inX11 wg_1265 (mrS_j _ _ _ _ _ (by decide) (maS_M hM c ns).F12) ?_
    refine ww_aload_n dX11_tellsStep_12 rfl rfl ?_
    refine ww_get 27 dX11_tellsStep_13 ((maS_M hM c ns).K0) rfl (by decide) inX11 wg_1267 (mrS_j _ _ _ _ _ (by decide) (maS_27 h m c ns)) ?_
    refine ww_iload_n dX11_tellsStep_16 rfl rfl ?_
    refine ww_iastF dX11_tellsStep_17 ((maS_M hM c ns).K12) (maS_12 h m c ns) (by omega) (by omega) ?_
    refine ww_hp (h2 := mrS (maS h m c (upd ns c (nI k))) m n a (-1) bk op) (ma_s12 _ _ _ _ _ _ _ _ _ _) ?_
    refine ww_aload_n dX11_tellsStep_18 rfl rfl ?_
    refine ww_get 25 dX11_tellsStep_19 ((maS_M hM c (upd ns c (nI k))).K0) rfl (by decide) inX11 wg_1265 (mrS_j _ _ _ _ _ (by decide) (maS_M hM c (upd ns c (nI k))).F12) ?_
    refine ww_aload_n dX11_tellsStep_22 rfl rfl ?_
    refine ww_get 27 dX11_tellsStep_23 ((maS_M hM c (upd ns c (nI k))).K0) rfl (by decide) inX11 wg_1267 (mrS_j _ _ _ _ _ (by decide) (maS_27 h m c (upd ns c (nI k)))) ?_
    refine ww_iconst (v := nI 1) dX11_tellsStep_26 (by decide) ?_
    refine ww_iaddN dX11_tellsStep_27 ?_
    refine ww_iload_n dX11_tellsStep_28 rfl rfl ?_
    refine ww_iastF dX11_tellsStep_29 ((maS_M hM c (upd ns c (nI k))).K12) (maS_12 h m c (upd ns c (nI k))) (by omega) (by omega) ?_
    refine ww_hp (h2 := mrS (maS h m c (upd (upd ns c (nI k)) (c + 1) (nI x))) m n a (-1) bk op) (ma_s12 _ _ _ _ _ _ _ _ _ _) ?_
    refine ww_aload_n dX11_tellsStep_30 rfl rfl ?_
    refine ww_get 25 dX11_tellsStep_31 ((maS_M hM c (upd (upd ns c (nI k)) (c + 1) (nI x))).K0) rfl (by decide) inX11 wg_1265 (mrS_j _ _ _ _ _ (by decide) (maS_M hM c (upd (upd ns c (nI k)) (c + 1) (nI x))).F12) ?_
    refine ww_aload_n dX11_tellsStep_34 rfl rfl ?_
    refine ww_get 27 dX11_tellsStep_35 ((maS_M hM c (upd (upd ns c (nI k)) (c + 1) (nI x))).K0) rfl (by decide) inX11 wg_1267 (mrS_j _ _ _ _ _ (by decide) (maS_27 h m c (upd (upd ns c (nI k)) (c + 1) (nI x)))) ?_
    refine ww_iconst (v := nI 2) dX11_tellsStep_38 (by decide) ?_
    refine ww_iaddN dX11_tellsStep_39 ?_
    refine ww_iload_n dX11_tellsStep_40 rfl rfl ?_
    refine ww_iastF dX11_tellsStep_41 ((maS_M hM c (upd (upd ns c (nI k)) (c + 1) (nI x))).K12) (maS_12 h m c (upd (upd ns c (nI k)) (c + 1) (nI x))) (by omega) (by omega) ?_
    refine ww_hp (h2 := mrS (maS h m c (upd (upd (upd ns c (nI k)) (c + 1) (nI x)) (c + 2) (nI y))) m n a (-1) bk op) (ma_s12 _ _ _ _ _ _ _ _ _ _) ?_
    refine ww_aload_n dX11_tellsStep_42 rfl rfl ?_
    refine ww_get 25 dX11_tellsStep_43 ((maS_M hM c (upd (upd (upd ns c (nI k)) (c + 1) (nI x)) (c + 2) (nI y))).K0) rfl (by decide) inX11 wg_1265 (mrS_j _ _ _ _ _ (by decide) (maS_M hM c (upd (upd (upd ns c (nI k)) (c + 1) (nI x)) (c + 2) (nI y))).F12) ?_
    refine ww_aload_n dX11_tellsStep_46 rfl rfl ?_
    refine ww_get 27 dX11_tellsStep_47 ((maS_M hM c (upd (upd (upd ns c (nI k)) (c + 1) (nI x)) (c + 2) (nI y))).K0) rfl (by decide) inX11 wg_1267 (mrS_j _ _ _ _ _ (by decide) (maS_27 h m c (upd (upd (upd ns c (nI k)) (c + 1) (nI x)) (c + 2) (nI y)))) ?_
    refine ww_iconst (v := nI 3) dX11_tellsStep_50 (by decide) ?_
    refine ww_iaddN dX11_tellsStep_51 ?_
    refine ww_iload dX11_tellsStep_52 rfl ?_
    refine ww_iastF dX11_tellsStep_54 ((maS_M hM c (upd (upd (upd ns c (nI k)) (c + 1) (nI x)) (c + 2) (nI y))).K12) (maS_12 h m c (upd (upd (upd ns c (nI k)) (c + 1) (nI x)) (c + 2) (nI y))) (by omega) (by omega) ?_
    refine ww_hp (h2 := mrS (maS h m c (upd (upd (upd (upd ns c (nI k)) (c + 1) (nI x)) (c + 2) (nI y)) (c + 3) (nI z))) m n a (-1) bk op) (ma_s12 _ _ _ _ _ _ _ _ _ _) ?_
    refine ww_aload_n dX11_tellsStep_55 rfl rfl ?_
    refine ww_dup dX11_tellsStep_56 rfl ?_
    refine ww_get 27 dX11_tellsStep_57 ((maS_M hM c (upd (upd (upd (upd ns c (nI k)) (c + 1) (nI x)) (c + 2) (nI y)) (c + 3) (nI z))).K0) rfl (by decide) inX11 wg_1267 (mrS_j _ _ _ _ _ (by decide) (maS_27 h m c (upd (upd (upd (upd ns c (nI k)) (c + 1) (nI x)) (c + 2) (nI y)) (c + 3) (nI z)))) ?_
    refine ww_iconst (v := nI 4) dX11_tellsStep_60 (by decide) ?_
    refine ww_iaddN dX11_tellsStep_61 ?_
    refine ww_pfI tyX11 27 dX11_tellsStep_62 ((maS_M hM c (upd (upd (upd (upd ns c (nI k)) (c + 1) (nI x)) (c + 2) (nI y)) (c + 3) (nI z))).K0) rfl (by decide) inX11 tyX11_ok nmX11 wg_1267 rfl rfl ?_
    refine ww_hp (h2 := mrS (maS h m (c + 4) (upd (upd (upd (upd ns c (nI k)) (c + 1) (nI x)) (c + 2) (nI y)) (c + 3) (nI z))) m n a (-1) bk op) (ma_s27 _ _ _ _ _ _ _ _ _ _) ?_
    exact ww_vret dX11_tellsStep_65 rfl ⟨rfl, rfl⟩
  · exfalso; omega
set_option maxHeartbeats 4000000 in
set_option maxRecDepth 100000 in
theorem c_Ma_tell_f {l : Launch} {Z : EE} (hst : l.stackTraces = false) {h : PH} {m : Nat} (hM : ModS h m) {tf : Nat → Int32} (htf : hp_I h (m + 2) = tf) {T : Nat → Nat} (hB : BT tf T) {n : Nat} (hn : n ≤ 600) {np : Nat} (hnp : hp_F h m 15 = .int (nI np)) (hn6 : np ≤ 6) (c : Nat) (ns : Nat → Int32) (a : Nat) (bk : Int32) (op q : Nat) (hq : q < 2 ^ 31) (k x y z : Int32) : CC l Z m_X11_tellsStep 1 0 0 [.ref m, .int k, .int x, .int y, .int z] (mrS (maS h m c ns) m n a (nI q) bk op) (RT none (mrS (maS h m c ns) m n a (nI q) bk op)) := by
  refine ee_entry hst (by decide +kernel) rfl rfl (by simp [Value.category]) (Nat.le_of_ble_eq_true rfl) ?_
  refine ww_lv (lv2 := [.ref m, .int k, .int x, .int y, .int z]) rfl ?_
  refine ww_aload_n dX11_tellsStep_0 rfl rfl ?_
  refine ww_cVr (M := m_X11_tellsStep) (pc := 1) (v := .int (nI 0)) (h1 := mrS (maS h m c ns) m n a (nI q) bk op) (st := []) (d := 1) (bc := 0) (bs := 0) (c_MR_fine_f hst (maS_M hM c ns) (maS_t (c := c) (ns := ns) htf) hB hn a bk op q (by omega)) vv_X11_fine dX11_tellsStep_1 wg_1421 ((maS_M hM c ns).K0) rfl rfl rfl rfl (Nat.le_of_ble_eq_true rfl) (Nat.le_of_ble_eq_true rfl) (Nat.le_of_ble_eq_true rfl) (Nat.le_of_ble_eq_true rfl) ?_
  refine ww_if_neN (tgt := 8) dX11_tellsStep_4 (by decide) (by omega) (fun c4 => ?_) (fun c4 => ?_)
  · exfalso; omega
  · exact ww_vret dX11_tellsStep_7 rfl ⟨rfl, rfl⟩
set_option maxHeartbeats 4000000 in
set_option maxRecDepth 100000 in
theorem c_Ma_own_r {l : Launch} {Z : EE} (hst : l.stackTraces = false) {h : PH} {m : Nat} (hM : ModS h m) {tf : Nat → Int32} (htf : hp_I h (m + 2) = tf) {T : Nat → Nat} (hB : BT tf T) {n : Nat} (hn : n ≤ 600) {np : Nat} (hnp : hp_F h m 15 = .int (nI np)) (hn6 : np ≤ 6) (c : Nat) (ns : Nat → Int32) (a : Nat) (bk : Int32) (op : Nat) (ha : a ≤ n) {b v : Nat} (hr : figS T n 0 61 a = .inr (b, v)) : CC l Z m_X11_readOwned 2 0 0 [.ref m] (mrS (maS h m c ns) m n a (-1) bk op) (RT (some (.int (nI v))) (mrS (maS h m c ns) m n b (-1) bk op)) := by
  refine ee_entry hst (by decide +kernel) rfl rfl (by simp [Value.category]) (Nat.le_of_ble_eq_true rfl) ?_
  refine ww_lv (lv2 := [.ref m]) rfl ?_
  refine ww_aload_n dX11_readOwned_0 rfl rfl ?_
  refine ww_iconst (v := nI 0) dX11_readOwned_1 (by decide) ?_
  refine ww_bipush (v := nI 60) dX11_readOwned_2 (by decide) ?_
  refine ww_cVr (M := m_X11_readOwned) (pc := 4) (v := .int (nI v)) (h1 := mrS (maS h m c ns) m n b (-1) bk op) (st := []) (d := 2) (bc := 0) (bs := 0) (c_MR_num_r hst (maS_M hM c ns) (maS_t (c := c) (ns := ns) htf) hB hn a bk op ha 0 61 (nI 60) (by omega) (by omega) (hi_c 60 (by decide)) hr) vv_X11_readNumber dX11_readOwned_4 wg_1460 ((maS_M hM c ns).K0) rfl rfl rfl rfl (Nat.le_of_ble_eq_true rfl) (Nat.le_of_ble_eq_true rfl) (Nat.le_of_ble_eq_true rfl) (Nat.le_of_ble_eq_true rfl) ?_
  exact ww_iret dX11_readOwned_7 rfl ⟨rfl, rfl⟩
set_option maxHeartbeats 4000000 in
set_option maxRecDepth 100000 in
theorem c_Ma_own_l {l : Launch} {Z : EE} (hst : l.stackTraces = false) {h : PH} {m : Nat} (hM : ModS h m) {tf : Nat → Int32} (htf : hp_I h (m + 2) = tf) {T : Nat → Nat} (hB : BT tf T) {n : Nat} (hn : n ≤ 600) {np : Nat} (hnp : hp_F h m 15 = .int (nI np)) (hn6 : np ≤ 6) (c : Nat) (ns : Nat → Int32) (a : Nat) (bk : Int32) (op : Nat) (ha : a ≤ n) {k q : Nat} (hr : figS T n 0 61 a = .inl (k, q)) : CC l Z m_X11_readOwned 2 0 0 [.ref m] (mrS (maS h m c ns) m n a (-1) bk op) (RQ (some (.int (nI 0))) (fun h9 => ∃ a9, a9 ≤ n ∧ h9 = mrS (maS h m c ns) m n a9 (nI q) (nI k) op)) := by
  refine ee_entry hst (by decide +kernel) rfl rfl (by simp [Value.category]) (Nat.le_of_ble_eq_true rfl) ?_
  refine ww_lv (lv2 := [.ref m]) rfl ?_
  refine ww_aload_n dX11_readOwned_0 rfl rfl ?_
  refine ww_iconst (v := nI 0) dX11_readOwned_1 (by decide) ?_
  refine ww_bipush (v := nI 60) dX11_readOwned_2 (by decide) ?_
  refine ww_cVq (M := m_X11_readOwned) (pc := 4) (v := .int (nI 0)) (st := []) (d := 2) (bc := 0) (bs := 0) (c_MR_num_l hst (maS_M hM c ns) (maS_t (c := c) (ns := ns) htf) hB hn a bk op ha 0 61 (nI 60) (by omega) (by omega) (hi_c 60 (by decide)) hr) vv_X11_readNumber dX11_readOwned_4 wg_1460 ((maS_M hM c ns).K0) rfl rfl rfl rfl (Nat.le_of_ble_eq_true rfl) (Nat.le_of_ble_eq_true rfl) (Nat.le_of_ble_eq_true rfl) (Nat.le_of_ble_eq_true rfl) (fun h9 q9 => ?_)
  exact ww_iret dX11_readOwned_7 rfl ⟨rfl, q9⟩
set_option maxHeartbeats 4000000 in
set_option maxRecDepth 100000 in
theorem c_Ma_own_f {l : Launch} {Z : EE} (hst : l.stackTraces = false) {h : PH} {m : Nat} (hM : ModS h m) {tf : Nat → Int32} (htf : hp_I h (m + 2) = tf) {T : Nat → Nat} (hB : BT tf T) {n : Nat} (hn : n ≤ 600) {np : Nat} (hnp : hp_F h m 15 = .int (nI np)) (hn6 : np ≤ 6) (c : Nat) (ns : Nat → Int32) (a : Nat) (bk : Int32) (op q : Nat) (hq : q < 2 ^ 31) : CC l Z m_X11_readOwned 2 0 0 [.ref m] (mrS (maS h m c ns) m n a (nI q) bk op) (RT (some (.int (nI 0))) (mrS (maS h m c ns) m n a (nI q) bk op)) := by
  refine ee_entry hst (by decide +kernel) rfl rfl (by simp [Value.category]) (Nat.le_of_ble_eq_true rfl) ?_
  refine ww_lv (lv2 := [.ref m]) rfl ?_
  refine ww_aload_n dX11_readOwned_0 rfl rfl ?_
  refine ww_iconst (v := nI 0) dX11_readOwned_1 (by decide) ?_
  refine ww_bipush (v := nI 60) dX11_readOwned_2 (by decide) ?_
  refine ww_cVr (M := m_X11_readOwned) (pc := 4) (v := .int (nI 0)) (h1 := mrS (maS h m c ns) m n a (nI q) bk op) (st := []) (d := 2) (bc := 0) (bs := 0) (c_MR_num_f hst (maS_M hM c ns) (maS_t (c := c) (ns := ns) htf) hB hn a bk op q (by omega) 0 (nI 60)) vv_X11_readNumber dX11_readOwned_4 wg_1460 ((maS_M hM c ns).K0) rfl rfl rfl rfl (Nat.le_of_ble_eq_true rfl) (Nat.le_of_ble_eq_true rfl) (Nat.le_of_ble_eq_true rfl) (Nat.le_of_ble_eq_true rfl) ?_
  exact ww_iret dX11_readOwned_7 rfl ⟨rfl, rfl⟩
theorem sgn_93 {T : Nat → Nat} {n a : Nat} (h1 : sk T n a = a) (h2 : a < n) (h3 : T a = 93) : sgnS T n 93 a = .inr (a + 1, ()) := by unfold sgnS; rw [h1, if_pos ⟨h2, h3⟩]
theorem sgn_end {T : Nat → Nat} {n c : Nat} : sgnS T n c n = .inl (1, n) := by unfold sgnS; rw [sk_n, if_neg (by omega)]
theorem spS_n (np : Nat) (inner : Option (Nat → AF → PR AF)) (T : Nat → Nat) (n : Nat) (W : AF) : spS np inner T n n W = .inl (1, n) := by unfold spS stS; rw [wrd_end wWork_ne, bS_l, bS_l]
set_option maxHeartbeats 4000000 in
set_option maxRecDepth 100000 in
theorem l_Ma_tail {l : Launch} {Z : EE} (hst : l.stackTraces = false) {h : PH} {m : Nat} (hM : ModS h m) {tf : Nat → Int32} (htf : hp_I h (m + 2) = tf) {T : Nat → Nat} (hB : BT tf T) {n : Nat} (hn : n ≤ 600) {np : Nat} (hnp : hp_F h m 15 = .int (nI np)) (hn6 : np ≤ 6) {d : Nat} (hd : 5 ≤ d) (bk : Int32) (op : Nat) {r : PR AF} {hz : PH} (hq : MaO h m n bk op r hz) (hb : (∀ k q, r = .inl (k, q) → q ≤ n) ∧ ∀ a V, r = .inr (a, V) → a ≤ n) : WW l Z m_X11_readStep d 0 0 272 [.ref m, UU, UU, UU] [] hz (RQ none (MaO h m n bk op (bS r (fun a1 W1 => bS (sgnS T n 59 a1) (fun a2 _ => .inr (a2, W1)))))) := by
  rcases r with ⟨k, q⟩ | ⟨a, V⟩
  · obtain ⟨a9, c9, ns9, h1, rfl⟩ := hq
    have hq9 := (hb.1 k q rfl)
    rw [bS_l]
    refine ww_aload_n dX11_readStep_272 rfl rfl ?_
    refine ww_bipush (v := nI 59) dX11_readStep_273 (by decide) ?_
    refine ww_cV0 (M := m_X11_readStep) (pc := 275) (h1 := mrS (maS h m c9 ns9) m n a9 (nI q) (nI k) op) (st := []) (d := d) (bc := 0) (bs := 0) (c_MR_sign_f hst (maS_M hM c9 ns9) (maS_t (c := c9) (ns := ns9) htf) hB hn a9 (nI k) op q (by omega) 59) vv_X11_sign dX11_readStep_275 wg_1467 ((maS_M hM c9 ns9).K0) rfl rfl rfl rfl (by omega) (Nat.le_of_ble_eq_true rfl) (Nat.le_of_ble_eq_true rfl) (Nat.le_of_ble_eq_true rfl) ?_
    exact ww_vret dX11_readStep_278 rfl ⟨rfl, a9, c9, ns9, h1, rfl⟩
  · obtain ⟨ns9, hrs, rfl⟩ := hq
    have ha9 := (hb.2 a V rfl)
    refine ww_aload_n dX11_readStep_272 rfl rfl ?_
    refine ww_bipush (v := nI 59) dX11_readStep_273 (by decide) ?_
    rcases hr5001 : sgnS T n 59 a with ⟨k5001, q5001⟩ | ⟨a5001, u5001⟩
    · have hf5001 := (sgnS_l hr5001).1
      have hq5001 := sgnS_lq (by omega) hr5001
      have hsl5001 := sk_le (T := T) (show a ≤ n by omega)
      refine ww_cV0 (M := m_X11_readStep) (pc := 275) (h1 := mrS (maS h m (4 * V.1) ns9) m n (sk T n a) (nI q5001) (nI k5001) op) (st := []) (d := d) (bc := 0) (bs := 0) (c_MR_sign_l hst (maS_M hM (4 * V.1) ns9) (maS_t (c := 4 * V.1) (ns := ns9) htf) hB hn a bk op (by omega) 59 (by omega) (by omega) hr5001) vv_X11_sign dX11_readStep_275 wg_1467 ((maS_M hM (4 * V.1) ns9).K0) rfl rfl rfl rfl (by omega) (Nat.le_of_ble_eq_true rfl) (Nat.le_of_ble_eq_true rfl) (Nat.le_of_ble_eq_true rfl) ?_
      exact ww_vret dX11_readStep_278 rfl ⟨rfl, (by rw [bS_r, hr5001, bS_l]; exact ⟨_, _, _, (by omega), rfl⟩)⟩
    · have hf5001 := sgnS_r hr5001
      have hg5001 := sk_ge (T := T) (show a ≤ n by omega)
      refine ww_cV0 (M := m_X11_readStep) (pc := 275) (h1 := mrS (maS h m (4 * V.1) ns9) m n a5001 (-1) bk op) (st := []) (d := d) (bc := 0) (bs := 0) (c_MR_sign_r hst (maS_M hM (4 * V.1) ns9) (maS_t (c := 4 * V.1) (ns := ns9) htf) hB hn a bk op (by omega) 59 (by omega) (by omega) hr5001) vv_X11_sign dX11_readStep_275 wg_1467 ((maS_M hM (4 * V.1) ns9).K0) rfl rfl rfl rfl (by omega) (Nat.le_of_ble_eq_true rfl) (Nat.le_of_ble_eq_true rfl) (Nat.le_of_ble_eq_true rfl) ?_
      exact ww_vret dX11_readStep_278 rfl ⟨rfl, (by rw [bS_r, hr5001, bS_r]; exact ⟨_, hrs, rfl⟩)⟩
set_option maxHeartbeats 4000000 in
set_option maxRecDepth 100000 in
theorem l_Ma_in {l : Launch} {Z : EE} (hst : l.stackTraces = false) {h : PH} {m : Nat} (hM : ModS h m) {tf : Nat → Int32} (htf : hp_I h (m + 2) = tf) {T : Nat → Nat} (hB : BT tf T) {n : Nat} (hn : n ≤ 600) {np : Nat} (hnp : hp_F h m 15 = .int (nI np)) (hn6 : np ≤ 6) {d : Nat} (hd : 5 ≤ d) (bk : Int32) (op : Nat) {k : Nat} {inner : Option (Nat → AF → PR AF)} (hI : ∀ S, inner = some S → ∃ k', k = k' + 1 ∧ GoodS np k' n S) (hU : ∀ (a : Nat) (W : AF) (ns : Nat → Int32), a ≤ n → sk T n a = a → 4 * W.1 ≤ a → RsR W ns → CC l Z m_X11_readStep d 0 0 [.ref m] (mrS (maS h m (4 * W.1) ns) m n a (-1) bk op) (RQ none (MaO h m n bk op (spS np inner T n a W)))) (t f0 : Nat) {Post : Res → PH → Prop} : ∀ (j a : Nat) (W : AF) (ns : Nat → Int32), a ≤ n → n < a + 4 * j → 4 * W.1 ≤ a → RsR W ns → (∀ a9 V ns9, slS (spS np inner T n) T n j a W = .inr (a9, V) → a9 < n → T a9 = 93 → sk T n a9 = a9 → RsR V ns9 → WW l Z m_X11_readStep (d + 1) 0 0 225 [.ref m, UU, .int (nI t), .int (nI f0)] [] (mrS (maS h m (4 * V.1) ns9) m n a9 (-1) bk op) Post) → (∀ V a9 c9 ns9, slS (spS np inner T n) T n j a W = .inr (n, V) → a9 ≤ n → WW l Z m_X11_readStep (d + 1) 0 0 225 [.ref m, UU, .int (nI t), .int (nI f0)] [] (mrS (maS h m c9 ns9) m n a9 (nI n) (nI 1) op) Post) → (∀ k q a9 c9 ns9, slS (spS np inner T n) T n j a W = .inl (k, q) → q ≤ n → a9 ≤ n → WW l Z m_X11_readStep (d + 1) 0 0 225 [.ref m, UU, .int (nI t), .int (nI f0)] [] (mrS (maS h m c9 ns9) m n a9 (nI q) (nI k) op) Post) → WW l Z m_X11_readStep (d + 1) 0 0 202 [.ref m, UU, .int (nI t), .int (nI f0)] [] (mrS (maS h m (4 * W.1) ns) m n a (-1) bk op) Post := by
  intro j
  induction j with
  | zero => intro a W ns ha hfu; exfalso; omega
  | succ j ih =>
    intro a W ns ha hfu hW hrs hR hE hL
    have hT9 := (hB (sk T n a)).2
    have hs9 := sk_a (T := T) ha
    refine ww_aload_n dX11_readStep_202 rfl rfl ?_
    refine ww_cVr (M := m_X11_readStep) (pc := 203) (v := .int (nI 1)) (h1 := mrS (maS h m (4 * W.1) ns) m n a (-1) bk op) (st := []) (d := d + 1) (bc := 0) (bs := 0) (c_MR_fine_t hst (maS_M hM (4 * W.1) ns) (maS_t (c := 4 * W.1) (ns := ns) htf) hB hn a bk op) vv_X11_fine dX11_readStep_203 wg_1421 ((maS_M hM (4 * W.1) ns).K0) rfl rfl rfl rfl (by omega) (Nat.le_of_ble_eq_true rfl) (Nat.le_of_ble_eq_true rfl) (Nat.le_of_ble_eq_true rfl) ?_
    refine ww_if_eqN (tgt := 225) dX11_readStep_206 (by decide) (by omega) (fun c206 => ?_) (fun c206 => ?_)
    · exact absurd c206 (by decide)
    · refine ww_aload_n dX11_readStep_209 rfl rfl ?_
      have hsl5002 := sk_le (T := T) (show a ≤ n by omega)
      have hsg5002 := sk_ge (T := T) (show a ≤ n by omega)
      have hsT5002 := (hB (sk T n a)).2
      by_cases hl5002 : sk T n a < n
      · refine ww_cVr (M := m_X11_readStep) (pc := 210) (v := .int (nI (T (sk T n a)))) (h1 := mrS (maS h m (4 * W.1) ns) m n (sk T n a) (-1) bk op) (st := []) (d := d + 1) (bc := 0) (bs := 0) (c_MR_here_t hst (maS_M hM (4 * W.1) ns) (maS_t (c := 4 * W.1) (ns := ns) htf) hB hn (-1) bk op a (by omega) hl5002) vv_X11_here dX11_readStep_210 wg_1429 ((maS_M hM (4 * W.1) ns).K0) rfl rfl rfl rfl (by omega) (Nat.le_of_ble_eq_true rfl) (Nat.le_of_ble_eq_true rfl) (Nat.le_of_ble_eq_true rfl) ?_
        refine ww_bipush (v := nI 93) dX11_readStep_213 (by decide) ?_
        refine ww_icmp_eqN (tgt := 225) dX11_readStep_215 (by decide) (by omega) (by omega) (fun c215 => ?_) (fun c215 => ?_)
        · exact hR _ _ _ (slS_e (fun e => e.2 c215)) (by assumption) c215 (sk_id (by omega)) hrs
        · refine ww_aload_n dX11_readStep_218 rfl rfl ?_
          have hg5003 := spS_O (np := np) (T := T) (k := k) hI (a := sk T n a) (W := W) (by omega)
          refine ww_cVq0 (M := m_X11_readStep) (pc := 219) (st := []) (d := d + 1) (bc := 0) (bs := 0) (hU (sk T n a) W ns (by omega) (sk_id (by omega)) (by omega) hrs) vv_X11_readStep dX11_readStep_219 wg_1524 ((maS_M hM (4 * W.1) ns).K0) rfl rfl rfl rfl (Nat.le_refl _) (Nat.le_of_ble_eq_true rfl) (Nat.le_of_ble_eq_true rfl) (Nat.le_of_ble_eq_true rfl) (fun ho5003 qo5003 => ?_)
          rcases hr5003 : spS np inner T n (sk T n a) W with ⟨k5003, q5003⟩ | ⟨a5003, W5003⟩
          · rw [hr5003] at qo5003
            obtain ⟨x5003, c5003, ns5003, hx5003, rfl⟩ := qo5003
            have hf5003 := hg5003.1 _ _ hr5003
            refine ww_goto (tgt := 202) dX11_readStep_222 (by decide) ?_
            refine ww_aload_n dX11_readStep_202 rfl rfl ?_
            refine ww_cVr (M := m_X11_readStep) (pc := 203) (v := .int (nI 0)) (h1 := mrS (maS h m c5003 ns5003) m n x5003 (nI q5003) (nI k5003) op) (st := []) (d := d + 1) (bc := 0) (bs := 0) (c_MR_fine_f hst (maS_M hM c5003 ns5003) (maS_t (c := c5003) (ns := ns5003) htf) hB hn x5003 (nI k5003) op q5003 (by omega)) vv_X11_fine dX11_readStep_203 wg_1421 ((maS_M hM c5003 ns5003).K0) rfl rfl rfl rfl (by omega) (Nat.le_of_ble_eq_true rfl) (Nat.le_of_ble_eq_true rfl) (Nat.le_of_ble_eq_true rfl) ?_
            refine ww_if_eqN (tgt := 225) dX11_readStep_206 (by decide) (by omega) (fun c206 => ?_) (fun c206 => ?_)
            · exact hL _ _ _ _ _ (by rw [slS_i (by assumption) c215, hr5003, bS_l]) (by omega) (by omega)
            · exact absurd c206 (by decide)
          · rw [hr5003] at qo5003
            obtain ⟨ns5003, hs5003, rfl⟩ := qo5003
            have hf5003 := hg5003.2 _ _ hr5003
            refine ww_goto (tgt := 202) dX11_readStep_222 (by decide) ?_
            exact ih a5003 W5003 _ (by omega) (by omega) (by omega) hs5003 (fun a9 V ns9 e => hR a9 V ns9 (by rw [slS_i (by assumption) c215, hr5003, bS_r]; exact e)) (fun V a9 c9 ns9 e => hE V a9 c9 ns9 (by rw [slS_i (by assumption) c215, hr5003, bS_r]; exact e)) (fun k q a9 c9 ns9 e => hL k q a9 c9 ns9 (by rw [slS_i (by assumption) c215, hr5003, bS_r]; exact e))
      · refine ww_cVr (M := m_X11_readStep) (pc := 210) (v := .int (nI 0)) (h1 := mrS (maS h m (4 * W.1) ns) m n n (-1) bk op) (st := []) (d := d + 1) (bc := 0) (bs := 0) (c_MR_here_f hst (maS_M hM (4 * W.1) ns) (maS_t (c := 4 * W.1) (ns := ns) htf) hB hn (-1) bk op a (by omega) hl5002) vv_X11_here dX11_readStep_210 wg_1429 ((maS_M hM (4 * W.1) ns).K0) rfl rfl rfl rfl (by omega) (Nat.le_of_ble_eq_true rfl) (Nat.le_of_ble_eq_true rfl) (Nat.le_of_ble_eq_true rfl) ?_
        refine ww_bipush (v := nI 93) dX11_readStep_213 (by decide) ?_
        refine ww_icmp_eqN (tgt := 225) dX11_readStep_215 (by decide) (by omega) (by omega) (fun c215 => ?_) (fun c215 => ?_)
        · exact absurd c215 (by decide)
        · refine ww_aload_n dX11_readStep_218 rfl rfl ?_
          refine ww_cVq0 (M := m_X11_readStep) (pc := 219) (st := []) (d := d + 1) (bc := 0) (bs := 0) (hU n W ns (Nat.le_refl _) (sk_n T n) (by omega) hrs) vv_X11_readStep dX11_readStep_219 wg_1524 ((maS_M hM (4 * W.1) ns).K0) rfl rfl rfl rfl (Nat.le_refl _) (Nat.le_of_ble_eq_true rfl) (Nat.le_of_ble_eq_true rfl) (Nat.le_of_ble_eq_true rfl) (fun ho5004 qo5004 => ?_)
          rw [spS_n] at qo5004
          obtain ⟨x5004, c5004, ns5004, hx5004, rfl⟩ := qo5004
          refine ww_goto (tgt := 202) dX11_readStep_222 (by decide) ?_
          refine ww_aload_n dX11_readStep_202 rfl rfl ?_
          refine ww_cVr (M := m_X11_readStep) (pc := 203) (v := .int (nI 0)) (h1 := mrS (maS h m c5004 ns5004) m n x5004 (nI n) (nI 1) op) (st := []) (d := d + 1) (bc := 0) (bs := 0) (c_MR_fine_f hst (maS_M hM c5004 ns5004) (maS_t (c := c5004) (ns := ns5004) htf) hB hn x5004 (nI 1) op n (by omega)) vv_X11_fine dX11_readStep_203 wg_1421 ((maS_M hM c5004 ns5004).K0) rfl rfl rfl rfl (by omega) (Nat.le_of_ble_eq_true rfl) (Nat.le_of_ble_eq_true rfl) (Nat.le_of_ble_eq_true rfl) ?_
          refine ww_if_eqN (tgt := 225) dX11_readStep_206 (by decide) (by omega) (fun c206 => ?_) (fun c206 => ?_)
          · exact hE _ _ _ _ (by rw [slS_e (fun e => by omega), show sk T n a = n by omega]) (by omega)
          · exact absurd c206 (by decide)
set_option maxHeartbeats 4000000 in
set_option maxRecDepth 100000 in
theorem c_Ma_step0 {l : Launch} {Z : EE} (hst : l.stackTraces = false) {h : PH} {m : Nat} (hM : ModS h m) {tf : Nat → Int32} (htf : hp_I h (m + 2) = tf) {T : Nat → Nat} (hB : BT tf T) {n : Nat} (hn : n ≤ 600) {np : Nat} (hnp : hp_F h m 15 = .int (nI np)) (hn6 : np ≤ 6) (hn5 : n ≤ 150) {d : Nat} (hd : 5 ≤ d) (bk : Int32) (op : Nat) (ho : op = 6) (a : Nat) (W : AF) (ns : Nat → Int32) (ha : a ≤ n) (hka : sk T n a = a) (hW : 4 * W.1 ≤ a) (hrs : RsR W ns) : CC l Z m_X11_readStep d 0 0 [.ref m] (mrS (maS h m (4 * W.1) ns) m n a (-1) bk op) (RQ none (MaO h m n bk op (spS np none T n a W))) := by
  refine ee_entry hst (by decide +kernel) rfl rfl (by simp [Value.category]) (Nat.le_of_ble_eq_true rfl) ?_
  refine ww_lv (lv2 := [.ref m, UU, UU, UU]) rfl ?_
  have hbb : (∀ k q, stS np none T n a W = .inl (k, q) → q ≤ n) ∧ ∀ a9 V, stS np none T n a W = .inr (a9, V) → a9 ≤ n := by
    have h9 := stS_O (np := np) (T := T) (k := 0) (inner := none) (fun S e => by cases e) (W := W) ha
    exact ⟨fun k q e => (h9.l e).2, fun a9 V e => (h9.r e).2.1⟩
  show WW l Z m_X11_readStep _ 0 0 0 _ [] _ (RQ none (MaO h m n bk op (bS (stS np none T n a W) _)))
  refine ww_aload_n dX11_readStep_0 rfl rfl ?_
  have hsl5005 := sk_le (T := T) (show a ≤ n by omega)
  have hsg5005 := sk_ge (T := T) (show a ≤ n by omega)
  rcases hr5005 : wrdS wWork T n a with ⟨k5005, q5005⟩ | ⟨a5005, v5005⟩
  · have hq5005 := wrdS_lq (by omega) hr5005
    have hk5005 := (wrdS_l hr5005).1
    have hno5005 := wM_l (by omega) wWork_x (by decide) hr5005
    have hn5005_18 : ¬ wdA T n a = 22117 := fun e => hno5005 18 (by decide) (e.trans (by decide +kernel))
    have hn5005_19 : ¬ wdA T n a = 628108 := fun e => hno5005 19 (by decide) (e.trans (by decide +kernel))
    have hn5005_12 : ¬ wdA T n a = 595412 := fun e => hno5005 12 (by decide) (e.trans (by decide +kernel))
    have hn5005_17 : ¬ wdA T n a = 4153 := fun e => hno5005 17 (by decide) (e.trans (by decide +kernel))
    have hn5005_20 : ¬ wdA T n a = 1279278 := fun e => hno5005 20 (by decide) (e.trans (by decide +kernel))
    have hwl5005 := wdA_lt (T := T) (show a ≤ n by omega)
    refine ww_cVr (M := m_X11_readStep) (pc := 1) (v := .int (nI (wdA T n a))) (h1 := mrS (maS h m (4 * W.1) ns) m n (sk T n a) (-1) bk op) (st := []) (d := d) (bc := 0) (bs := 0) (c_MR_word hst (maS_M hM (4 * W.1) ns) (maS_t (c := 4 * W.1) (ns := ns) htf) hB hn (-1) bk op a (by omega)) vv_X11_word dX11_readStep_1 wg_1433 ((maS_M hM (4 * W.1) ns).K0) rfl rfl rfl rfl (by omega) (Nat.le_of_ble_eq_true rfl) (Nat.le_of_ble_eq_true rfl) (Nat.le_of_ble_eq_true rfl) ?_
    refine ww_sti_n (lv2 := [.ref m, .int (nI (wdA T n a)), UU, UU]) dX11_readStep_4 rfl rfl (by decide) rfl ?_
    refine ww_iload_n dX11_readStep_5 rfl rfl ?_
    refine ww_ldcS (i := 17) dX11_readStep_6 rfl ?_
    refine ww_cSr (M := m_X11_readStep) (pc := 8) (v := .int (nI 4153)) (h1 := mrS (maS h m (4 * W.1) ns) m n (sk T n a) (-1) bk op) (st := [.int (nI (wdA T n a))]) (d := d) (bc := 0) (bs := 0) (c_of_17 hst (mrS (maS h m (4 * W.1) ns) m n (sk T n a) (-1) bk op)) vv_X11_of dX11_readStep_8 wg_1441 rfl rfl rfl (by omega) (Nat.le_of_ble_eq_true rfl) (Nat.le_of_ble_eq_true rfl) (Nat.le_of_ble_eq_true rfl) ?_
    refine ww_icmp_neN (tgt := 29) dX11_readStep_11 (by decide) (by omega) (by omega) (fun c11 => ?_) (fun c11 => ?_)
    · refine ww_iload_n dX11_readStep_29 rfl rfl ?_
      refine ww_ldcwS (i := 18) dX11_readStep_30 rfl ?_
      refine ww_cSr (M := m_X11_readStep) (pc := 33) (v := .int (nI 22117)) (h1 := mrS (maS h m (4 * W.1) ns) m n (sk T n a) (-1) bk op) (st := [.int (nI (wdA T n a))]) (d := d) (bc := 0) (bs := 0) (c_of_18 hst (mrS (maS h m (4 * W.1) ns) m n (sk T n a) (-1) bk op)) vv_X11_of dX11_readStep_33 wg_1441 rfl rfl rfl (by omega) (Nat.le_of_ble_eq_true rfl) (Nat.le_of_ble_eq_true rfl) (Nat.le_of_ble_eq_true rfl) ?_
      refine ww_icmp_neN (tgt := 76) dX11_readStep_36 (by decide) (by omega) (by omega) (fun c36 => ?_) (fun c36 => ?_)
      · refine ww_iload_n dX11_readStep_76 rfl rfl ?_
        refine ww_ldcwS (i := 19) dX11_readStep_77 rfl ?_
        refine ww_cSr (M := m_X11_readStep) (pc := 80) (v := .int (nI 628108)) (h1 := mrS (maS h m (4 * W.1) ns) m n (sk T n a) (-1) bk op) (st := [.int (nI (wdA T n a))]) (d := d) (bc := 0) (bs := 0) (c_of_19 hst (mrS (maS h m (4 * W.1) ns) m n (sk T n a) (-1) bk op)) vv_X11_of dX11_readStep_80 wg_1441 rfl rfl rfl (by omega) (Nat.le_of_ble_eq_true rfl) (Nat.le_of_ble_eq_true rfl) (Nat.le_of_ble_eq_true rfl) ?_
        refine ww_icmp_neN (tgt := 125) dX11_readStep_83 (by decide) (by omega) (by omega) (fun c83 => ?_) (fun c83 => ?_)
        · refine ww_iload_n dX11_readStep_125 rfl rfl ?_
          refine ww_ldcS (i := 12) dX11_readStep_126 rfl ?_
          refine ww_cSr (M := m_X11_readStep) (pc := 128) (v := .int (nI 595412)) (h1 := mrS (maS h m (4 * W.1) ns) m n (sk T n a) (-1) bk op) (st := [.int (nI (wdA T n a))]) (d := d) (bc := 0) (bs := 0) (c_of_12 hst (mrS (maS h m (4 * W.1) ns) m n (sk T n a) (-1) bk op)) vv_X11_of dX11_readStep_128 wg_1441 rfl rfl rfl (by omega) (Nat.le_of_ble_eq_true rfl) (Nat.le_of_ble_eq_true rfl) (Nat.le_of_ble_eq_true rfl) ?_
          refine ww_icmp_neN (tgt := 160) dX11_readStep_131 (by decide) (by omega) (by omega) (fun c131 => ?_) (fun c131 => ?_)
          · refine ww_iload_n dX11_readStep_160 rfl rfl ?_
            refine ww_ldcwS (i := 20) dX11_readStep_161 rfl ?_
            refine ww_cSr (M := m_X11_readStep) (pc := 164) (v := .int (nI 1279278)) (h1 := mrS (maS h m (4 * W.1) ns) m n (sk T n a) (-1) bk op) (st := [.int (nI (wdA T n a))]) (d := d) (bc := 0) (bs := 0) (c_of_20 hst (mrS (maS h m (4 * W.1) ns) m n (sk T n a) (-1) bk op)) vv_X11_of dX11_readStep_164 wg_1441 rfl rfl rfl (by omega) (Nat.le_of_ble_eq_true rfl) (Nat.le_of_ble_eq_true rfl) (Nat.le_of_ble_eq_true rfl) ?_
            refine ww_icmp_neN (tgt := 263) dX11_readStep_167 (by decide) (by omega) (by omega) (fun c167 => ?_) (fun c167 => ?_)
            · refine ww_aload_n dX11_readStep_263 rfl rfl ?_
              refine ww_iconst (v := nI 1) dX11_readStep_264 (by decide) ?_
              refine ww_aload_n dX11_readStep_265 rfl rfl ?_
              refine ww_get 4 dX11_readStep_266 ((maS_M hM (4 * W.1) ns).K0) rfl (by decide) inX11 wg_1244 (mrS_4 _ _ _ _ _ _ _) ?_
              refine ww_cV0 (M := m_X11_readStep) (pc := 269) (h1 := mrS (maS h m (4 * W.1) ns) m n (sk T n a) (nI (sk T n a)) (nI 1) op) (st := []) (d := d) (bc := 0) (bs := 0) (c_MR_wrong_t hst (maS_M hM (4 * W.1) ns) (maS_t (c := 4 * W.1) (ns := ns) htf) hB hn (sk T n a) bk op (nI 1) (nI (sk T n a))) vv_X11_wrong dX11_readStep_269 wg_1448 ((maS_M hM (4 * W.1) ns).K0) rfl rfl rfl rfl (by omega) (Nat.le_of_ble_eq_true rfl) (Nat.le_of_ble_eq_true rfl) (Nat.le_of_ble_eq_true rfl) ?_
              refine ww_fg (lv2 := [.ref m, UU, UU, UU]) ⟨Or.inr rfl, Or.inl rfl, Or.inl rfl, Or.inl rfl, trivial⟩ ?_
              exact l_Ma_tail hst hM htf hB hn hnp hn6 (by omega) bk op (r := stS np none T n a W) (by unfold stS; rw [show wrdS wWork T n a = .inl (1, sk T n a) from (by rw [hr5005, (wrdS_l hr5005).1, (wrdS_l hr5005).2.1]), bS_l]; exact ⟨_, _, _, (by omega), rfl⟩) hbb
            · exact absurd c167 (by assumption)
          · exact absurd c131 (by assumption)
        · exact absurd c83 (by assumption)
      · exact absurd c36 (by assumption)
    · exact absurd c11 (by assumption)
  · have hf5005 := wrdS_lt wWork_ne (by omega) hr5005
    have hz5005 := (wrdS_r hr5005).1
    rcases (show v5005 = 0 ∨ v5005 = 1 ∨ v5005 = 2 ∨ v5005 = 3 ∨ v5005 = 4 by have h9 := hf5005.2.2; simp only [wWork, List.length_cons, List.length_nil] at h9; omega) with rfl | rfl | rfl | rfl | rfl
    · have hw5005 : wdA T n a = 22117 := by
        obtain ⟨i, hi, hw⟩ := wM_r (by omega) wWork_x (by decide) hr5005
        have e := Option.some.inj (show some 18 = some i from hi)
        rw [← e] at hw
        exact hw.trans (by decide +kernel)
      refine ww_cVr (M := m_X11_readStep) (pc := 1) (v := .int (nI 22117)) (h1 := mrS (maS h m (4 * W.1) ns) m n (sk T n a) (-1) bk op) (st := []) (d := d) (bc := 0) (bs := 0) (c_MR_word_e hst (maS_M hM (4 * W.1) ns) (maS_t (c := 4 * W.1) (ns := ns) htf) hB hn (-1) bk op a (by omega) hw5005) vv_X11_word dX11_readStep_1 wg_1433 ((maS_M hM (4 * W.1) ns).K0) rfl rfl rfl rfl (by omega) (Nat.le_of_ble_eq_true rfl) (Nat.le_of_ble_eq_true rfl) (Nat.le_of_ble_eq_true rfl) ?_
      refine ww_sti_n (lv2 := [.ref m, .int (nI 22117), UU, UU]) dX11_readStep_4 rfl rfl (by decide) rfl ?_
      refine ww_iload_n dX11_readStep_5 rfl rfl ?_
      refine ww_ldcS (i := 17) dX11_readStep_6 rfl ?_
      refine ww_cSr (M := m_X11_readStep) (pc := 8) (v := .int (nI 4153)) (h1 := mrS (maS h m (4 * W.1) ns) m n (sk T n a) (-1) bk op) (st := [.int (nI 22117)]) (d := d) (bc := 0) (bs := 0) (c_of_17 hst (mrS (maS h m (4 * W.1) ns) m n (sk T n a) (-1) bk op)) vv_X11_of dX11_readStep_8 wg_1441 rfl rfl rfl (by omega) (Nat.le_of_ble_eq_true rfl) (Nat.le_of_ble_eq_true rfl) (Nat.le_of_ble_eq_true rfl) ?_
      refine ww_icmp_neN (tgt := 29) dX11_readStep_11 (by decide) (by omega) (by omega) (fun c11 => ?_) (fun c11 => ?_)
      · refine ww_iload_n dX11_readStep_29 rfl rfl ?_
        refine ww_ldcwS (i := 18) dX11_readStep_30 rfl ?_
        refine ww_cSr (M := m_X11_readStep) (pc := 33) (v := .int (nI 22117)) (h1 := mrS (maS h m (4 * W.1) ns) m n (sk T n a) (-1) bk op) (st := [.int (nI 22117)]) (d := d) (bc := 0) (bs := 0) (c_of_18 hst (mrS (maS h m (4 * W.1) ns) m n (sk T n a) (-1) bk op)) vv_X11_of dX11_readStep_33 wg_1441 rfl rfl rfl (by omega) (Nat.le_of_ble_eq_true rfl) (Nat.le_of_ble_eq_true rfl) (Nat.le_of_ble_eq_true rfl) ?_
        refine ww_icmp_neN (tgt := 76) dX11_readStep_36 (by decide) (by omega) (by omega) (fun c36 => ?_) (fun c36 => ?_)
        · exact absurd c36 (by decide)
        · refine ww_aload_n dX11_readStep_39 rfl rfl ?_
          refine ww_cV0 (M := m_X11_readStep) (pc := 40) (h1 := mrS (maS h m (4 * W.1) ns) m n a5005 (-1) bk op) (st := []) (d := d) (bc := 0) (bs := 0) (c_MR_pass_e hst (maS_M hM (4 * W.1) ns) (maS_t (c := 4 * W.1) (ns := ns) htf) hB hn (-1) bk op (sk T n a) (by omega) (by rw [hz5005])) vv_X11_pass dX11_readStep_40 wg_1452 ((maS_M hM (4 * W.1) ns).K0) rfl rfl rfl rfl (by omega) (Nat.le_of_ble_eq_true rfl) (Nat.le_of_ble_eq_true rfl) (Nat.le_of_ble_eq_true rfl) ?_
          refine ww_aload_n dX11_readStep_43 rfl rfl ?_
          refine ww_iconst (v := nI 0) dX11_readStep_44 (by decide) ?_
          refine ww_aload_n dX11_readStep_45 rfl rfl ?_
          refine ww_get 15 dX11_readStep_46 ((maS_M hM (4 * W.1) ns).K0) rfl (by decide) inX11 wg_1255 (mrS_j _ _ _ _ _ (by decide) (maS_j (by decide) hnp)) ?_
          refine ww_iconst (v := nI 1) dX11_readStep_49 (by decide) ?_
          refine ww_isub dX11_readStep_50 ?_
          rcases hr5006 : figS T n 0 np a5005 with ⟨k5006, q5006⟩ | ⟨a5006, v5006⟩
          · have hf5006 := (figS_l hr5006).1
            have hq5006 := figS_lq (by omega) hr5006
            refine ww_cVq (M := m_X11_readStep) (pc := 51) (v := .int (nI 0)) (st := []) (d := d) (bc := 0) (bs := 0) (c_MR_num_l hst (maS_M hM (4 * W.1) ns) (maS_t (c := 4 * W.1) (ns := ns) htf) hB hn a5005 bk op (by omega) 0 np ((nI np) - (nI 1)) (by omega) (by omega) (hi_np (by omega)) hr5006) vv_X11_readNumber dX11_readStep_51 wg_1460 ((maS_M hM (4 * W.1) ns).K0) rfl rfl rfl rfl (by omega) (Nat.le_of_ble_eq_true rfl) (Nat.le_of_ble_eq_true rfl) (Nat.le_of_ble_eq_true rfl) (fun hx5006h qx5006 => ?_)
            obtain ⟨x5006, hx5006, rfl⟩ := qx5006
            refine ww_sti_n (lv2 := [.ref m, .int (nI 22117), .int (nI 0), UU]) dX11_readStep_54 rfl rfl (by decide) rfl ?_
            refine ww_aload_n dX11_readStep_55 rfl rfl ?_
            refine ww_cVr (M := m_X11_readStep) (pc := 56) (v := .int (nI 0)) (h1 := mrS (maS h m (4 * W.1) ns) m n x5006 (nI q5006) (nI k5006) op) (st := []) (d := d) (bc := 0) (bs := 0) (c_Ma_own_f hst hM htf hB hn hnp hn6 (4 * W.1) ns x5006 (nI k5006) op q5006 (by omega)) vv_X11_readOwned dX11_readStep_56 wg_1533 ((maS_M hM (4 * W.1) ns).K0) rfl rfl rfl rfl (by omega) (Nat.le_of_ble_eq_true rfl) (Nat.le_of_ble_eq_true rfl) (Nat.le_of_ble_eq_true rfl) ?_
            refine ww_sti_n (lv2 := [.ref m, .int (nI 22117), .int (nI 0), .int (nI 0)]) dX11_readStep_59 rfl rfl (by decide) rfl ?_
            refine ww_aload_n dX11_readStep_60 rfl rfl ?_
            refine ww_iconst (v := nI 0) dX11_readStep_61 (by decide) ?_
            refine ww_iload_n dX11_readStep_62 rfl rfl ?_
            refine ww_iload_n dX11_readStep_63 rfl rfl ?_
            refine ww_aload_n dX11_readStep_64 rfl rfl ?_
            refine ww_iconst (v := nI 0) dX11_readStep_65 (by decide) ?_
            refine ww_iconst (v := nI 2) dX11_readStep_66 (by decide) ?_
            refine ww_cVr (M := m_X11_readStep) (pc := 67) (v := .int (nI 0)) (h1 := mrS (maS h m (4 * W.1) ns) m n x5006 (nI q5006) (nI k5006) op) (st := [.int (nI 0), .int (nI 0), .int (nI 0), .ref m]) (d := d) (bc := 0) (bs := 0) (c_MR_num_f hst (maS_M hM (4 * W.1) ns) (maS_t (c := 4 * W.1) (ns := ns) htf) hB hn x5006 (nI k5006) op q5006 (by omega) 0 (nI 2)) vv_X11_readNumber dX11_readStep_67 wg_1460 ((maS_M hM (4 * W.1) ns).K0) rfl rfl rfl rfl (by omega) (Nat.le_of_ble_eq_true rfl) (Nat.le_of_ble_eq_true rfl) (Nat.le_of_ble_eq_true rfl) ?_
            refine ww_cV0 (M := m_X11_readStep) (pc := 70) (h1 := mrS (maS h m (4 * W.1) ns) m n x5006 (nI q5006) (nI k5006) op) (st := []) (d := d) (bc := 0) (bs := 0) (c_Ma_tell_f hst hM htf hB hn hnp hn6 (4 * W.1) ns x5006 (nI k5006) op q5006 (by omega) (nI 0) (nI 0) (nI 0) (nI 0)) vv_X11_tellsStep dX11_readStep_70 wg_1528 ((maS_M hM (4 * W.1) ns).K0) rfl rfl rfl rfl (by omega) (Nat.le_of_ble_eq_true rfl) (Nat.le_of_ble_eq_true rfl) (Nat.le_of_ble_eq_true rfl) ?_
            refine ww_goto (tgt := 272) dX11_readStep_73 (by decide) ?_
            refine ww_fg (lv2 := [.ref m, UU, UU, UU]) ⟨Or.inr rfl, Or.inl rfl, Or.inl rfl, Or.inl rfl, trivial⟩ ?_
            exact l_Ma_tail hst hM htf hB hn hnp hn6 (by omega) bk op (r := stS np none T n a W) (by unfold stS; rw [hr5005, bS_r, if_pos rfl, hr5006, bS_l]; exact ⟨_, _, _, (by omega), rfl⟩) hbb
          · have hf5006 := figS_r (by omega) hr5006
            have hg5006 := sk_ge (T := T) (show a5005 ≤ n by omega)
            refine ww_cVr (M := m_X11_readStep) (pc := 51) (v := .int (nI v5006)) (h1 := mrS (maS h m (4 * W.1) ns) m n a5006 (-1) bk op) (st := []) (d := d) (bc := 0) (bs := 0) (c_MR_num_r hst (maS_M hM (4 * W.1) ns) (maS_t (c := 4 * W.1) (ns := ns) htf) hB hn a5005 bk op (by omega) 0 np ((nI np) - (nI 1)) (by omega) (by omega) (hi_np (by omega)) hr5006) vv_X11_readNumber dX11_readStep_51 wg_1460 ((maS_M hM (4 * W.1) ns).K0) rfl rfl rfl rfl (by omega) (Nat.le_of_ble_eq_true rfl) (Nat.le_of_ble_eq_true rfl) (Nat.le_of_ble_eq_true rfl) ?_
            refine ww_sti_n (lv2 := [.ref m, .int (nI 22117), .int (nI v5006), UU]) dX11_readStep_54 rfl rfl (by decide) rfl ?_
            refine ww_aload_n dX11_readStep_55 rfl rfl ?_
            rcases hr5007 : figS T n 0 61 a5006 with ⟨k5007, q5007⟩ | ⟨a5007, v5007⟩
            · have hf5007 := (figS_l hr5007).1
              have hq5007 := figS_lq (by omega) hr5007
              refine ww_cVq (M := m_X11_readStep) (pc := 56) (v := .int (nI 0)) (st := []) (d := d) (bc := 0) (bs := 0) (c_Ma_own_l hst hM htf hB hn hnp hn6 (4 * W.1) ns a5006 bk op (by omega) hr5007) vv_X11_readOwned dX11_readStep_56 wg_1533 ((maS_M hM (4 * W.1) ns).K0) rfl rfl rfl rfl (by omega) (Nat.le_of_ble_eq_true rfl) (Nat.le_of_ble_eq_true rfl) (Nat.le_of_ble_eq_true rfl) (fun hx5007h qx5007 => ?_)
              obtain ⟨x5007, hx5007, rfl⟩ := qx5007
              refine ww_sti_n (lv2 := [.ref m, .int (nI 22117), .int (nI v5006), .int (nI 0)]) dX11_readStep_59 rfl rfl (by decide) rfl ?_
              refine ww_aload_n dX11_readStep_60 rfl rfl ?_
              refine ww_iconst (v := nI 0) dX11_readStep_61 (by decide) ?_
              refine ww_iload_n dX11_readStep_62 rfl rfl ?_
              refine ww_iload_n dX11_readStep_63 rfl rfl ?_
              refine ww_aload_n dX11_readStep_64 rfl rfl ?_
              refine ww_iconst (v := nI 0) dX11_readStep_65 (by decide) ?_
              refine ww_iconst (v := nI 2) dX11_readStep_66 (by decide) ?_
              refine ww_cVr (M := m_X11_readStep) (pc := 67) (v := .int (nI 0)) (h1 := mrS (maS h m (4 * W.1) ns) m n x5007 (nI q5007) (nI k5007) op) (st := [.int (nI 0), .int (nI v5006), .int (nI 0), .ref m]) (d := d) (bc := 0) (bs := 0) (c_MR_num_f hst (maS_M hM (4 * W.1) ns) (maS_t (c := 4 * W.1) (ns := ns) htf) hB hn x5007 (nI k5007) op q5007 (by omega) 0 (nI 2)) vv_X11_readNumber dX11_readStep_67 wg_1460 ((maS_M hM (4 * W.1) ns).K0) rfl rfl rfl rfl (by omega) (Nat.le_of_ble_eq_true rfl) (Nat.le_of_ble_eq_true rfl) (Nat.le_of_ble_eq_true rfl) ?_
              refine ww_cV0 (M := m_X11_readStep) (pc := 70) (h1 := mrS (maS h m (4 * W.1) ns) m n x5007 (nI q5007) (nI k5007) op) (st := []) (d := d) (bc := 0) (bs := 0) (c_Ma_tell_f hst hM htf hB hn hnp hn6 (4 * W.1) ns x5007 (nI k5007) op q5007 (by omega) (nI 0) (nI v5006) (nI 0) (nI 0)) vv_X11_tellsStep dX11_readStep_70 wg_1528 ((maS_M hM (4 * W.1) ns).K0) rfl rfl rfl rfl (by omega) (Nat.le_of_ble_eq_true rfl) (Nat.le_of_ble_eq_true rfl) (Nat.le_of_ble_eq_true rfl) ?_
              refine ww_goto (tgt := 272) dX11_readStep_73 (by decide) ?_
              refine ww_fg (lv2 := [.ref m, UU, UU, UU]) ⟨Or.inr rfl, Or.inl rfl, Or.inl rfl, Or.inl rfl, trivial⟩ ?_
              exact l_Ma_tail hst hM htf hB hn hnp hn6 (by omega) bk op (r := stS np none T n a W) (by unfold stS; rw [hr5005, bS_r, if_pos rfl, hr5006, bS_r, hr5007, bS_l]; exact ⟨_, _, _, (by omega), rfl⟩) hbb
            · have hf5007 := figS_r (by omega) hr5007
              have hg5007 := sk_ge (T := T) (show a5006 ≤ n by omega)
              refine ww_cVr (M := m_X11_readStep) (pc := 56) (v := .int (nI v5007)) (h1 := mrS (maS h m (4 * W.1) ns) m n a5007 (-1) bk op) (st := []) (d := d) (bc := 0) (bs := 0) (c_Ma_own_r hst hM htf hB hn hnp hn6 (4 * W.1) ns a5006 bk op (by omega) hr5007) vv_X11_readOwned dX11_readStep_56 wg_1533 ((maS_M hM (4 * W.1) ns).K0) rfl rfl rfl rfl (by omega) (Nat.le_of_ble_eq_true rfl) (Nat.le_of_ble_eq_true rfl) (Nat.le_of_ble_eq_true rfl) ?_
              refine ww_sti_n (lv2 := [.ref m, .int (nI 22117), .int (nI v5006), .int (nI v5007)]) dX11_readStep_59 rfl rfl (by decide) rfl ?_
              refine ww_aload_n dX11_readStep_60 rfl rfl ?_
              refine ww_iconst (v := nI 0) dX11_readStep_61 (by decide) ?_
              refine ww_iload_n dX11_readStep_62 rfl rfl ?_
              refine ww_iload_n dX11_readStep_63 rfl rfl ?_
              refine ww_aload_n dX11_readStep_64 rfl rfl ?_
              refine ww_iconst (v := nI 0) dX11_readStep_65 (by decide) ?_
              refine ww_iconst (v := nI 2) dX11_readStep_66 (by decide) ?_
              rcases hr5008 : figS T n 0 3 a5007 with ⟨k5008, q5008⟩ | ⟨a5008, v5008⟩
              · have hf5008 := (figS_l hr5008).1
                have hq5008 := figS_lq (by omega) hr5008
                refine ww_cVq (M := m_X11_readStep) (pc := 67) (v := .int (nI 0)) (st := [.int (nI v5007), .int (nI v5006), .int (nI 0), .ref m]) (d := d) (bc := 0) (bs := 0) (c_MR_num_l hst (maS_M hM (4 * W.1) ns) (maS_t (c := 4 * W.1) (ns := ns) htf) hB hn a5007 bk op (by omega) 0 3 (nI 2) (by omega) (by omega) (hi_c 2 (by decide)) hr5008) vv_X11_readNumber dX11_readStep_67 wg_1460 ((maS_M hM (4 * W.1) ns).K0) rfl rfl rfl rfl (by omega) (Nat.le_of_ble_eq_true rfl) (Nat.le_of_ble_eq_true rfl) (Nat.le_of_ble_eq_true rfl) (fun hx5008h qx5008 => ?_)
                obtain ⟨x5008, hx5008, rfl⟩ := qx5008
                refine ww_cV0 (M := m_X11_readStep) (pc := 70) (h1 := mrS (maS h m (4 * W.1) ns) m n x5008 (nI q5008) (nI k5008) op) (st := []) (d := d) (bc := 0) (bs := 0) (c_Ma_tell_f hst hM htf hB hn hnp hn6 (4 * W.1) ns x5008 (nI k5008) op q5008 (by omega) (nI 0) (nI v5006) (nI v5007) (nI 0)) vv_X11_tellsStep dX11_readStep_70 wg_1528 ((maS_M hM (4 * W.1) ns).K0) rfl rfl rfl rfl (by omega) (Nat.le_of_ble_eq_true rfl) (Nat.le_of_ble_eq_true rfl) (Nat.le_of_ble_eq_true rfl) ?_
                refine ww_goto (tgt := 272) dX11_readStep_73 (by decide) ?_
                refine ww_fg (lv2 := [.ref m, UU, UU, UU]) ⟨Or.inr rfl, Or.inl rfl, Or.inl rfl, Or.inl rfl, trivial⟩ ?_
                exact l_Ma_tail hst hM htf hB hn hnp hn6 (by omega) bk op (r := stS np none T n a W) (by unfold stS; rw [hr5005, bS_r, if_pos rfl, hr5006, bS_r, hr5007, bS_r, hr5008, bS_l]; exact ⟨_, _, _, (by omega), rfl⟩) hbb
              · have hf5008 := figS_r (by omega) hr5008
                have hg5008 := sk_ge (T := T) (show a5007 ≤ n by omega)
                refine ww_cVr (M := m_X11_readStep) (pc := 67) (v := .int (nI v5008)) (h1 := mrS (maS h m (4 * W.1) ns) m n a5008 (-1) bk op) (st := [.int (nI v5007), .int (nI v5006), .int (nI 0), .ref m]) (d := d) (bc := 0) (bs := 0) (c_MR_num_r hst (maS_M hM (4 * W.1) ns) (maS_t (c := 4 * W.1) (ns := ns) htf) hB hn a5007 bk op (by omega) 0 3 (nI 2) (by omega) (by omega) (hi_c 2 (by decide)) hr5008) vv_X11_readNumber dX11_readStep_67 wg_1460 ((maS_M hM (4 * W.1) ns).K0) rfl rfl rfl rfl (by omega) (Nat.le_of_ble_eq_true rfl) (Nat.le_of_ble_eq_true rfl) (Nat.le_of_ble_eq_true rfl) ?_
                refine ww_cVq0 (M := m_X11_readStep) (pc := 70) (st := []) (d := d) (bc := 0) (bs := 0) (cc_post (fun r h9 hp => (show RQ none (fun h9 => h9 = _) r h9 from hp)) (c_Ma_tell hst hM htf hB hn hnp hn6 (4 * W.1) (by omega) ns a5008 bk op 0 v5006 v5007 v5008)) vv_X11_tellsStep dX11_readStep_70 wg_1528 ((maS_M hM (4 * W.1) ns).K0) rfl rfl rfl rfl (by omega) (Nat.le_of_ble_eq_true rfl) (Nat.le_of_ble_eq_true rfl) (Nat.le_of_ble_eq_true rfl) (fun ho5009 ha5009 => ?_)
                subst ha5009
                have hs5009 := (RsR.new (k := 0) (a := v5006) (b := v5007) (c := v5008) (x := nI v5006) (y := nI v5007) (z := nI v5008) hrs (by decide) (fun _ => ⟨rfl, rfl, rfl⟩) (fun e => absurd e (by decide)) (fun e => absurd e (by decide)) (fun e => absurd e (by decide)))
                have he5009 : (aA 0 v5006 v5007 v5008 W).1 = W.1 + 1 := rfl
                refine ww_hp (h2 := mrS (maS h m (4 * (W.1 + 1)) (tl4 ns (4 * W.1) (nI 0) (nI v5006) (nI v5007) (nI v5008))) m n a5008 (-1) bk op) (by rw [show 4 * (W.1 + 1) = 4 * W.1 + 4 by omega]) ?_
                refine ww_goto (tgt := 272) dX11_readStep_73 (by decide) ?_
                refine ww_fg (lv2 := [.ref m, UU, UU, UU]) ⟨Or.inr rfl, Or.inl rfl, Or.inl rfl, Or.inl rfl, trivial⟩ ?_
                exact l_Ma_tail hst hM htf hB hn hnp hn6 (by omega) bk op (r := stS np none T n a W) (by unfold stS; rw [hr5005, bS_r, if_pos rfl, hr5006, bS_r, hr5007, bS_r, hr5008, bS_r]; exact ⟨_, hs5009, rfl⟩) hbb
      · exact absurd c11 (by decide)
    · have hw5005 : wdA T n a = 628108 := by
        obtain ⟨i, hi, hw⟩ := wM_r (by omega) wWork_x (by decide) hr5005
        have e := Option.some.inj (show some 19 = some i from hi)
        rw [← e] at hw
        exact hw.trans (by decide +kernel)
      refine ww_cVr (M := m_X11_readStep) (pc := 1) (v := .int (nI 628108)) (h1 := mrS (maS h m (4 * W.1) ns) m n (sk T n a) (-1) bk op) (st := []) (d := d) (bc := 0) (bs := 0) (c_MR_word_e hst (maS_M hM (4 * W.1) ns) (maS_t (c := 4 * W.1) (ns := ns) htf) hB hn (-1) bk op a (by omega) hw5005) vv_X11_word dX11_readStep_1 wg_1433 ((maS_M hM (4 * W.1) ns).K0) rfl rfl rfl rfl (by omega) (Nat.le_of_ble_eq_true rfl) (Nat.le_of_ble_eq_true rfl) (Nat.le_of_ble_eq_true rfl) ?_
      refine ww_sti_n (lv2 := [.ref m, .int (nI 628108), UU, UU]) dX11_readStep_4 rfl rfl (by decide) rfl ?_
      refine ww_iload_n dX11_readStep_5 rfl rfl ?_
      refine ww_ldcS (i := 17) dX11_readStep_6 rfl ?_
      refine ww_cSr (M := m_X11_readStep) (pc := 8) (v := .int (nI 4153)) (h1 := mrS (maS h m (4 * W.1) ns) m n (sk T n a) (-1) bk op) (st := [.int (nI 628108)]) (d := d) (bc := 0) (bs := 0) (c_of_17 hst (mrS (maS h m (4 * W.1) ns) m n (sk T n a) (-1) bk op)) vv_X11_of dX11_readStep_8 wg_1441 rfl rfl rfl (by omega) (Nat.le_of_ble_eq_true rfl) (Nat.le_of_ble_eq_true rfl) (Nat.le_of_ble_eq_true rfl) ?_
      refine ww_icmp_neN (tgt := 29) dX11_readStep_11 (by decide) (by omega) (by omega) (fun c11 => ?_) (fun c11 => ?_)
      · refine ww_iload_n dX11_readStep_29 rfl rfl ?_
        refine ww_ldcwS (i := 18) dX11_readStep_30 rfl ?_
        refine ww_cSr (M := m_X11_readStep) (pc := 33) (v := .int (nI 22117)) (h1 := mrS (maS h m (4 * W.1) ns) m n (sk T n a) (-1) bk op) (st := [.int (nI 628108)]) (d := d) (bc := 0) (bs := 0) (c_of_18 hst (mrS (maS h m (4 * W.1) ns) m n (sk T n a) (-1) bk op)) vv_X11_of dX11_readStep_33 wg_1441 rfl rfl rfl (by omega) (Nat.le_of_ble_eq_true rfl) (Nat.le_of_ble_eq_true rfl) (Nat.le_of_ble_eq_true rfl) ?_
        refine ww_icmp_neN (tgt := 76) dX11_readStep_36 (by decide) (by omega) (by omega) (fun c36 => ?_) (fun c36 => ?_)
        · refine ww_iload_n dX11_readStep_76 rfl rfl ?_
          refine ww_ldcwS (i := 19) dX11_readStep_77 rfl ?_
          refine ww_cSr (M := m_X11_readStep) (pc := 80) (v := .int (nI 628108)) (h1 := mrS (maS h m (4 * W.1) ns) m n (sk T n a) (-1) bk op) (st := [.int (nI 628108)]) (d := d) (bc := 0) (bs := 0) (c_of_19 hst (mrS (maS h m (4 * W.1) ns) m n (sk T n a) (-1) bk op)) vv_X11_of dX11_readStep_80 wg_1441 rfl rfl rfl (by omega) (Nat.le_of_ble_eq_true rfl) (Nat.le_of_ble_eq_true rfl) (Nat.le_of_ble_eq_true rfl) ?_
          refine ww_icmp_neN (tgt := 125) dX11_readStep_83 (by decide) (by omega) (by omega) (fun c83 => ?_) (fun c83 => ?_)
          · exact absurd c83 (by decide)
          · refine ww_aload_n dX11_readStep_86 rfl rfl ?_
            refine ww_cV0 (M := m_X11_readStep) (pc := 87) (h1 := mrS (maS h m (4 * W.1) ns) m n a5005 (-1) bk op) (st := []) (d := d) (bc := 0) (bs := 0) (c_MR_pass_e hst (maS_M hM (4 * W.1) ns) (maS_t (c := 4 * W.1) (ns := ns) htf) hB hn (-1) bk op (sk T n a) (by omega) (by rw [hz5005])) vv_X11_pass dX11_readStep_87 wg_1452 ((maS_M hM (4 * W.1) ns).K0) rfl rfl rfl rfl (by omega) (Nat.le_of_ble_eq_true rfl) (Nat.le_of_ble_eq_true rfl) (Nat.le_of_ble_eq_true rfl) ?_
            refine ww_aload_n dX11_readStep_90 rfl rfl ?_
            rcases hr5010 : figS T n 0 61 a5005 with ⟨k5010, q5010⟩ | ⟨a5010, v5010⟩
            · have hf5010 := (figS_l hr5010).1
              have hq5010 := figS_lq (by omega) hr5010
              refine ww_cVq (M := m_X11_readStep) (pc := 91) (v := .int (nI 0)) (st := []) (d := d) (bc := 0) (bs := 0) (c_Ma_own_l hst hM htf hB hn hnp hn6 (4 * W.1) ns a5005 bk op (by omega) hr5010) vv_X11_readOwned dX11_readStep_91 wg_1533 ((maS_M hM (4 * W.1) ns).K0) rfl rfl rfl rfl (by omega) (Nat.le_of_ble_eq_true rfl) (Nat.le_of_ble_eq_true rfl) (Nat.le_of_ble_eq_true rfl) (fun hx5010h qx5010 => ?_)
              obtain ⟨x5010, hx5010, rfl⟩ := qx5010
              refine ww_sti_n (lv2 := [.ref m, .int (nI 628108), .int (nI 0), UU]) dX11_readStep_94 rfl rfl (by decide) rfl ?_
              refine ww_aload_n dX11_readStep_95 rfl rfl ?_
              refine ww_iconst (v := nI 0) dX11_readStep_96 (by decide) ?_
              refine ww_aload_n dX11_readStep_97 rfl rfl ?_
              refine ww_get 15 dX11_readStep_98 ((maS_M hM (4 * W.1) ns).K0) rfl (by decide) inX11 wg_1255 (mrS_j _ _ _ _ _ (by decide) (maS_j (by decide) hnp)) ?_
              refine ww_iconst (v := nI 1) dX11_readStep_101 (by decide) ?_
              refine ww_isub dX11_readStep_102 ?_
              refine ww_cVr (M := m_X11_readStep) (pc := 103) (v := .int (nI 0)) (h1 := mrS (maS h m (4 * W.1) ns) m n x5010 (nI q5010) (nI k5010) op) (st := []) (d := d) (bc := 0) (bs := 0) (c_MR_num_f hst (maS_M hM (4 * W.1) ns) (maS_t (c := 4 * W.1) (ns := ns) htf) hB hn x5010 (nI k5010) op q5010 (by omega) 0 ((nI np) - (nI 1))) vv_X11_readNumber dX11_readStep_103 wg_1460 ((maS_M hM (4 * W.1) ns).K0) rfl rfl rfl rfl (by omega) (Nat.le_of_ble_eq_true rfl) (Nat.le_of_ble_eq_true rfl) (Nat.le_of_ble_eq_true rfl) ?_
              refine ww_sti_n (lv2 := [.ref m, .int (nI 628108), .int (nI 0), .int (nI 0)]) dX11_readStep_106 rfl rfl (by decide) rfl ?_
              refine ww_aload_n dX11_readStep_107 rfl rfl ?_
              refine ww_iconst (v := nI 1) dX11_readStep_108 (by decide) ?_
              refine ww_iload_n dX11_readStep_109 rfl rfl ?_
              refine ww_iload_n dX11_readStep_110 rfl rfl ?_
              refine ww_aload_n dX11_readStep_111 rfl rfl ?_
              refine ww_iconst (v := nI 0) dX11_readStep_112 (by decide) ?_
              refine ww_sipush (v := nI 999) dX11_readStep_113 (by decide) ?_
              refine ww_cVr (M := m_X11_readStep) (pc := 116) (v := .int (nI 0)) (h1 := mrS (maS h m (4 * W.1) ns) m n x5010 (nI q5010) (nI k5010) op) (st := [.int (nI 0), .int (nI 0), .int (nI 1), .ref m]) (d := d) (bc := 0) (bs := 0) (c_MR_num_f hst (maS_M hM (4 * W.1) ns) (maS_t (c := 4 * W.1) (ns := ns) htf) hB hn x5010 (nI k5010) op q5010 (by omega) 0 (nI 999)) vv_X11_readNumber dX11_readStep_116 wg_1460 ((maS_M hM (4 * W.1) ns).K0) rfl rfl rfl rfl (by omega) (Nat.le_of_ble_eq_true rfl) (Nat.le_of_ble_eq_true rfl) (Nat.le_of_ble_eq_true rfl) ?_
              refine ww_cV0 (M := m_X11_readStep) (pc := 119) (h1 := mrS (maS h m (4 * W.1) ns) m n x5010 (nI q5010) (nI k5010) op) (st := []) (d := d) (bc := 0) (bs := 0) (c_Ma_tell_f hst hM htf hB hn hnp hn6 (4 * W.1) ns x5010 (nI k5010) op q5010 (by omega) (nI 1) (nI 0) (nI 0) (nI 0)) vv_X11_tellsStep dX11_readStep_119 wg_1528 ((maS_M hM (4 * W.1) ns).K0) rfl rfl rfl rfl (by omega) (Nat.le_of_ble_eq_true rfl) (Nat.le_of_ble_eq_true rfl) (Nat.le_of_ble_eq_true rfl) ?_
              refine ww_goto (tgt := 272) dX11_readStep_122 (by decide) ?_
              refine ww_fg (lv2 := [.ref m, UU, UU, UU]) ⟨Or.inr rfl, Or.inl rfl, Or.inl rfl, Or.inl rfl, trivial⟩ ?_
              exact l_Ma_tail hst hM htf hB hn hnp hn6 (by omega) bk op (r := stS np none T n a W) (by unfold stS; rw [hr5005, bS_r, if_neg (by decide), if_pos rfl, hr5010, bS_l]; exact ⟨_, _, _, (by omega), rfl⟩) hbb
            · have hf5010 := figS_r (by omega) hr5010
              have hg5010 := sk_ge (T := T) (show a5005 ≤ n by omega)
              refine ww_cVr (M := m_X11_readStep) (pc := 91) (v := .int (nI v5010)) (h1 := mrS (maS h m (4 * W.1) ns) m n a5010 (-1) bk op) (st := []) (d := d) (bc := 0) (bs := 0) (c_Ma_own_r hst hM htf hB hn hnp hn6 (4 * W.1) ns a5005 bk op (by omega) hr5010) vv_X11_readOwned dX11_readStep_91 wg_1533 ((maS_M hM (4 * W.1) ns).K0) rfl rfl rfl rfl (by omega) (Nat.le_of_ble_eq_true rfl) (Nat.le_of_ble_eq_true rfl) (Nat.le_of_ble_eq_true rfl) ?_
              refine ww_sti_n (lv2 := [.ref m, .int (nI 628108), .int (nI v5010), UU]) dX11_readStep_94 rfl rfl (by decide) rfl ?_
              refine ww_aload_n dX11_readStep_95 rfl rfl ?_
              refine ww_iconst (v := nI 0) dX11_readStep_96 (by decide) ?_
              refine ww_aload_n dX11_readStep_97 rfl rfl ?_
              refine ww_get 15 dX11_readStep_98 ((maS_M hM (4 * W.1) ns).K0) rfl (by decide) inX11 wg_1255 (mrS_j _ _ _ _ _ (by decide) (maS_j (by decide) hnp)) ?_
              refine ww_iconst (v := nI 1) dX11_readStep_101 (by decide) ?_
              refine ww_isub dX11_readStep_102 ?_
              rcases hr5011 : figS T n 0 np a5010 with ⟨k5011, q5011⟩ | ⟨a5011, v5011⟩
              · have hf5011 := (figS_l hr5011).1
                have hq5011 := figS_lq (by omega) hr5011
                refine ww_cVq (M := m_X11_readStep) (pc := 103) (v := .int (nI 0)) (st := []) (d := d) (bc := 0) (bs := 0) (c_MR_num_l hst (maS_M hM (4 * W.1) ns) (maS_t (c := 4 * W.1) (ns := ns) htf) hB hn a5010 bk op (by omega) 0 np ((nI np) - (nI 1)) (by omega) (by omega) (hi_np (by omega)) hr5011) vv_X11_readNumber dX11_readStep_103 wg_1460 ((maS_M hM (4 * W.1) ns).K0) rfl rfl rfl rfl (by omega) (Nat.le_of_ble_eq_true rfl) (Nat.le_of_ble_eq_true rfl) (Nat.le_of_ble_eq_true rfl) (fun hx5011h qx5011 => ?_)
                obtain ⟨x5011, hx5011, rfl⟩ := qx5011
                refine ww_sti_n (lv2 := [.ref m, .int (nI 628108), .int (nI v5010), .int (nI 0)]) dX11_readStep_106 rfl rfl (by decide) rfl ?_
                refine ww_aload_n dX11_readStep_107 rfl rfl ?_
                refine ww_iconst (v := nI 1) dX11_readStep_108 (by decide) ?_
                refine ww_iload_n dX11_readStep_109 rfl rfl ?_
                refine ww_iload_n dX11_readStep_110 rfl rfl ?_
                refine ww_aload_n dX11_readStep_111 rfl rfl ?_
                refine ww_iconst (v := nI 0) dX11_readStep_112 (by decide) ?_
                refine ww_sipush (v := nI 999) dX11_readStep_113 (by decide) ?_
                refine ww_cVr (M := m_X11_readStep) (pc := 116) (v := .int (nI 0)) (h1 := mrS (maS h m (4 * W.1) ns) m n x5011 (nI q5011) (nI k5011) op) (st := [.int (nI v5010), .int (nI 0), .int (nI 1), .ref m]) (d := d) (bc := 0) (bs := 0) (c_MR_num_f hst (maS_M hM (4 * W.1) ns) (maS_t (c := 4 * W.1) (ns := ns) htf) hB hn x5011 (nI k5011) op q5011 (by omega) 0 (nI 999)) vv_X11_readNumber dX11_readStep_116 wg_1460 ((maS_M hM (4 * W.1) ns).K0) rfl rfl rfl rfl (by omega) (Nat.le_of_ble_eq_true rfl) (Nat.le_of_ble_eq_true rfl) (Nat.le_of_ble_eq_true rfl) ?_
                refine ww_cV0 (M := m_X11_readStep) (pc := 119) (h1 := mrS (maS h m (4 * W.1) ns) m n x5011 (nI q5011) (nI k5011) op) (st := []) (d := d) (bc := 0) (bs := 0) (c_Ma_tell_f hst hM htf hB hn hnp hn6 (4 * W.1) ns x5011 (nI k5011) op q5011 (by omega) (nI 1) (nI 0) (nI v5010) (nI 0)) vv_X11_tellsStep dX11_readStep_119 wg_1528 ((maS_M hM (4 * W.1) ns).K0) rfl rfl rfl rfl (by omega) (Nat.le_of_ble_eq_true rfl) (Nat.le_of_ble_eq_true rfl) (Nat.le_of_ble_eq_true rfl) ?_
                refine ww_goto (tgt := 272) dX11_readStep_122 (by decide) ?_
                refine ww_fg (lv2 := [.ref m, UU, UU, UU]) ⟨Or.inr rfl, Or.inl rfl, Or.inl rfl, Or.inl rfl, trivial⟩ ?_
                exact l_Ma_tail hst hM htf hB hn hnp hn6 (by omega) bk op (r := stS np none T n a W) (by unfold stS; rw [hr5005, bS_r, if_neg (by decide), if_pos rfl, hr5010, bS_r, hr5011, bS_l]; exact ⟨_, _, _, (by omega), rfl⟩) hbb
              · have hf5011 := figS_r (by omega) hr5011
                have hg5011 := sk_ge (T := T) (show a5010 ≤ n by omega)
                refine ww_cVr (M := m_X11_readStep) (pc := 103) (v := .int (nI v5011)) (h1 := mrS (maS h m (4 * W.1) ns) m n a5011 (-1) bk op) (st := []) (d := d) (bc := 0) (bs := 0) (c_MR_num_r hst (maS_M hM (4 * W.1) ns) (maS_t (c := 4 * W.1) (ns := ns) htf) hB hn a5010 bk op (by omega) 0 np ((nI np) - (nI 1)) (by omega) (by omega) (hi_np (by omega)) hr5011) vv_X11_readNumber dX11_readStep_103 wg_1460 ((maS_M hM (4 * W.1) ns).K0) rfl rfl rfl rfl (by omega) (Nat.le_of_ble_eq_true rfl) (Nat.le_of_ble_eq_true rfl) (Nat.le_of_ble_eq_true rfl) ?_
                refine ww_sti_n (lv2 := [.ref m, .int (nI 628108), .int (nI v5010), .int (nI v5011)]) dX11_readStep_106 rfl rfl (by decide) rfl ?_
                refine ww_aload_n dX11_readStep_107 rfl rfl ?_
                refine ww_iconst (v := nI 1) dX11_readStep_108 (by decide) ?_
                refine ww_iload_n dX11_readStep_109 rfl rfl ?_
                refine ww_iload_n dX11_readStep_110 rfl rfl ?_
                refine ww_aload_n dX11_readStep_111 rfl rfl ?_
                refine ww_iconst (v := nI 0) dX11_readStep_112 (by decide) ?_
                refine ww_sipush (v := nI 999) dX11_readStep_113 (by decide) ?_
                rcases hr5012 : figS T n 0 1000 a5011 with ⟨k5012, q5012⟩ | ⟨a5012, v5012⟩
                · have hf5012 := (figS_l hr5012).1
                  have hq5012 := figS_lq (by omega) hr5012
                  refine ww_cVq (M := m_X11_readStep) (pc := 116) (v := .int (nI 0)) (st := [.int (nI v5010), .int (nI v5011), .int (nI 1), .ref m]) (d := d) (bc := 0) (bs := 0) (c_MR_num_l hst (maS_M hM (4 * W.1) ns) (maS_t (c := 4 * W.1) (ns := ns) htf) hB hn a5011 bk op (by omega) 0 1000 (nI 999) (by omega) (by omega) (hi_c 999 (by decide)) hr5012) vv_X11_readNumber dX11_readStep_116 wg_1460 ((maS_M hM (4 * W.1) ns).K0) rfl rfl rfl rfl (by omega) (Nat.le_of_ble_eq_true rfl) (Nat.le_of_ble_eq_true rfl) (Nat.le_of_ble_eq_true rfl) (fun hx5012h qx5012 => ?_)
                  obtain ⟨x5012, hx5012, rfl⟩ := qx5012
                  refine ww_cV0 (M := m_X11_readStep) (pc := 119) (h1 := mrS (maS h m (4 * W.1) ns) m n x5012 (nI q5012) (nI k5012) op) (st := []) (d := d) (bc := 0) (bs := 0) (c_Ma_tell_f hst hM htf hB hn hnp hn6 (4 * W.1) ns x5012 (nI k5012) op q5012 (by omega) (nI 1) (nI v5011) (nI v5010) (nI 0)) vv_X11_tellsStep dX11_readStep_119 wg_1528 ((maS_M hM (4 * W.1) ns).K0) rfl rfl rfl rfl (by omega) (Nat.le_of_ble_eq_true rfl) (Nat.le_of_ble_eq_true rfl) (Nat.le_of_ble_eq_true rfl) ?_
                  refine ww_goto (tgt := 272) dX11_readStep_122 (by decide) ?_
                  refine ww_fg (lv2 := [.ref m, UU, UU, UU]) ⟨Or.inr rfl, Or.inl rfl, Or.inl rfl, Or.inl rfl, trivial⟩ ?_
                  exact l_Ma_tail hst hM htf hB hn hnp hn6 (by omega) bk op (r := stS np none T n a W) (by unfold stS; rw [hr5005, bS_r, if_neg (by decide), if_pos rfl, hr5010, bS_r, hr5011, bS_r, hr5012, bS_l]; exact ⟨_, _, _, (by omega), rfl⟩) hbb
                · have hf5012 := figS_r (by omega) hr5012
                  have hg5012 := sk_ge (T := T) (show a5011 ≤ n by omega)
                  refine ww_cVr (M := m_X11_readStep) (pc := 116) (v := .int (nI v5012)) (h1 := mrS (maS h m (4 * W.1) ns) m n a5012 (-1) bk op) (st := [.int (nI v5010), .int (nI v5011), .int (nI 1), .ref m]) (d := d) (bc := 0) (bs := 0) (c_MR_num_r hst (maS_M hM (4 * W.1) ns) (maS_t (c := 4 * W.1) (ns := ns) htf) hB hn a5011 bk op (by omega) 0 1000 (nI 999) (by omega) (by omega) (hi_c 999 (by decide)) hr5012) vv_X11_readNumber dX11_readStep_116 wg_1460 ((maS_M hM (4 * W.1) ns).K0) rfl rfl rfl rfl (by omega) (Nat.le_of_ble_eq_true rfl) (Nat.le_of_ble_eq_true rfl) (Nat.le_of_ble_eq_true rfl) ?_
                  refine ww_cVq0 (M := m_X11_readStep) (pc := 119) (st := []) (d := d) (bc := 0) (bs := 0) (cc_post (fun r h9 hp => (show RQ none (fun h9 => h9 = _) r h9 from hp)) (c_Ma_tell hst hM htf hB hn hnp hn6 (4 * W.1) (by omega) ns a5012 bk op 1 v5011 v5010 v5012)) vv_X11_tellsStep dX11_readStep_119 wg_1528 ((maS_M hM (4 * W.1) ns).K0) rfl rfl rfl rfl (by omega) (Nat.le_of_ble_eq_true rfl) (Nat.le_of_ble_eq_true rfl) (Nat.le_of_ble_eq_true rfl) (fun ho5013 ha5013 => ?_)
                  subst ha5013
                  have hs5013 := (RsR.new (k := 1) (a := v5010) (b := v5011) (c := v5012) (x := nI v5011) (y := nI v5010) (z := nI v5012) hrs (by decide) (fun e => absurd e (by decide)) (fun _ => ⟨rfl, rfl, rfl⟩) (fun e => absurd e (by decide)) (fun e => absurd e (by decide)))
                  have he5013 : (aA 1 v5010 v5011 v5012 W).1 = W.1 + 1 := rfl
                  refine ww_hp (h2 := mrS (maS h m (4 * (W.1 + 1)) (tl4 ns (4 * W.1) (nI 1) (nI v5011) (nI v5010) (nI v5012))) m n a5012 (-1) bk op) (by rw [show 4 * (W.1 + 1) = 4 * W.1 + 4 by omega]) ?_
                  refine ww_goto (tgt := 272) dX11_readStep_122 (by decide) ?_
                  refine ww_fg (lv2 := [.ref m, UU, UU, UU]) ⟨Or.inr rfl, Or.inl rfl, Or.inl rfl, Or.inl rfl, trivial⟩ ?_
                  exact l_Ma_tail hst hM htf hB hn hnp hn6 (by omega) bk op (r := stS np none T n a W) (by unfold stS; rw [hr5005, bS_r, if_neg (by decide), if_pos rfl, hr5010, bS_r, hr5011, bS_r, hr5012, bS_r]; exact ⟨_, hs5013, rfl⟩) hbb
        · exact absurd c36 (by decide)
      · exact absurd c11 (by decide)
    · have hw5005 : wdA T n a = 595412 := by
        obtain ⟨i, hi, hw⟩ := wM_r (by omega) wWork_x (by decide) hr5005
        have e := Option.some.inj (show some 12 = some i from hi)
        rw [← e] at hw
        exact hw.trans (by decide +kernel)
      refine ww_cVr (M := m_X11_readStep) (pc := 1) (v := .int (nI 595412)) (h1 := mrS (maS h m (4 * W.1) ns) m n (sk T n a) (-1) bk op) (st := []) (d := d) (bc := 0) (bs := 0) (c_MR_word_e hst (maS_M hM (4 * W.1) ns) (maS_t (c := 4 * W.1) (ns := ns) htf) hB hn (-1) bk op a (by omega) hw5005) vv_X11_word dX11_readStep_1 wg_1433 ((maS_M hM (4 * W.1) ns).K0) rfl rfl rfl rfl (by omega) (Nat.le_of_ble_eq_true rfl) (Nat.le_of_ble_eq_true rfl) (Nat.le_of_ble_eq_true rfl) ?_
      refine ww_sti_n (lv2 := [.ref m, .int (nI 595412), UU, UU]) dX11_readStep_4 rfl rfl (by decide) rfl ?_
      refine ww_iload_n dX11_readStep_5 rfl rfl ?_
      refine ww_ldcS (i := 17) dX11_readStep_6 rfl ?_
      refine ww_cSr (M := m_X11_readStep) (pc := 8) (v := .int (nI 4153)) (h1 := mrS (maS h m (4 * W.1) ns) m n (sk T n a) (-1) bk op) (st := [.int (nI 595412)]) (d := d) (bc := 0) (bs := 0) (c_of_17 hst (mrS (maS h m (4 * W.1) ns) m n (sk T n a) (-1) bk op)) vv_X11_of dX11_readStep_8 wg_1441 rfl rfl rfl (by omega) (Nat.le_of_ble_eq_true rfl) (Nat.le_of_ble_eq_true rfl) (Nat.le_of_ble_eq_true rfl) ?_
      refine ww_icmp_neN (tgt := 29) dX11_readStep_11 (by decide) (by omega) (by omega) (fun c11 => ?_) (fun c11 => ?_)
      · refine ww_iload_n dX11_readStep_29 rfl rfl ?_
        refine ww_ldcwS (i := 18) dX11_readStep_30 rfl ?_
        refine ww_cSr (M := m_X11_readStep) (pc := 33) (v := .int (nI 22117)) (h1 := mrS (maS h m (4 * W.1) ns) m n (sk T n a) (-1) bk op) (st := [.int (nI 595412)]) (d := d) (bc := 0) (bs := 0) (c_of_18 hst (mrS (maS h m (4 * W.1) ns) m n (sk T n a) (-1) bk op)) vv_X11_of dX11_readStep_33 wg_1441 rfl rfl rfl (by omega) (Nat.le_of_ble_eq_true rfl) (Nat.le_of_ble_eq_true rfl) (Nat.le_of_ble_eq_true rfl) ?_
        refine ww_icmp_neN (tgt := 76) dX11_readStep_36 (by decide) (by omega) (by omega) (fun c36 => ?_) (fun c36 => ?_)
        · refine ww_iload_n dX11_readStep_76 rfl rfl ?_
          refine ww_ldcwS (i := 19) dX11_readStep_77 rfl ?_
          refine ww_cSr (M := m_X11_readStep) (pc := 80) (v := .int (nI 628108)) (h1 := mrS (maS h m (4 * W.1) ns) m n (sk T n a) (-1) bk op) (st := [.int (nI 595412)]) (d := d) (bc := 0) (bs := 0) (c_of_19 hst (mrS (maS h m (4 * W.1) ns) m n (sk T n a) (-1) bk op)) vv_X11_of dX11_readStep_80 wg_1441 rfl rfl rfl (by omega) (Nat.le_of_ble_eq_true rfl) (Nat.le_of_ble_eq_true rfl) (Nat.le_of_ble_eq_true rfl) ?_
          refine ww_icmp_neN (tgt := 125) dX11_readStep_83 (by decide) (by omega) (by omega) (fun c83 => ?_) (fun c83 => ?_)
          · refine ww_iload_n dX11_readStep_125 rfl rfl ?_
            refine ww_ldcS (i := 12) dX11_readStep_126 rfl ?_
            refine ww_cSr (M := m_X11_readStep) (pc := 128) (v := .int (nI 595412)) (h1 := mrS (maS h m (4 * W.1) ns) m n (sk T n a) (-1) bk op) (st := [.int (nI 595412)]) (d := d) (bc := 0) (bs := 0) (c_of_12 hst (mrS (maS h m (4 * W.1) ns) m n (sk T n a) (-1) bk op)) vv_X11_of dX11_readStep_128 wg_1441 rfl rfl rfl (by omega) (Nat.le_of_ble_eq_true rfl) (Nat.le_of_ble_eq_true rfl) (Nat.le_of_ble_eq_true rfl) ?_
            refine ww_icmp_neN (tgt := 160) dX11_readStep_131 (by decide) (by omega) (by omega) (fun c131 => ?_) (fun c131 => ?_)
            · exact absurd c131 (by decide)
            · refine ww_aload_n dX11_readStep_134 rfl rfl ?_
              refine ww_cV0 (M := m_X11_readStep) (pc := 135) (h1 := mrS (maS h m (4 * W.1) ns) m n a5005 (-1) bk op) (st := []) (d := d) (bc := 0) (bs := 0) (c_MR_pass_e hst (maS_M hM (4 * W.1) ns) (maS_t (c := 4 * W.1) (ns := ns) htf) hB hn (-1) bk op (sk T n a) (by omega) (by rw [hz5005])) vv_X11_pass dX11_readStep_135 wg_1452 ((maS_M hM (4 * W.1) ns).K0) rfl rfl rfl rfl (by omega) (Nat.le_of_ble_eq_true rfl) (Nat.le_of_ble_eq_true rfl) (Nat.le_of_ble_eq_true rfl) ?_
              refine ww_aload_n dX11_readStep_138 rfl rfl ?_
              rcases hr5014 : figS T n 0 61 a5005 with ⟨k5014, q5014⟩ | ⟨a5014, v5014⟩
              · have hf5014 := (figS_l hr5014).1
                have hq5014 := figS_lq (by omega) hr5014
                refine ww_cVq (M := m_X11_readStep) (pc := 139) (v := .int (nI 0)) (st := []) (d := d) (bc := 0) (bs := 0) (c_Ma_own_l hst hM htf hB hn hnp hn6 (4 * W.1) ns a5005 bk op (by omega) hr5014) vv_X11_readOwned dX11_readStep_139 wg_1533 ((maS_M hM (4 * W.1) ns).K0) rfl rfl rfl rfl (by omega) (Nat.le_of_ble_eq_true rfl) (Nat.le_of_ble_eq_true rfl) (Nat.le_of_ble_eq_true rfl) (fun hx5014h qx5014 => ?_)
                obtain ⟨x5014, hx5014, rfl⟩ := qx5014
                refine ww_sti_n (lv2 := [.ref m, .int (nI 595412), .int (nI 0), UU]) dX11_readStep_142 rfl rfl (by decide) rfl ?_
                refine ww_aload_n dX11_readStep_143 rfl rfl ?_
                refine ww_iconst (v := nI 2) dX11_readStep_144 (by decide) ?_
                refine ww_iconst (v := nI 0) dX11_readStep_145 (by decide) ?_
                refine ww_iload_n dX11_readStep_146 rfl rfl ?_
                refine ww_aload_n dX11_readStep_147 rfl rfl ?_
                refine ww_iconst (v := nI 0) dX11_readStep_148 (by decide) ?_
                refine ww_bipush (v := nI 40) dX11_readStep_149 (by decide) ?_
                refine ww_cVr (M := m_X11_readStep) (pc := 151) (v := .int (nI 0)) (h1 := mrS (maS h m (4 * W.1) ns) m n x5014 (nI q5014) (nI k5014) op) (st := [.int (nI 0), .int (nI 0), .int (nI 2), .ref m]) (d := d) (bc := 0) (bs := 0) (c_MR_num_f hst (maS_M hM (4 * W.1) ns) (maS_t (c := 4 * W.1) (ns := ns) htf) hB hn x5014 (nI k5014) op q5014 (by omega) 0 (nI 40)) vv_X11_readNumber dX11_readStep_151 wg_1460 ((maS_M hM (4 * W.1) ns).K0) rfl rfl rfl rfl (by omega) (Nat.le_of_ble_eq_true rfl) (Nat.le_of_ble_eq_true rfl) (Nat.le_of_ble_eq_true rfl) ?_
                refine ww_cV0 (M := m_X11_readStep) (pc := 154) (h1 := mrS (maS h m (4 * W.1) ns) m n x5014 (nI q5014) (nI k5014) op) (st := []) (d := d) (bc := 0) (bs := 0) (c_Ma_tell_f hst hM htf hB hn hnp hn6 (4 * W.1) ns x5014 (nI k5014) op q5014 (by omega) (nI 2) (nI 0) (nI 0) (nI 0)) vv_X11_tellsStep dX11_readStep_154 wg_1528 ((maS_M hM (4 * W.1) ns).K0) rfl rfl rfl rfl (by omega) (Nat.le_of_ble_eq_true rfl) (Nat.le_of_ble_eq_true rfl) (Nat.le_of_ble_eq_true rfl) ?_
                refine ww_goto (tgt := 272) dX11_readStep_157 (by decide) ?_
                refine ww_fg (lv2 := [.ref m, UU, UU, UU]) ⟨Or.inr rfl, Or.inl rfl, Or.inl rfl, Or.inl rfl, trivial⟩ ?_
                exact l_Ma_tail hst hM htf hB hn hnp hn6 (by omega) bk op (r := stS np none T n a W) (by unfold stS; rw [hr5005, bS_r, if_neg (by decide), if_neg (by decide), if_pos rfl, hr5014, bS_l]; exact ⟨_, _, _, (by omega), rfl⟩) hbb
              · have hf5014 := figS_r (by omega) hr5014
                have hg5014 := sk_ge (T := T) (show a5005 ≤ n by omega)
                refine ww_cVr (M := m_X11_readStep) (pc := 139) (v := .int (nI v5014)) (h1 := mrS (maS h m (4 * W.1) ns) m n a5014 (-1) bk op) (st := []) (d := d) (bc := 0) (bs := 0) (c_Ma_own_r hst hM htf hB hn hnp hn6 (4 * W.1) ns a5005 bk op (by omega) hr5014) vv_X11_readOwned dX11_readStep_139 wg_1533 ((maS_M hM (4 * W.1) ns).K0) rfl rfl rfl rfl (by omega) (Nat.le_of_ble_eq_true rfl) (Nat.le_of_ble_eq_true rfl) (Nat.le_of_ble_eq_true rfl) ?_
                refine ww_sti_n (lv2 := [.ref m, .int (nI 595412), .int (nI v5014), UU]) dX11_readStep_142 rfl rfl (by decide) rfl ?_
                refine ww_aload_n dX11_readStep_143 rfl rfl ?_
                refine ww_iconst (v := nI 2) dX11_readStep_144 (by decide) ?_
                refine ww_iconst (v := nI 0) dX11_readStep_145 (by decide) ?_
                refine ww_iload_n dX11_readStep_146 rfl rfl ?_
                refine ww_aload_n dX11_readStep_147 rfl rfl ?_
                refine ww_iconst (v := nI 0) dX11_readStep_148 (by decide) ?_
                refine ww_bipush (v := nI 40) dX11_readStep_149 (by decide) ?_
                rcases hr5015 : figS T n 0 41 a5014 with ⟨k5015, q5015⟩ | ⟨a5015, v5015⟩
                · have hf5015 := (figS_l hr5015).1
                  have hq5015 := figS_lq (by omega) hr5015
                  refine ww_cVq (M := m_X11_readStep) (pc := 151) (v := .int (nI 0)) (st := [.int (nI v5014), .int (nI 0), .int (nI 2), .ref m]) (d := d) (bc := 0) (bs := 0) (c_MR_num_l hst (maS_M hM (4 * W.1) ns) (maS_t (c := 4 * W.1) (ns := ns) htf) hB hn a5014 bk op (by omega) 0 41 (nI 40) (by omega) (by omega) (hi_c 40 (by decide)) hr5015) vv_X11_readNumber dX11_readStep_151 wg_1460 ((maS_M hM (4 * W.1) ns).K0) rfl rfl rfl rfl (by omega) (Nat.le_of_ble_eq_true rfl) (Nat.le_of_ble_eq_true rfl) (Nat.le_of_ble_eq_true rfl) (fun hx5015h qx5015 => ?_)
                  obtain ⟨x5015, hx5015, rfl⟩ := qx5015
                  refine ww_cV0 (M := m_X11_readStep) (pc := 154) (h1 := mrS (maS h m (4 * W.1) ns) m n x5015 (nI q5015) (nI k5015) op) (st := []) (d := d) (bc := 0) (bs := 0) (c_Ma_tell_f hst hM htf hB hn hnp hn6 (4 * W.1) ns x5015 (nI k5015) op q5015 (by omega) (nI 2) (nI 0) (nI v5014) (nI 0)) vv_X11_tellsStep dX11_readStep_154 wg_1528 ((maS_M hM (4 * W.1) ns).K0) rfl rfl rfl rfl (by omega) (Nat.le_of_ble_eq_true rfl) (Nat.le_of_ble_eq_true rfl) (Nat.le_of_ble_eq_true rfl) ?_
                  refine ww_goto (tgt := 272) dX11_readStep_157 (by decide) ?_
                  refine ww_fg (lv2 := [.ref m, UU, UU, UU]) ⟨Or.inr rfl, Or.inl rfl, Or.inl rfl, Or.inl rfl, trivial⟩ ?_
                  exact l_Ma_tail hst hM htf hB hn hnp hn6 (by omega) bk op (r := stS np none T n a W) (by unfold stS; rw [hr5005, bS_r, if_neg (by decide), if_neg (by decide), if_pos rfl, hr5014, bS_r, hr5015, bS_l]; exact ⟨_, _, _, (by omega), rfl⟩) hbb
                · have hf5015 := figS_r (by omega) hr5015
                  have hg5015 := sk_ge (T := T) (show a5014 ≤ n by omega)
                  refine ww_cVr (M := m_X11_readStep) (pc := 151) (v := .int (nI v5015)) (h1 := mrS (maS h m (4 * W.1) ns) m n a5015 (-1) bk op) (st := [.int (nI v5014), .int (nI 0), .int (nI 2), .ref m]) (d := d) (bc := 0) (bs := 0) (c_MR_num_r hst (maS_M hM (4 * W.1) ns) (maS_t (c := 4 * W.1) (ns := ns) htf) hB hn a5014 bk op (by omega) 0 41 (nI 40) (by omega) (by omega) (hi_c 40 (by decide)) hr5015) vv_X11_readNumber dX11_readStep_151 wg_1460 ((maS_M hM (4 * W.1) ns).K0) rfl rfl rfl rfl (by omega) (Nat.le_of_ble_eq_true rfl) (Nat.le_of_ble_eq_true rfl) (Nat.le_of_ble_eq_true rfl) ?_
                  refine ww_cVq0 (M := m_X11_readStep) (pc := 154) (st := []) (d := d) (bc := 0) (bs := 0) (cc_post (fun r h9 hp => (show RQ none (fun h9 => h9 = _) r h9 from hp)) (c_Ma_tell hst hM htf hB hn hnp hn6 (4 * W.1) (by omega) ns a5015 bk op 2 0 v5014 v5015)) vv_X11_tellsStep dX11_readStep_154 wg_1528 ((maS_M hM (4 * W.1) ns).K0) rfl rfl rfl rfl (by omega) (Nat.le_of_ble_eq_true rfl) (Nat.le_of_ble_eq_true rfl) (Nat.le_of_ble_eq_true rfl) (fun ho5016 ha5016 => ?_)
                  subst ha5016
                  have hs5016 := (RsR.new (k := 2) (a := v5014) (b := v5015) (c := 0) (x := nI 0) (y := nI v5014) (z := nI v5015) hrs (by decide) (fun e => absurd e (by decide)) (fun e => absurd e (by decide)) (fun _ => ⟨rfl, rfl⟩) (fun e => absurd e (by decide)))
                  have he5016 : (aA 2 v5014 v5015 0 W).1 = W.1 + 1 := rfl
                  refine ww_hp (h2 := mrS (maS h m (4 * (W.1 + 1)) (tl4 ns (4 * W.1) (nI 2) (nI 0) (nI v5014) (nI v5015))) m n a5015 (-1) bk op) (by rw [show 4 * (W.1 + 1) = 4 * W.1 + 4 by omega]) ?_
                  refine ww_goto (tgt := 272) dX11_readStep_157 (by decide) ?_
                  refine ww_fg (lv2 := [.ref m, UU, UU, UU]) ⟨Or.inr rfl, Or.inl rfl, Or.inl rfl, Or.inl rfl, trivial⟩ ?_
                  exact l_Ma_tail hst hM htf hB hn hnp hn6 (by omega) bk op (r := stS np none T n a W) (by unfold stS; rw [hr5005, bS_r, if_neg (by decide), if_neg (by decide), if_pos rfl, hr5014, bS_r, hr5015, bS_r]; exact ⟨_, hs5016, rfl⟩) hbb
          · exact absurd c83 (by decide)
        · exact absurd c36 (by decide)
      · exact absurd c11 (by decide)
    · have hw5005 : wdA T n a = 4153 := by
        obtain ⟨i, hi, hw⟩ := wM_r (by omega) wWork_x (by decide) hr5005
        have e := Option.some.inj (show some 17 = some i from hi)
        rw [← e] at hw
        exact hw.trans (by decide +kernel)
      refine ww_cVr (M := m_X11_readStep) (pc := 1) (v := .int (nI 4153)) (h1 := mrS (maS h m (4 * W.1) ns) m n (sk T n a) (-1) bk op) (st := []) (d := d) (bc := 0) (bs := 0) (c_MR_word_e hst (maS_M hM (4 * W.1) ns) (maS_t (c := 4 * W.1) (ns := ns) htf) hB hn (-1) bk op a (by omega) hw5005) vv_X11_word dX11_readStep_1 wg_1433 ((maS_M hM (4 * W.1) ns).K0) rfl rfl rfl rfl (by omega) (Nat.le_of_ble_eq_true rfl) (Nat.le_of_ble_eq_true rfl) (Nat.le_of_ble_eq_true rfl) ?_
      refine ww_sti_n (lv2 := [.ref m, .int (nI 4153), UU, UU]) dX11_readStep_4 rfl rfl (by decide) rfl ?_
      refine ww_iload_n dX11_readStep_5 rfl rfl ?_
      refine ww_ldcS (i := 17) dX11_readStep_6 rfl ?_
      refine ww_cSr (M := m_X11_readStep) (pc := 8) (v := .int (nI 4153)) (h1 := mrS (maS h m (4 * W.1) ns) m n (sk T n a) (-1) bk op) (st := [.int (nI 4153)]) (d := d) (bc := 0) (bs := 0) (c_of_17 hst (mrS (maS h m (4 * W.1) ns) m n (sk T n a) (-1) bk op)) vv_X11_of dX11_readStep_8 wg_1441 rfl rfl rfl (by omega) (Nat.le_of_ble_eq_true rfl) (Nat.le_of_ble_eq_true rfl) (Nat.le_of_ble_eq_true rfl) ?_
      refine ww_icmp_neN (tgt := 29) dX11_readStep_11 (by decide) (by omega) (by omega) (fun c11 => ?_) (fun c11 => ?_)
      · exact absurd c11 (by decide)
      · refine ww_aload_n dX11_readStep_14 rfl rfl ?_
        refine ww_cV0 (M := m_X11_readStep) (pc := 15) (h1 := mrS (maS h m (4 * W.1) ns) m n a5005 (-1) bk op) (st := []) (d := d) (bc := 0) (bs := 0) (c_MR_pass_e hst (maS_M hM (4 * W.1) ns) (maS_t (c := 4 * W.1) (ns := ns) htf) hB hn (-1) bk op (sk T n a) (by omega) (by rw [hz5005])) vv_X11_pass dX11_readStep_15 wg_1452 ((maS_M hM (4 * W.1) ns).K0) rfl rfl rfl rfl (by omega) (Nat.le_of_ble_eq_true rfl) (Nat.le_of_ble_eq_true rfl) (Nat.le_of_ble_eq_true rfl) ?_
        refine ww_aload_n dX11_readStep_18 rfl rfl ?_
        refine ww_iconst (v := nI 3) dX11_readStep_19 (by decide) ?_
        refine ww_iconst (v := nI 0) dX11_readStep_20 (by decide) ?_
        refine ww_iconst (v := nI 0) dX11_readStep_21 (by decide) ?_
        refine ww_iconst (v := nI 0) dX11_readStep_22 (by decide) ?_
        refine ww_cVq0 (M := m_X11_readStep) (pc := 23) (st := []) (d := d) (bc := 0) (bs := 0) (cc_post (fun r h9 hp => (show RQ none (fun h9 => h9 = _) r h9 from hp)) (c_Ma_tell hst hM htf hB hn hnp hn6 (4 * W.1) (by omega) ns a5005 bk op 3 0 0 0)) vv_X11_tellsStep dX11_readStep_23 wg_1528 ((maS_M hM (4 * W.1) ns).K0) rfl rfl rfl rfl (by omega) (Nat.le_of_ble_eq_true rfl) (Nat.le_of_ble_eq_true rfl) (Nat.le_of_ble_eq_true rfl) (fun ho5017 ha5017 => ?_)
        subst ha5017
        have hs5017 := (RsR.new (k := 3) (a := 0) (b := 0) (c := 0) (x := nI 0) (y := nI 0) (z := nI 0) hrs (by decide) (fun e => absurd e (by decide)) (fun e => absurd e (by decide)) (fun e => absurd e (by decide)) (fun e => absurd e (by decide)))
        have he5017 : (aA 3 0 0 0 W).1 = W.1 + 1 := rfl
        refine ww_hp (h2 := mrS (maS h m (4 * (W.1 + 1)) (tl4 ns (4 * W.1) (nI 3) (nI 0) (nI 0) (nI 0))) m n a5005 (-1) bk op) (by rw [show 4 * (W.1 + 1) = 4 * W.1 + 4 by omega]) ?_
        refine ww_goto (tgt := 272) dX11_readStep_26 (by decide) ?_
        refine ww_fg (lv2 := [.ref m, UU, UU, UU]) ⟨Or.inr rfl, Or.inl rfl, Or.inl rfl, Or.inl rfl, trivial⟩ ?_
        exact l_Ma_tail hst hM htf hB hn hnp hn6 (by omega) bk op (r := stS np none T n a W) (by unfold stS; rw [hr5005, bS_r, if_neg (by decide), if_neg (by decide), if_neg (by decide), if_pos rfl]; exact ⟨_, hs5017, rfl⟩) hbb
    · have hw5005 : wdA T n a = 1279278 := by
        obtain ⟨i, hi, hw⟩ := wM_r (by omega) wWork_x (by decide) hr5005
        have e := Option.some.inj (show some 20 = some i from hi)
        rw [← e] at hw
        exact hw.trans (by decide +kernel)
      refine ww_cVr (M := m_X11_readStep) (pc := 1) (v := .int (nI 1279278)) (h1 := mrS (maS h m (4 * W.1) ns) m n (sk T n a) (-1) bk op) (st := []) (d := d) (bc := 0) (bs := 0) (c_MR_word_e hst (maS_M hM (4 * W.1) ns) (maS_t (c := 4 * W.1) (ns := ns) htf) hB hn (-1) bk op a (by omega) hw5005) vv_X11_word dX11_readStep_1 wg_1433 ((maS_M hM (4 * W.1) ns).K0) rfl rfl rfl rfl (by omega) (Nat.le_of_ble_eq_true rfl) (Nat.le_of_ble_eq_true rfl) (Nat.le_of_ble_eq_true rfl) ?_
      refine ww_sti_n (lv2 := [.ref m, .int (nI 1279278), UU, UU]) dX11_readStep_4 rfl rfl (by decide) rfl ?_
      refine ww_iload_n dX11_readStep_5 rfl rfl ?_
      refine ww_ldcS (i := 17) dX11_readStep_6 rfl ?_
      refine ww_cSr (M := m_X11_readStep) (pc := 8) (v := .int (nI 4153)) (h1 := mrS (maS h m (4 * W.1) ns) m n (sk T n a) (-1) bk op) (st := [.int (nI 1279278)]) (d := d) (bc := 0) (bs := 0) (c_of_17 hst (mrS (maS h m (4 * W.1) ns) m n (sk T n a) (-1) bk op)) vv_X11_of dX11_readStep_8 wg_1441 rfl rfl rfl (by omega) (Nat.le_of_ble_eq_true rfl) (Nat.le_of_ble_eq_true rfl) (Nat.le_of_ble_eq_true rfl) ?_
      refine ww_icmp_neN (tgt := 29) dX11_readStep_11 (by decide) (by omega) (by omega) (fun c11 => ?_) (fun c11 => ?_)
      · refine ww_iload_n dX11_readStep_29 rfl rfl ?_
        refine ww_ldcwS (i := 18) dX11_readStep_30 rfl ?_
        refine ww_cSr (M := m_X11_readStep) (pc := 33) (v := .int (nI 22117)) (h1 := mrS (maS h m (4 * W.1) ns) m n (sk T n a) (-1) bk op) (st := [.int (nI 1279278)]) (d := d) (bc := 0) (bs := 0) (c_of_18 hst (mrS (maS h m (4 * W.1) ns) m n (sk T n a) (-1) bk op)) vv_X11_of dX11_readStep_33 wg_1441 rfl rfl rfl (by omega) (Nat.le_of_ble_eq_true rfl) (Nat.le_of_ble_eq_true rfl) (Nat.le_of_ble_eq_true rfl) ?_
        refine ww_icmp_neN (tgt := 76) dX11_readStep_36 (by decide) (by omega) (by omega) (fun c36 => ?_) (fun c36 => ?_)
        · refine ww_iload_n dX11_readStep_76 rfl rfl ?_
          refine ww_ldcwS (i := 19) dX11_readStep_77 rfl ?_
          refine ww_cSr (M := m_X11_readStep) (pc := 80) (v := .int (nI 628108)) (h1 := mrS (maS h m (4 * W.1) ns) m n (sk T n a) (-1) bk op) (st := [.int (nI 1279278)]) (d := d) (bc := 0) (bs := 0) (c_of_19 hst (mrS (maS h m (4 * W.1) ns) m n (sk T n a) (-1) bk op)) vv_X11_of dX11_readStep_80 wg_1441 rfl rfl rfl (by omega) (Nat.le_of_ble_eq_true rfl) (Nat.le_of_ble_eq_true rfl) (Nat.le_of_ble_eq_true rfl) ?_
          refine ww_icmp_neN (tgt := 125) dX11_readStep_83 (by decide) (by omega) (by omega) (fun c83 => ?_) (fun c83 => ?_)
          · refine ww_iload_n dX11_readStep_125 rfl rfl ?_
            refine ww_ldcS (i := 12) dX11_readStep_126 rfl ?_
            refine ww_cSr (M := m_X11_readStep) (pc := 128) (v := .int (nI 595412)) (h1 := mrS (maS h m (4 * W.1) ns) m n (sk T n a) (-1) bk op) (st := [.int (nI 1279278)]) (d := d) (bc := 0) (bs := 0) (c_of_12 hst (mrS (maS h m (4 * W.1) ns) m n (sk T n a) (-1) bk op)) vv_X11_of dX11_readStep_128 wg_1441 rfl rfl rfl (by omega) (Nat.le_of_ble_eq_true rfl) (Nat.le_of_ble_eq_true rfl) (Nat.le_of_ble_eq_true rfl) ?_
            refine ww_icmp_neN (tgt := 160) dX11_readStep_131 (by decide) (by omega) (by omega) (fun c131 => ?_) (fun c131 => ?_)
            · refine ww_iload_n dX11_readStep_160 rfl rfl ?_
              refine ww_ldcwS (i := 20) dX11_readStep_161 rfl ?_
              refine ww_cSr (M := m_X11_readStep) (pc := 164) (v := .int (nI 1279278)) (h1 := mrS (maS h m (4 * W.1) ns) m n (sk T n a) (-1) bk op) (st := [.int (nI 1279278)]) (d := d) (bc := 0) (bs := 0) (c_of_20 hst (mrS (maS h m (4 * W.1) ns) m n (sk T n a) (-1) bk op)) vv_X11_of dX11_readStep_164 wg_1441 rfl rfl rfl (by omega) (Nat.le_of_ble_eq_true rfl) (Nat.le_of_ble_eq_true rfl) (Nat.le_of_ble_eq_true rfl) ?_
              refine ww_icmp_neN (tgt := 263) dX11_readStep_167 (by decide) (by omega) (by omega) (fun c167 => ?_) (fun c167 => ?_)
              · exact absurd c167 (by decide)
              · refine ww_aload_n dX11_readStep_170 rfl rfl ?_
                refine ww_iconst (v := nI 5) dX11_readStep_171 (by decide) ?_
                refine ww_cV0 (M := m_X11_readStep) (pc := 172) (h1 := mrS (maS h m (4 * W.1) ns) m n (sk T n a) (nI (sk T n a)) (nI 3) (op + 1)) (st := []) (d := d) (bc := 0) (bs := 0) (c_MR_opens_x hst (maS_M hM (4 * W.1) ns) (maS_t (c := 4 * W.1) (ns := ns) htf) hB hn (sk T n a) bk op (by omega) (by omega) 5) vv_X11_opensOne dX11_readStep_172 wg_1491 ((maS_M hM (4 * W.1) ns).K0) rfl rfl rfl rfl (by omega) (Nat.le_of_ble_eq_true rfl) (Nat.le_of_ble_eq_true rfl) (Nat.le_of_ble_eq_true rfl) ?_
                refine ww_aload_n dX11_readStep_175 rfl rfl ?_
                refine ww_iconst (v := nI 0) dX11_readStep_176 (by decide) ?_
                refine ww_bipush (v := nI 60) dX11_readStep_177 (by decide) ?_
                refine ww_cVr (M := m_X11_readStep) (pc := 179) (v := .int (nI 0)) (h1 := mrS (maS h m (4 * W.1) ns) m n (sk T n a) (nI (sk T n a)) (nI 3) (op + 1)) (st := []) (d := d) (bc := 0) (bs := 0) (c_MR_num_f hst (maS_M hM (4 * W.1) ns) (maS_t (c := 4 * W.1) (ns := ns) htf) hB hn (sk T n a) (nI 3) (op + 1) (sk T n a) (by omega) 0 (nI 60)) vv_X11_readNumber dX11_readStep_179 wg_1460 ((maS_M hM (4 * W.1) ns).K0) rfl rfl rfl rfl (by omega) (Nat.le_of_ble_eq_true rfl) (Nat.le_of_ble_eq_true rfl) (Nat.le_of_ble_eq_true rfl) ?_
                refine ww_sti_n (lv2 := [.ref m, .int (nI 1279278), .int (nI 0), UU]) dX11_readStep_182 rfl rfl (by decide) rfl ?_
                refine ww_aload_n dX11_readStep_183 rfl rfl ?_
                refine ww_bipush (v := nI 91) dX11_readStep_184 (by decide) ?_
                refine ww_cV0 (M := m_X11_readStep) (pc := 186) (h1 := mrS (maS h m (4 * W.1) ns) m n (sk T n a) (nI (sk T n a)) (nI 3) (op + 1)) (st := []) (d := d) (bc := 0) (bs := 0) (c_MR_sign_f hst (maS_M hM (4 * W.1) ns) (maS_t (c := 4 * W.1) (ns := ns) htf) hB hn (sk T n a) (nI 3) (op + 1) (sk T n a) (by omega) 91) vv_X11_sign dX11_readStep_186 wg_1467 ((maS_M hM (4 * W.1) ns).K0) rfl rfl rfl rfl (by omega) (Nat.le_of_ble_eq_true rfl) (Nat.le_of_ble_eq_true rfl) (Nat.le_of_ble_eq_true rfl) ?_
                refine ww_aload_n dX11_readStep_189 rfl rfl ?_
                refine ww_get 27 dX11_readStep_190 ((maS_M hM (4 * W.1) ns).K0) rfl (by decide) inX11 wg_1267 (mrS_j _ _ _ _ _ (by decide) (maS_27 h m (4 * W.1) ns)) ?_
                refine ww_sti_n (lv2 := [.ref m, .int (nI 1279278), .int (nI 0), .int (nI (4 * W.1))]) dX11_readStep_193 rfl rfl (by decide) rfl ?_
                refine ww_aload_n dX11_readStep_194 rfl rfl ?_
                refine ww_iconst (v := nI 4) dX11_readStep_195 (by decide) ?_
                refine ww_iload_n dX11_readStep_196 rfl rfl ?_
                refine ww_iconst (v := nI 0) dX11_readStep_197 (by decide) ?_
                refine ww_iconst (v := nI 0) dX11_readStep_198 (by decide) ?_
                refine ww_cV0 (M := m_X11_readStep) (pc := 199) (h1 := mrS (maS h m (4 * W.1) ns) m n (sk T n a) (nI (sk T n a)) (nI 3) (op + 1)) (st := []) (d := d) (bc := 0) (bs := 0) (c_Ma_tell_f hst hM htf hB hn hnp hn6 (4 * W.1) ns (sk T n a) (nI 3) (op + 1) (sk T n a) (by omega) (nI 4) (nI 0) (nI 0) (nI 0)) vv_X11_tellsStep dX11_readStep_199 wg_1528 ((maS_M hM (4 * W.1) ns).K0) rfl rfl rfl rfl (by omega) (Nat.le_of_ble_eq_true rfl) (Nat.le_of_ble_eq_true rfl) (Nat.le_of_ble_eq_true rfl) ?_
                refine ww_aload_n dX11_readStep_202 rfl rfl ?_
                refine ww_cVr (M := m_X11_readStep) (pc := 203) (v := .int (nI 0)) (h1 := mrS (maS h m (4 * W.1) ns) m n (sk T n a) (nI (sk T n a)) (nI 3) (op + 1)) (st := []) (d := d) (bc := 0) (bs := 0) (c_MR_fine_f hst (maS_M hM (4 * W.1) ns) (maS_t (c := 4 * W.1) (ns := ns) htf) hB hn (sk T n a) (nI 3) (op + 1) (sk T n a) (by omega)) vv_X11_fine dX11_readStep_203 wg_1421 ((maS_M hM (4 * W.1) ns).K0) rfl rfl rfl rfl (by omega) (Nat.le_of_ble_eq_true rfl) (Nat.le_of_ble_eq_true rfl) (Nat.le_of_ble_eq_true rfl) ?_
                refine ww_if_eqN (tgt := 225) dX11_readStep_206 (by decide) (by omega) (fun c206 => ?_) (fun c206 => ?_)
                · refine ww_aload_n dX11_readStep_225 rfl rfl ?_
                  refine ww_bipush (v := nI 93) dX11_readStep_226 (by decide) ?_
                  refine ww_cV0 (M := m_X11_readStep) (pc := 228) (h1 := mrS (maS h m (4 * W.1) ns) m n (sk T n a) (nI (sk T n a)) (nI 3) (op + 1)) (st := []) (d := d) (bc := 0) (bs := 0) (c_MR_sign_f hst (maS_M hM (4 * W.1) ns) (maS_t (c := 4 * W.1) (ns := ns) htf) hB hn (sk T n a) (nI 3) (op + 1) (sk T n a) (by omega) 93) vv_X11_sign dX11_readStep_228 wg_1467 ((maS_M hM (4 * W.1) ns).K0) rfl rfl rfl rfl (by omega) (Nat.le_of_ble_eq_true rfl) (Nat.le_of_ble_eq_true rfl) (Nat.le_of_ble_eq_true rfl) ?_
                  refine ww_aload_n dX11_readStep_231 rfl rfl ?_
                  refine ww_dup dX11_readStep_232 rfl ?_
                  refine ww_get 7 dX11_readStep_233 ((maS_M hM (4 * W.1) ns).K0) rfl (by decide) inX11 wg_1247 (mrS_7 _ _ _ _ _ _ _) ?_
                  refine ww_iconst (v := nI 1) dX11_readStep_236 (by decide) ?_
                  refine ww_isubN dX11_readStep_237 (by omega) ?_
                  refine ww_pfI tyX11 7 dX11_readStep_238 ((maS_M hM (4 * W.1) ns).K0) rfl (by decide) inX11 tyX11_ok nmX11 wg_1247 rfl rfl ?_
                  refine ww_hp (h2 := mrS (maS h m (4 * W.1) ns) m n (sk T n a) (nI (sk T n a)) (nI 3) op) (mrS_s7 _ _ _ _ _ _ _ _) ?_
                  refine ww_aload_n dX11_readStep_241 rfl rfl ?_
                  refine ww_cVr (M := m_X11_readStep) (pc := 242) (v := .int (nI 0)) (h1 := mrS (maS h m (4 * W.1) ns) m n (sk T n a) (nI (sk T n a)) (nI 3) op) (st := []) (d := d) (bc := 0) (bs := 0) (c_MR_fine_f hst (maS_M hM (4 * W.1) ns) (maS_t (c := 4 * W.1) (ns := ns) htf) hB hn (sk T n a) (nI 3) op (sk T n a) (by omega)) vv_X11_fine dX11_readStep_242 wg_1421 ((maS_M hM (4 * W.1) ns).K0) rfl rfl rfl rfl (by omega) (Nat.le_of_ble_eq_true rfl) (Nat.le_of_ble_eq_true rfl) (Nat.le_of_ble_eq_true rfl) ?_
                  refine ww_if_eqN (tgt := 260) dX11_readStep_245 (by decide) (by omega) (fun c245 => ?_) (fun c245 => ?_)
                  · refine ww_goto (tgt := 272) dX11_readStep_260 (by decide) ?_
                    refine ww_fg (lv2 := [.ref m, UU, UU, UU]) ⟨Or.inr rfl, Or.inl rfl, Or.inl rfl, Or.inl rfl, trivial⟩ ?_
                    exact l_Ma_tail hst hM htf hB hn hnp hn6 (by omega) bk op (r := stS np none T n a W) (by unfold stS; rw [hr5005, bS_r, if_neg (by decide), if_neg (by decide), if_neg (by decide), if_neg (by decide), show agS none T n _ (sk T n a) W = .inl (3, sk T n a) from rfl]; exact ⟨_, _, _, (by omega), rfl⟩) hbb
                  · exact absurd c245 (by decide)
                · exact absurd c206 (by decide)
            · exact absurd c131 (by decide)
          · exact absurd c83 (by decide)
        · exact absurd c36 (by decide)
      · exact absurd c11 (by decide)
set_option maxHeartbeats 4000000 in
set_option maxRecDepth 100000 in
theorem c_Ma_step1 {l : Launch} {Z : EE} (hst : l.stackTraces = false) {h : PH} {m : Nat} (hM : ModS h m) {tf : Nat → Int32} (htf : hp_I h (m + 2) = tf) {T : Nat → Nat} (hB : BT tf T) {n : Nat} (hn : n ≤ 600) {np : Nat} (hnp : hp_F h m 15 = .int (nI np)) (hn6 : np ≤ 6) (hn5 : n ≤ 150) {d : Nat} (hd : 5 ≤ d) (bk : Int32) (op : Nat) (ho : op < 6) {k : Nat} {inner : Option (Nat → AF → PR AF)} (hI : ∀ S, inner = some S → ∃ k', k = k' + 1 ∧ GoodS np k' n S) (hU : ∀ (a : Nat) (W : AF) (ns : Nat → Int32), a ≤ n → sk T n a = a → 4 * W.1 ≤ a → RsR W ns → CC l Z m_X11_readStep d 0 0 [.ref m] (mrS (maS h m (4 * W.1) ns) m n a (-1) bk (op + 1)) (RQ none (MaO h m n bk (op + 1) (spS np inner T n a W)))) (a : Nat) (W : AF) (ns : Nat → Int32) (ha : a ≤ n) (hka : sk T n a = a) (hW : 4 * W.1 ≤ a) (hrs : RsR W ns) : CC l Z m_X11_readStep (d + 1) 0 0 [.ref m] (mrS (maS h m (4 * W.1) ns) m n a (-1) bk op) (RQ none (MaO h m n bk op (spS np (some (slS (spS np inner T n) T n 38)) T n a W))) := by
  refine ee_entry hst (by decide +kernel) rfl rfl (by simp [Value.category]) (Nat.le_of_ble_eq_true rfl) ?_
  refine ww_lv (lv2 := [.ref m, UU, UU, UU]) rfl ?_
  have hbb : (∀ k q, stS np (some (slS (spS np inner T n) T n 38)) T n a W = .inl (k, q) → q ≤ n) ∧ ∀ a9 V, stS np (some (slS (spS np inner T n) T n 38)) T n a W = .inr (a9, V) → a9 ≤ n := by
    have h9 := stS_O (np := np) (T := T) (k := k + 1) (inner := (some (slS (spS np inner T n) T n 38))) (fun S e => by cases e; exact ⟨k, rfl, fun a W ha => slS_O hI 38 a W ha⟩) (W := W) ha
    exact ⟨fun k q e => (h9.l e).2, fun a9 V e => (h9.r e).2.1⟩
  show WW l Z m_X11_readStep _ 0 0 0 _ [] _ (RQ none (MaO h m n bk op (bS (stS np (some (slS (spS np inner T n) T n 38)) T n a W) _)))
  refine ww_aload_n dX11_readStep_0 rfl rfl ?_
  have hsl5018 := sk_le (T := T) (show a ≤ n by omega)
  have hsg5018 := sk_ge (T := T) (show a ≤ n by omega)
  rcases hr5018 : wrdS wWork T n a with ⟨k5018, q5018⟩ | ⟨a5018, v5018⟩
  · have hq5018 := wrdS_lq (by omega) hr5018
    have hk5018 := (wrdS_l hr5018).1
    have hno5018 := wM_l (by omega) wWork_x (by decide) hr5018
    have hn5018_18 : ¬ wdA T n a = 22117 := fun e => hno5018 18 (by decide) (e.trans (by decide +kernel))
    have hn5018_19 : ¬ wdA T n a = 628108 := fun e => hno5018 19 (by decide) (e.trans (by decide +kernel))
    have hn5018_12 : ¬ wdA T n a = 595412 := fun e => hno5018 12 (by decide) (e.trans (by decide +kernel))
    have hn5018_17 : ¬ wdA T n a = 4153 := fun e => hno5018 17 (by decide) (e.trans (by decide +kernel))
    have hn5018_20 : ¬ wdA T n a = 1279278 := fun e => hno5018 20 (by decide) (e.trans (by decide +kernel))
    have hwl5018 := wdA_lt (T := T) (show a ≤ n by omega)
    refine ww_cVr (M := m_X11_readStep) (pc := 1) (v := .int (nI (wdA T n a))) (h1 := mrS (maS h m (4 * W.1) ns) m n (sk T n a) (-1) bk op) (st := []) (d := d + 1) (bc := 0) (bs := 0) (c_MR_word hst (maS_M hM (4 * W.1) ns) (maS_t (c := 4 * W.1) (ns := ns) htf) hB hn (-1) bk op a (by omega)) vv_X11_word dX11_readStep_1 wg_1433 ((maS_M hM (4 * W.1) ns).K0) rfl rfl rfl rfl (by omega) (Nat.le_of_ble_eq_true rfl) (Nat.le_of_ble_eq_true rfl) (Nat.le_of_ble_eq_true rfl) ?_
    refine ww_sti_n (lv2 := [.ref m, .int (nI (wdA T n a)), UU, UU]) dX11_readStep_4 rfl rfl (by decide) rfl ?_
    refine ww_iload_n dX11_readStep_5 rfl rfl ?_
    refine ww_ldcS (i := 17) dX11_readStep_6 rfl ?_
    refine ww_cSr (M := m_X11_readStep) (pc := 8) (v := .int (nI 4153)) (h1 := mrS (maS h m (4 * W.1) ns) m n (sk T n a) (-1) bk op) (st := [.int (nI (wdA T n a))]) (d := d + 1) (bc := 0) (bs := 0) (c_of_17 hst (mrS (maS h m (4 * W.1) ns) m n (sk T n a) (-1) bk op)) vv_X11_of dX11_readStep_8 wg_1441 rfl rfl rfl (by omega) (Nat.le_of_ble_eq_true rfl) (Nat.le_of_ble_eq_true rfl) (Nat.le_of_ble_eq_true rfl) ?_
    refine ww_icmp_neN (tgt := 29) dX11_readStep_11 (by decide) (by omega) (by omega) (fun c11 => ?_) (fun c11 => ?_)
    · refine ww_iload_n dX11_readStep_29 rfl rfl ?_
      refine ww_ldcwS (i := 18) dX11_readStep_30 rfl ?_
      refine ww_cSr (M := m_X11_readStep) (pc := 33) (v := .int (nI 22117)) (h1 := mrS (maS h m (4 * W.1) ns) m n (sk T n a) (-1) bk op) (st := [.int (nI (wdA T n a))]) (d := d + 1) (bc := 0) (bs := 0) (c_of_18 hst (mrS (maS h m (4 * W.1) ns) m n (sk T n a) (-1) bk op)) vv_X11_of dX11_readStep_33 wg_1441 rfl rfl rfl (by omega) (Nat.le_of_ble_eq_true rfl) (Nat.le_of_ble_eq_true rfl) (Nat.le_of_ble_eq_true rfl) ?_
      refine ww_icmp_neN (tgt := 76) dX11_readStep_36 (by decide) (by omega) (by omega) (fun c36 => ?_) (fun c36 => ?_)
      · refine ww_iload_n dX11_readStep_76 rfl rfl ?_
        refine ww_ldcwS (i := 19) dX11_readStep_77 rfl ?_
        refine ww_cSr (M := m_X11_readStep) (pc := 80) (v := .int (nI 628108)) (h1 := mrS (maS h m (4 * W.1) ns) m n (sk T n a) (-1) bk op) (st := [.int (nI (wdA T n a))]) (d := d + 1) (bc := 0) (bs := 0) (c_of_19 hst (mrS (maS h m (4 * W.1) ns) m n (sk T n a) (-1) bk op)) vv_X11_of dX11_readStep_80 wg_1441 rfl rfl rfl (by omega) (Nat.le_of_ble_eq_true rfl) (Nat.le_of_ble_eq_true rfl) (Nat.le_of_ble_eq_true rfl) ?_
        refine ww_icmp_neN (tgt := 125) dX11_readStep_83 (by decide) (by omega) (by omega) (fun c83 => ?_) (fun c83 => ?_)
        · refine ww_iload_n dX11_readStep_125 rfl rfl ?_
          refine ww_ldcS (i := 12) dX11_readStep_126 rfl ?_
          refine ww_cSr (M := m_X11_readStep) (pc := 128) (v := .int (nI 595412)) (h1 := mrS (maS h m (4 * W.1) ns) m n (sk T n a) (-1) bk op) (st := [.int (nI (wdA T n a))]) (d := d + 1) (bc := 0) (bs := 0) (c_of_12 hst (mrS (maS h m (4 * W.1) ns) m n (sk T n a) (-1) bk op)) vv_X11_of dX11_readStep_128 wg_1441 rfl rfl rfl (by omega) (Nat.le_of_ble_eq_true rfl) (Nat.le_of_ble_eq_true rfl) (Nat.le_of_ble_eq_true rfl) ?_
          refine ww_icmp_neN (tgt := 160) dX11_readStep_131 (by decide) (by omega) (by omega) (fun c131 => ?_) (fun c131 => ?_)
          · refine ww_iload_n dX11_readStep_160 rfl rfl ?_
            refine ww_ldcwS (i := 20) dX11_readStep_161 rfl ?_
            refine ww_cSr (M := m_X11_readStep) (pc := 164) (v := .int (nI 1279278)) (h1 := mrS (maS h m (4 * W.1) ns) m n (sk T n a) (-1) bk op) (st := [.int (nI (wdA T n a))]) (d := d + 1) (bc := 0) (bs := 0) (c_of_20 hst (mrS (maS h m (4 * W.1) ns) m n (sk T n a) (-1) bk op)) vv_X11_of dX11_readStep_164 wg_1441 rfl rfl rfl (by omega) (Nat.le_of_ble_eq_true rfl) (Nat.le_of_ble_eq_true rfl) (Nat.le_of_ble_eq_true rfl) ?_
            refine ww_icmp_neN (tgt := 263) dX11_readStep_167 (by decide) (by omega) (by omega) (fun c167 => ?_) (fun c167 => ?_)
            · refine ww_aload_n dX11_readStep_263 rfl rfl ?_
              refine ww_iconst (v := nI 1) dX11_readStep_264 (by decide) ?_
              refine ww_aload_n dX11_readStep_265 rfl rfl ?_
              refine ww_get 4 dX11_readStep_266 ((maS_M hM (4 * W.1) ns).K0) rfl (by decide) inX11 wg_1244 (mrS_4 _ _ _ _ _ _ _) ?_
              refine ww_cV0 (M := m_X11_readStep) (pc := 269) (h1 := mrS (maS h m (4 * W.1) ns) m n (sk T n a) (nI (sk T n a)) (nI 1) op) (st := []) (d := d + 1) (bc := 0) (bs := 0) (c_MR_wrong_t hst (maS_M hM (4 * W.1) ns) (maS_t (c := 4 * W.1) (ns := ns) htf) hB hn (sk T n a) bk op (nI 1) (nI (sk T n a))) vv_X11_wrong dX11_readStep_269 wg_1448 ((maS_M hM (4 * W.1) ns).K0) rfl rfl rfl rfl (by omega) (Nat.le_of_ble_eq_true rfl) (Nat.le_of_ble_eq_true rfl) (Nat.le_of_ble_eq_true rfl) ?_
              refine ww_fg (lv2 := [.ref m, UU, UU, UU]) ⟨Or.inr rfl, Or.inl rfl, Or.inl rfl, Or.inl rfl, trivial⟩ ?_
              exact l_Ma_tail hst hM htf hB hn hnp hn6 (by omega) bk op (r := stS np (some (slS (spS np inner T n) T n 38)) T n a W) (by unfold stS; rw [show wrdS wWork T n a = .inl (1, sk T n a) from (by rw [hr5018, (wrdS_l hr5018).1, (wrdS_l hr5018).2.1]), bS_l]; exact ⟨_, _, _, (by omega), rfl⟩) hbb
            · exact absurd c167 (by assumption)
          · exact absurd c131 (by assumption)
        · exact absurd c83 (by assumption)
      · exact absurd c36 (by assumption)
    · exact absurd c11 (by assumption)
  · have hf5018 := wrdS_lt wWork_ne (by omega) hr5018
    have hz5018 := (wrdS_r hr5018).1
    rcases (show v5018 = 0 ∨ v5018 = 1 ∨ v5018 = 2 ∨ v5018 = 3 ∨ v5018 = 4 by have h9 := hf5018.2.2; simp only [wWork, List.length_cons, List.length_nil] at h9; omega) with rfl | rfl | rfl | rfl | rfl
    · have hw5018 : wdA T n a = 22117 := by
        obtain ⟨i, hi, hw⟩ := wM_r (by omega) wWork_x (by decide) hr5018
        have e := Option.some.inj (show some 18 = some i from hi)
        rw [← e] at hw
        exact hw.trans (by decide +kernel)
      refine ww_cVr (M := m_X11_readStep) (pc := 1) (v := .int (nI 22117)) (h1 := mrS (maS h m (4 * W.1) ns) m n (sk T n a) (-1) bk op) (st := []) (d := d + 1) (bc := 0) (bs := 0) (c_MR_word_e hst (maS_M hM (4 * W.1) ns) (maS_t (c := 4 * W.1) (ns := ns) htf) hB hn (-1) bk op a (by omega) hw5018) vv_X11_word dX11_readStep_1 wg_1433 ((maS_M hM (4 * W.1) ns).K0) rfl rfl rfl rfl (by omega) (Nat.le_of_ble_eq_true rfl) (Nat.le_of_ble_eq_true rfl) (Nat.le_of_ble_eq_true rfl) ?_
      refine ww_sti_n (lv2 := [.ref m, .int (nI 22117), UU, UU]) dX11_readStep_4 rfl rfl (by decide) rfl ?_
      refine ww_iload_n dX11_readStep_5 rfl rfl ?_
      refine ww_ldcS (i := 17) dX11_readStep_6 rfl ?_
      refine ww_cSr (M := m_X11_readStep) (pc := 8) (v := .int (nI 4153)) (h1 := mrS (maS h m (4 * W.1) ns) m n (sk T n a) (-1) bk op) (st := [.int (nI 22117)]) (d := d + 1) (bc := 0) (bs := 0) (c_of_17 hst (mrS (maS h m (4 * W.1) ns) m n (sk T n a) (-1) bk op)) vv_X11_of dX11_readStep_8 wg_1441 rfl rfl rfl (by omega) (Nat.le_of_ble_eq_true rfl) (Nat.le_of_ble_eq_true rfl) (Nat.le_of_ble_eq_true rfl) ?_
      refine ww_icmp_neN (tgt := 29) dX11_readStep_11 (by decide) (by omega) (by omega) (fun c11 => ?_) (fun c11 => ?_)
      · refine ww_iload_n dX11_readStep_29 rfl rfl ?_
        refine ww_ldcwS (i := 18) dX11_readStep_30 rfl ?_
        refine ww_cSr (M := m_X11_readStep) (pc := 33) (v := .int (nI 22117)) (h1 := mrS (maS h m (4 * W.1) ns) m n (sk T n a) (-1) bk op) (st := [.int (nI 22117)]) (d := d + 1) (bc := 0) (bs := 0) (c_of_18 hst (mrS (maS h m (4 * W.1) ns) m n (sk T n a) (-1) bk op)) vv_X11_of dX11_readStep_33 wg_1441 rfl rfl rfl (by omega) (Nat.le_of_ble_eq_true rfl) (Nat.le_of_ble_eq_true rfl) (Nat.le_of_ble_eq_true rfl) ?_
        refine ww_icmp_neN (tgt := 76) dX11_readStep_36 (by decide) (by omega) (by omega) (fun c36 => ?_) (fun c36 => ?_)
        · exact absurd c36 (by decide)
        · refine ww_aload_n dX11_readStep_39 rfl rfl ?_
          refine ww_cV0 (M := m_X11_readStep) (pc := 40) (h1 := mrS (maS h m (4 * W.1) ns) m n a5018 (-1) bk op) (st := []) (d := d + 1) (bc := 0) (bs := 0) (c_MR_pass_e hst (maS_M hM (4 * W.1) ns) (maS_t (c := 4 * W.1) (ns := ns) htf) hB hn (-1) bk op (sk T n a) (by omega) (by rw [hz5018])) vv_X11_pass dX11_readStep_40 wg_1452 ((maS_M hM (4 * W.1) ns).K0) rfl rfl rfl rfl (by omega) (Nat.le_of_ble_eq_true rfl) (Nat.le_of_ble_eq_true rfl) (Nat.le_of_ble_eq_true rfl) ?_
          refine ww_aload_n dX11_readStep_43 rfl rfl ?_
          refine ww_iconst (v := nI 0) dX11_readStep_44 (by decide) ?_
          refine ww_aload_n dX11_readStep_45 rfl rfl ?_
          refine ww_get 15 dX11_readStep_46 ((maS_M hM (4 * W.1) ns).K0) rfl (by decide) inX11 wg_1255 (mrS_j _ _ _ _ _ (by decide) (maS_j (by decide) hnp)) ?_
          refine ww_iconst (v := nI 1) dX11_readStep_49 (by decide) ?_
          refine ww_isub dX11_readStep_50 ?_
          rcases hr5019 : figS T n 0 np a5018 with ⟨k5019, q5019⟩ | ⟨a5019, v5019⟩
          · have hf5019 := (figS_l hr5019).1
            have hq5019 := figS_lq (by omega) hr5019
            refine ww_cVq (M := m_X11_readStep) (pc := 51) (v := .int (nI 0)) (st := []) (d := d + 1) (bc := 0) (bs := 0) (c_MR_num_l hst (maS_M hM (4 * W.1) ns) (maS_t (c := 4 * W.1) (ns := ns) htf) hB hn a5018 bk op (by omega) 0 np ((nI np) - (nI 1)) (by omega) (by omega) (hi_np (by omega)) hr5019) vv_X11_readNumber dX11_readStep_51 wg_1460 ((maS_M hM (4 * W.1) ns).K0) rfl rfl rfl rfl (by omega) (Nat.le_of_ble_eq_true rfl) (Nat.le_of_ble_eq_true rfl) (Nat.le_of_ble_eq_true rfl) (fun hx5019h qx5019 => ?_)
            obtain ⟨x5019, hx5019, rfl⟩ := qx5019
            refine ww_sti_n (lv2 := [.ref m, .int (nI 22117), .int (nI 0), UU]) dX11_readStep_54 rfl rfl (by decide) rfl ?_
            refine ww_aload_n dX11_readStep_55 rfl rfl ?_
            refine ww_cVr (M := m_X11_readStep) (pc := 56) (v := .int (nI 0)) (h1 := mrS (maS h m (4 * W.1) ns) m n x5019 (nI q5019) (nI k5019) op) (st := []) (d := d + 1) (bc := 0) (bs := 0) (c_Ma_own_f hst hM htf hB hn hnp hn6 (4 * W.1) ns x5019 (nI k5019) op q5019 (by omega)) vv_X11_readOwned dX11_readStep_56 wg_1533 ((maS_M hM (4 * W.1) ns).K0) rfl rfl rfl rfl (by omega) (Nat.le_of_ble_eq_true rfl) (Nat.le_of_ble_eq_true rfl) (Nat.le_of_ble_eq_true rfl) ?_
            refine ww_sti_n (lv2 := [.ref m, .int (nI 22117), .int (nI 0), .int (nI 0)]) dX11_readStep_59 rfl rfl (by decide) rfl ?_
            refine ww_aload_n dX11_readStep_60 rfl rfl ?_
            refine ww_iconst (v := nI 0) dX11_readStep_61 (by decide) ?_
            refine ww_iload_n dX11_readStep_62 rfl rfl ?_
            refine ww_iload_n dX11_readStep_63 rfl rfl ?_
            refine ww_aload_n dX11_readStep_64 rfl rfl ?_
            refine ww_iconst (v := nI 0) dX11_readStep_65 (by decide) ?_
            refine ww_iconst (v := nI 2) dX11_readStep_66 (by decide) ?_
            refine ww_cVr (M := m_X11_readStep) (pc := 67) (v := .int (nI 0)) (h1 := mrS (maS h m (4 * W.1) ns) m n x5019 (nI q5019) (nI k5019) op) (st := [.int (nI 0), .int (nI 0), .int (nI 0), .ref m]) (d := d + 1) (bc := 0) (bs := 0) (c_MR_num_f hst (maS_M hM (4 * W.1) ns) (maS_t (c := 4 * W.1) (ns := ns) htf) hB hn x5019 (nI k5019) op q5019 (by omega) 0 (nI 2)) vv_X11_readNumber dX11_readStep_67 wg_1460 ((maS_M hM (4 * W.1) ns).K0) rfl rfl rfl rfl (by omega) (Nat.le_of_ble_eq_true rfl) (Nat.le_of_ble_eq_true rfl) (Nat.le_of_ble_eq_true rfl) ?_
            refine ww_cV0 (M := m_X11_readStep) (pc := 70) (h1 := mrS (maS h m (4 * W.1) ns) m n x5019 (nI q5019) (nI k5019) op) (st := []) (d := d + 1) (bc := 0) (bs := 0) (c_Ma_tell_f hst hM htf hB hn hnp hn6 (4 * W.1) ns x5019 (nI k5019) op q5019 (by omega) (nI 0) (nI 0) (nI 0) (nI 0)) vv_X11_tellsStep dX11_readStep_70 wg_1528 ((maS_M hM (4 * W.1) ns).K0) rfl rfl rfl rfl (by omega) (Nat.le_of_ble_eq_true rfl) (Nat.le_of_ble_eq_true rfl) (Nat.le_of_ble_eq_true rfl) ?_
            refine ww_goto (tgt := 272) dX11_readStep_73 (by decide) ?_
            refine ww_fg (lv2 := [.ref m, UU, UU, UU]) ⟨Or.inr rfl, Or.inl rfl, Or.inl rfl, Or.inl rfl, trivial⟩ ?_
            exact l_Ma_tail hst hM htf hB hn hnp hn6 (by omega) bk op (r := stS np (some (slS (spS np inner T n) T n 38)) T n a W) (by unfold stS; rw [hr5018, bS_r, if_pos rfl, hr5019, bS_l]; exact ⟨_, _, _, (by omega), rfl⟩) hbb
          · have hf5019 := figS_r (by omega) hr5019
            have hg5019 := sk_ge (T := T) (show a5018 ≤ n by omega)
            refine ww_cVr (M := m_X11_readStep) (pc := 51) (v := .int (nI v5019)) (h1 := mrS (maS h m (4 * W.1) ns) m n a5019 (-1) bk op) (st := []) (d := d + 1) (bc := 0) (bs := 0) (c_MR_num_r hst (maS_M hM (4 * W.1) ns) (maS_t (c := 4 * W.1) (ns := ns) htf) hB hn a5018 bk op (by omega) 0 np ((nI np) - (nI 1)) (by omega) (by omega) (hi_np (by omega)) hr5019) vv_X11_readNumber dX11_readStep_51 wg_1460 ((maS_M hM (4 * W.1) ns).K0) rfl rfl rfl rfl (by omega) (Nat.le_of_ble_eq_true rfl) (Nat.le_of_ble_eq_true rfl) (Nat.le_of_ble_eq_true rfl) ?_
            refine ww_sti_n (lv2 := [.ref m, .int (nI 22117), .int (nI v5019), UU]) dX11_readStep_54 rfl rfl (by decide) rfl ?_
            refine ww_aload_n dX11_readStep_55 rfl rfl ?_
            rcases hr5020 : figS T n 0 61 a5019 with ⟨k5020, q5020⟩ | ⟨a5020, v5020⟩
            · have hf5020 := (figS_l hr5020).1
              have hq5020 := figS_lq (by omega) hr5020
              refine ww_cVq (M := m_X11_readStep) (pc := 56) (v := .int (nI 0)) (st := []) (d := d + 1) (bc := 0) (bs := 0) (c_Ma_own_l hst hM htf hB hn hnp hn6 (4 * W.1) ns a5019 bk op (by omega) hr5020) vv_X11_readOwned dX11_readStep_56 wg_1533 ((maS_M hM (4 * W.1) ns).K0) rfl rfl rfl rfl (by omega) (Nat.le_of_ble_eq_true rfl) (Nat.le_of_ble_eq_true rfl) (Nat.le_of_ble_eq_true rfl) (fun hx5020h qx5020 => ?_)
              obtain ⟨x5020, hx5020, rfl⟩ := qx5020
              refine ww_sti_n (lv2 := [.ref m, .int (nI 22117), .int (nI v5019), .int (nI 0)]) dX11_readStep_59 rfl rfl (by decide) rfl ?_
              refine ww_aload_n dX11_readStep_60 rfl rfl ?_
              refine ww_iconst (v := nI 0) dX11_readStep_61 (by decide) ?_
              refine ww_iload_n dX11_readStep_62 rfl rfl ?_
              refine ww_iload_n dX11_readStep_63 rfl rfl ?_
              refine ww_aload_n dX11_readStep_64 rfl rfl ?_
              refine ww_iconst (v := nI 0) dX11_readStep_65 (by decide) ?_
              refine ww_iconst (v := nI 2) dX11_readStep_66 (by decide) ?_
              refine ww_cVr (M := m_X11_readStep) (pc := 67) (v := .int (nI 0)) (h1 := mrS (maS h m (4 * W.1) ns) m n x5020 (nI q5020) (nI k5020) op) (st := [.int (nI 0), .int (nI v5019), .int (nI 0), .ref m]) (d := d + 1) (bc := 0) (bs := 0) (c_MR_num_f hst (maS_M hM (4 * W.1) ns) (maS_t (c := 4 * W.1) (ns := ns) htf) hB hn x5020 (nI k5020) op q5020 (by omega) 0 (nI 2)) vv_X11_readNumber dX11_readStep_67 wg_1460 ((maS_M hM (4 * W.1) ns).K0) rfl rfl rfl rfl (by omega) (Nat.le_of_ble_eq_true rfl) (Nat.le_of_ble_eq_true rfl) (Nat.le_of_ble_eq_true rfl) ?_
              refine ww_cV0 (M := m_X11_readStep) (pc := 70) (h1 := mrS (maS h m (4 * W.1) ns) m n x5020 (nI q5020) (nI k5020) op) (st := []) (d := d + 1) (bc := 0) (bs := 0) (c_Ma_tell_f hst hM htf hB hn hnp hn6 (4 * W.1) ns x5020 (nI k5020) op q5020 (by omega) (nI 0) (nI v5019) (nI 0) (nI 0)) vv_X11_tellsStep dX11_readStep_70 wg_1528 ((maS_M hM (4 * W.1) ns).K0) rfl rfl rfl rfl (by omega) (Nat.le_of_ble_eq_true rfl) (Nat.le_of_ble_eq_true rfl) (Nat.le_of_ble_eq_true rfl) ?_
              refine ww_goto (tgt := 272) dX11_readStep_73 (by decide) ?_
              refine ww_fg (lv2 := [.ref m, UU, UU, UU]) ⟨Or.inr rfl, Or.inl rfl, Or.inl rfl, Or.inl rfl, trivial⟩ ?_
              exact l_Ma_tail hst hM htf hB hn hnp hn6 (by omega) bk op (r := stS np (some (slS (spS np inner T n) T n 38)) T n a W) (by unfold stS; rw [hr5018, bS_r, if_pos rfl, hr5019, bS_r, hr5020, bS_l]; exact ⟨_, _, _, (by omega), rfl⟩) hbb
            · have hf5020 := figS_r (by omega) hr5020
              have hg5020 := sk_ge (T := T) (show a5019 ≤ n by omega)
              refine ww_cVr (M := m_X11_readStep) (pc := 56) (v := .int (nI v5020)) (h1 := mrS (maS h m (4 * W.1) ns) m n a5020 (-1) bk op) (st := []) (d := d + 1) (bc := 0) (bs := 0) (c_Ma_own_r hst hM htf hB hn hnp hn6 (4 * W.1) ns a5019 bk op (by omega) hr5020) vv_X11_readOwned dX11_readStep_56 wg_1533 ((maS_M hM (4 * W.1) ns).K0) rfl rfl rfl rfl (by omega) (Nat.le_of_ble_eq_true rfl) (Nat.le_of_ble_eq_true rfl) (Nat.le_of_ble_eq_true rfl) ?_
              refine ww_sti_n (lv2 := [.ref m, .int (nI 22117), .int (nI v5019), .int (nI v5020)]) dX11_readStep_59 rfl rfl (by decide) rfl ?_
              refine ww_aload_n dX11_readStep_60 rfl rfl ?_
              refine ww_iconst (v := nI 0) dX11_readStep_61 (by decide) ?_
              refine ww_iload_n dX11_readStep_62 rfl rfl ?_
              refine ww_iload_n dX11_readStep_63 rfl rfl ?_
              refine ww_aload_n dX11_readStep_64 rfl rfl ?_
              refine ww_iconst (v := nI 0) dX11_readStep_65 (by decide) ?_
              refine ww_iconst (v := nI 2) dX11_readStep_66 (by decide) ?_
              rcases hr5021 : figS T n 0 3 a5020 with ⟨k5021, q5021⟩ | ⟨a5021, v5021⟩
              · have hf5021 := (figS_l hr5021).1
                have hq5021 := figS_lq (by omega) hr5021
                refine ww_cVq (M := m_X11_readStep) (pc := 67) (v := .int (nI 0)) (st := [.int (nI v5020), .int (nI v5019), .int (nI 0), .ref m]) (d := d + 1) (bc := 0) (bs := 0) (c_MR_num_l hst (maS_M hM (4 * W.1) ns) (maS_t (c := 4 * W.1) (ns := ns) htf) hB hn a5020 bk op (by omega) 0 3 (nI 2) (by omega) (by omega) (hi_c 2 (by decide)) hr5021) vv_X11_readNumber dX11_readStep_67 wg_1460 ((maS_M hM (4 * W.1) ns).K0) rfl rfl rfl rfl (by omega) (Nat.le_of_ble_eq_true rfl) (Nat.le_of_ble_eq_true rfl) (Nat.le_of_ble_eq_true rfl) (fun hx5021h qx5021 => ?_)
                obtain ⟨x5021, hx5021, rfl⟩ := qx5021
                refine ww_cV0 (M := m_X11_readStep) (pc := 70) (h1 := mrS (maS h m (4 * W.1) ns) m n x5021 (nI q5021) (nI k5021) op) (st := []) (d := d + 1) (bc := 0) (bs := 0) (c_Ma_tell_f hst hM htf hB hn hnp hn6 (4 * W.1) ns x5021 (nI k5021) op q5021 (by omega) (nI 0) (nI v5019) (nI v5020) (nI 0)) vv_X11_tellsStep dX11_readStep_70 wg_1528 ((maS_M hM (4 * W.1) ns).K0) rfl rfl rfl rfl (by omega) (Nat.le_of_ble_eq_true rfl) (Nat.le_of_ble_eq_true rfl) (Nat.le_of_ble_eq_true rfl) ?_
                refine ww_goto (tgt := 272) dX11_readStep_73 (by decide) ?_
                refine ww_fg (lv2 := [.ref m, UU, UU, UU]) ⟨Or.inr rfl, Or.inl rfl, Or.inl rfl, Or.inl rfl, trivial⟩ ?_
                exact l_Ma_tail hst hM htf hB hn hnp hn6 (by omega) bk op (r := stS np (some (slS (spS np inner T n) T n 38)) T n a W) (by unfold stS; rw [hr5018, bS_r, if_pos rfl, hr5019, bS_r, hr5020, bS_r, hr5021, bS_l]; exact ⟨_, _, _, (by omega), rfl⟩) hbb
              · have hf5021 := figS_r (by omega) hr5021
                have hg5021 := sk_ge (T := T) (show a5020 ≤ n by omega)
                refine ww_cVr (M := m_X11_readStep) (pc := 67) (v := .int (nI v5021)) (h1 := mrS (maS h m (4 * W.1) ns) m n a5021 (-1) bk op) (st := [.int (nI v5020), .int (nI v5019), .int (nI 0), .ref m]) (d := d + 1) (bc := 0) (bs := 0) (c_MR_num_r hst (maS_M hM (4 * W.1) ns) (maS_t (c := 4 * W.1) (ns := ns) htf) hB hn a5020 bk op (by omega) 0 3 (nI 2) (by omega) (by omega) (hi_c 2 (by decide)) hr5021) vv_X11_readNumber dX11_readStep_67 wg_1460 ((maS_M hM (4 * W.1) ns).K0) rfl rfl rfl rfl (by omega) (Nat.le_of_ble_eq_true rfl) (Nat.le_of_ble_eq_true rfl) (Nat.le_of_ble_eq_true rfl) ?_
                refine ww_cVq0 (M := m_X11_readStep) (pc := 70) (st := []) (d := d + 1) (bc := 0) (bs := 0) (cc_post (fun r h9 hp => (show RQ none (fun h9 => h9 = _) r h9 from hp)) (c_Ma_tell hst hM htf hB hn hnp hn6 (4 * W.1) (by omega) ns a5021 bk op 0 v5019 v5020 v5021)) vv_X11_tellsStep dX11_readStep_70 wg_1528 ((maS_M hM (4 * W.1) ns).K0) rfl rfl rfl rfl (by omega) (Nat.le_of_ble_eq_true rfl) (Nat.le_of_ble_eq_true rfl) (Nat.le_of_ble_eq_true rfl) (fun ho5022 ha5022 => ?_)
                subst ha5022
                have hs5022 := (RsR.new (k := 0) (a := v5019) (b := v5020) (c := v5021) (x := nI v5019) (y := nI v5020) (z := nI v5021) hrs (by decide) (fun _ => ⟨rfl, rfl, rfl⟩) (fun e => absurd e (by decide)) (fun e => absurd e (by decide)) (fun e => absurd e (by decide)))
                have he5022 : (aA 0 v5019 v5020 v5021 W).1 = W.1 + 1 := rfl
                refine ww_hp (h2 := mrS (maS h m (4 * (W.1 + 1)) (tl4 ns (4 * W.1) (nI 0) (nI v5019) (nI v5020) (nI v5021))) m n a5021 (-1) bk op) (by rw [show 4 * (W.1 + 1) = 4 * W.1 + 4 by omega]) ?_
                refine ww_goto (tgt := 272) dX11_readStep_73 (by decide) ?_
                refine ww_fg (lv2 := [.ref m, UU, UU, UU]) ⟨Or.inr rfl, Or.inl rfl, Or.inl rfl, Or.inl rfl, trivial⟩ ?_
                exact l_Ma_tail hst hM htf hB hn hnp hn6 (by omega) bk op (r := stS np (some (slS (spS np inner T n) T n 38)) T n a W) (by unfold stS; rw [hr5018, bS_r, if_pos rfl, hr5019, bS_r, hr5020, bS_r, hr5021, bS_r]; exact ⟨_, hs5022, rfl⟩) hbb
      · exact absurd c11 (by decide)
    · have hw5018 : wdA T n a = 628108 := by
        obtain ⟨i, hi, hw⟩ := wM_r (by omega) wWork_x (by decide) hr5018
        have e := Option.some.inj (show some 19 = some i from hi)
        rw [← e] at hw
        exact hw.trans (by decide +kernel)
      refine ww_cVr (M := m_X11_readStep) (pc := 1) (v := .int (nI 628108)) (h1 := mrS (maS h m (4 * W.1) ns) m n (sk T n a) (-1) bk op) (st := []) (d := d + 1) (bc := 0) (bs := 0) (c_MR_word_e hst (maS_M hM (4 * W.1) ns) (maS_t (c := 4 * W.1) (ns := ns) htf) hB hn (-1) bk op a (by omega) hw5018) vv_X11_word dX11_readStep_1 wg_1433 ((maS_M hM (4 * W.1) ns).K0) rfl rfl rfl rfl (by omega) (Nat.le_of_ble_eq_true rfl) (Nat.le_of_ble_eq_true rfl) (Nat.le_of_ble_eq_true rfl) ?_
      refine ww_sti_n (lv2 := [.ref m, .int (nI 628108), UU, UU]) dX11_readStep_4 rfl rfl (by decide) rfl ?_
      refine ww_iload_n dX11_readStep_5 rfl rfl ?_
      refine ww_ldcS (i := 17) dX11_readStep_6 rfl ?_
      refine ww_cSr (M := m_X11_readStep) (pc := 8) (v := .int (nI 4153)) (h1 := mrS (maS h m (4 * W.1) ns) m n (sk T n a) (-1) bk op) (st := [.int (nI 628108)]) (d := d + 1) (bc := 0) (bs := 0) (c_of_17 hst (mrS (maS h m (4 * W.1) ns) m n (sk T n a) (-1) bk op)) vv_X11_of dX11_readStep_8 wg_1441 rfl rfl rfl (by omega) (Nat.le_of_ble_eq_true rfl) (Nat.le_of_ble_eq_true rfl) (Nat.le_of_ble_eq_true rfl) ?_
      refine ww_icmp_neN (tgt := 29) dX11_readStep_11 (by decide) (by omega) (by omega) (fun c11 => ?_) (fun c11 => ?_)
      · refine ww_iload_n dX11_readStep_29 rfl rfl ?_
        refine ww_ldcwS (i := 18) dX11_readStep_30 rfl ?_
        refine ww_cSr (M := m_X11_readStep) (pc := 33) (v := .int (nI 22117)) (h1 := mrS (maS h m (4 * W.1) ns) m n (sk T n a) (-1) bk op) (st := [.int (nI 628108)]) (d := d + 1) (bc := 0) (bs := 0) (c_of_18 hst (mrS (maS h m (4 * W.1) ns) m n (sk T n a) (-1) bk op)) vv_X11_of dX11_readStep_33 wg_1441 rfl rfl rfl (by omega) (Nat.le_of_ble_eq_true rfl) (Nat.le_of_ble_eq_true rfl) (Nat.le_of_ble_eq_true rfl) ?_
        refine ww_icmp_neN (tgt := 76) dX11_readStep_36 (by decide) (by omega) (by omega) (fun c36 => ?_) (fun c36 => ?_)
        · refine ww_iload_n dX11_readStep_76 rfl rfl ?_
          refine ww_ldcwS (i := 19) dX11_readStep_77 rfl ?_
          refine ww_cSr (M := m_X11_readStep) (pc := 80) (v := .int (nI 628108)) (h1 := mrS (maS h m (4 * W.1) ns) m n (sk T n a) (-1) bk op) (st := [.int (nI 628108)]) (d := d + 1) (bc := 0) (bs := 0) (c_of_19 hst (mrS (maS h m (4 * W.1) ns) m n (sk T n a) (-1) bk op)) vv_X11_of dX11_readStep_80 wg_1441 rfl rfl rfl (by omega) (Nat.le_of_ble_eq_true rfl) (Nat.le_of_ble_eq_true rfl) (Nat.le_of_ble_eq_true rfl) ?_
          refine ww_icmp_neN (tgt := 125) dX11_readStep_83 (by decide) (by omega) (by omega) (fun c83 => ?_) (fun c83 => ?_)
          · exact absurd c83 (by decide)
          · refine ww_aload_n dX11_readStep_86 rfl rfl ?_
            refine ww_cV0 (M := m_X11_readStep) (pc := 87) (h1 := mrS (maS h m (4 * W.1) ns) m n a5018 (-1) bk op) (st := []) (d := d + 1) (bc := 0) (bs := 0) (c_MR_pass_e hst (maS_M hM (4 * W.1) ns) (maS_t (c := 4 * W.1) (ns := ns) htf) hB hn (-1) bk op (sk T n a) (by omega) (by rw [hz5018])) vv_X11_pass dX11_readStep_87 wg_1452 ((maS_M hM (4 * W.1) ns).K0) rfl rfl rfl rfl (by omega) (Nat.le_of_ble_eq_true rfl) (Nat.le_of_ble_eq_true rfl) (Nat.le_of_ble_eq_true rfl) ?_
            refine ww_aload_n dX11_readStep_90 rfl rfl ?_
            rcases hr5023 : figS T n 0 61 a5018 with ⟨k5023, q5023⟩ | ⟨a5023, v5023⟩
            · have hf5023 := (figS_l hr5023).1
              have hq5023 := figS_lq (by omega) hr5023
              refine ww_cVq (M := m_X11_readStep) (pc := 91) (v := .int (nI 0)) (st := []) (d := d + 1) (bc := 0) (bs := 0) (c_Ma_own_l hst hM htf hB hn hnp hn6 (4 * W.1) ns a5018 bk op (by omega) hr5023) vv_X11_readOwned dX11_readStep_91 wg_1533 ((maS_M hM (4 * W.1) ns).K0) rfl rfl rfl rfl (by omega) (Nat.le_of_ble_eq_true rfl) (Nat.le_of_ble_eq_true rfl) (Nat.le_of_ble_eq_true rfl) (fun hx5023h qx5023 => ?_)
              obtain ⟨x5023, hx5023, rfl⟩ := qx5023
              refine ww_sti_n (lv2 := [.ref m, .int (nI 628108), .int (nI 0), UU]) dX11_readStep_94 rfl rfl (by decide) rfl ?_
              refine ww_aload_n dX11_readStep_95 rfl rfl ?_
              refine ww_iconst (v := nI 0) dX11_readStep_96 (by decide) ?_
              refine ww_aload_n dX11_readStep_97 rfl rfl ?_
              refine ww_get 15 dX11_readStep_98 ((maS_M hM (4 * W.1) ns).K0) rfl (by decide) inX11 wg_1255 (mrS_j _ _ _ _ _ (by decide) (maS_j (by decide) hnp)) ?_
              refine ww_iconst (v := nI 1) dX11_readStep_101 (by decide) ?_
              refine ww_isub dX11_readStep_102 ?_
              refine ww_cVr (M := m_X11_readStep) (pc := 103) (v := .int (nI 0)) (h1 := mrS (maS h m (4 * W.1) ns) m n x5023 (nI q5023) (nI k5023) op) (st := []) (d := d + 1) (bc := 0) (bs := 0) (c_MR_num_f hst (maS_M hM (4 * W.1) ns) (maS_t (c := 4 * W.1) (ns := ns) htf) hB hn x5023 (nI k5023) op q5023 (by omega) 0 ((nI np) - (nI 1))) vv_X11_readNumber dX11_readStep_103 wg_1460 ((maS_M hM (4 * W.1) ns).K0) rfl rfl rfl rfl (by omega) (Nat.le_of_ble_eq_true rfl) (Nat.le_of_ble_eq_true rfl) (Nat.le_of_ble_eq_true rfl) ?_
              refine ww_sti_n (lv2 := [.ref m, .int (nI 628108), .int (nI 0), .int (nI 0)]) dX11_readStep_106 rfl rfl (by decide) rfl ?_
              refine ww_aload_n dX11_readStep_107 rfl rfl ?_
              refine ww_iconst (v := nI 1) dX11_readStep_108 (by decide) ?_
              refine ww_iload_n dX11_readStep_109 rfl rfl ?_
              refine ww_iload_n dX11_readStep_110 rfl rfl ?_
              refine ww_aload_n dX11_readStep_111 rfl rfl ?_
              refine ww_iconst (v := nI 0) dX11_readStep_112 (by decide) ?_
              refine ww_sipush (v := nI 999) dX11_readStep_113 (by decide) ?_
              refine ww_cVr (M := m_X11_readStep) (pc := 116) (v := .int (nI 0)) (h1 := mrS (maS h m (4 * W.1) ns) m n x5023 (nI q5023) (nI k5023) op) (st := [.int (nI 0), .int (nI 0), .int (nI 1), .ref m]) (d := d + 1) (bc := 0) (bs := 0) (c_MR_num_f hst (maS_M hM (4 * W.1) ns) (maS_t (c := 4 * W.1) (ns := ns) htf) hB hn x5023 (nI k5023) op q5023 (by omega) 0 (nI 999)) vv_X11_readNumber dX11_readStep_116 wg_1460 ((maS_M hM (4 * W.1) ns).K0) rfl rfl rfl rfl (by omega) (Nat.le_of_ble_eq_true rfl) (Nat.le_of_ble_eq_true rfl) (Nat.le_of_ble_eq_true rfl) ?_
              refine ww_cV0 (M := m_X11_readStep) (pc := 119) (h1 := mrS (maS h m (4 * W.1) ns) m n x5023 (nI q5023) (nI k5023) op) (st := []) (d := d + 1) (bc := 0) (bs := 0) (c_Ma_tell_f hst hM htf hB hn hnp hn6 (4 * W.1) ns x5023 (nI k5023) op q5023 (by omega) (nI 1) (nI 0) (nI 0) (nI 0)) vv_X11_tellsStep dX11_readStep_119 wg_1528 ((maS_M hM (4 * W.1) ns).K0) rfl rfl rfl rfl (by omega) (Nat.le_of_ble_eq_true rfl) (Nat.le_of_ble_eq_true rfl) (Nat.le_of_ble_eq_true rfl) ?_
              refine ww_goto (tgt := 272) dX11_readStep_122 (by decide) ?_
              refine ww_fg (lv2 := [.ref m, UU, UU, UU]) ⟨Or.inr rfl, Or.inl rfl, Or.inl rfl, Or.inl rfl, trivial⟩ ?_
              exact l_Ma_tail hst hM htf hB hn hnp hn6 (by omega) bk op (r := stS np (some (slS (spS np inner T n) T n 38)) T n a W) (by unfold stS; rw [hr5018, bS_r, if_neg (by decide), if_pos rfl, hr5023, bS_l]; exact ⟨_, _, _, (by omega), rfl⟩) hbb
            · have hf5023 := figS_r (by omega) hr5023
              have hg5023 := sk_ge (T := T) (show a5018 ≤ n by omega)
              refine ww_cVr (M := m_X11_readStep) (pc := 91) (v := .int (nI v5023)) (h1 := mrS (maS h m (4 * W.1) ns) m n a5023 (-1) bk op) (st := []) (d := d + 1) (bc := 0) (bs := 0) (c_Ma_own_r hst hM htf hB hn hnp hn6 (4 * W.1) ns a5018 bk op (by omega) hr5023) vv_X11_readOwned dX11_readStep_91 wg_1533 ((maS_M hM (4 * W.1) ns).K0) rfl rfl rfl rfl (by omega) (Nat.le_of_ble_eq_true rfl) (Nat.le_of_ble_eq_true rfl) (Nat.le_of_ble_eq_true rfl) ?_
              refine ww_sti_n (lv2 := [.ref m, .int (nI 628108), .int (nI v5023), UU]) dX11_readStep_94 rfl rfl (by decide) rfl ?_
              refine ww_aload_n dX11_readStep_95 rfl rfl ?_
              refine ww_iconst (v := nI 0) dX11_readStep_96 (by decide) ?_
              refine ww_aload_n dX11_readStep_97 rfl rfl ?_
              refine ww_get 15 dX11_readStep_98 ((maS_M hM (4 * W.1) ns).K0) rfl (by decide) inX11 wg_1255 (mrS_j _ _ _ _ _ (by decide) (maS_j (by decide) hnp)) ?_
              refine ww_iconst (v := nI 1) dX11_readStep_101 (by decide) ?_
              refine ww_isub dX11_readStep_102 ?_
              rcases hr5024 : figS T n 0 np a5023 with ⟨k5024, q5024⟩ | ⟨a5024, v5024⟩
              · have hf5024 := (figS_l hr5024).1
                have hq5024 := figS_lq (by omega) hr5024
                refine ww_cVq (M := m_X11_readStep) (pc := 103) (v := .int (nI 0)) (st := []) (d := d + 1) (bc := 0) (bs := 0) (c_MR_num_l hst (maS_M hM (4 * W.1) ns) (maS_t (c := 4 * W.1) (ns := ns) htf) hB hn a5023 bk op (by omega) 0 np ((nI np) - (nI 1)) (by omega) (by omega) (hi_np (by omega)) hr5024) vv_X11_readNumber dX11_readStep_103 wg_1460 ((maS_M hM (4 * W.1) ns).K0) rfl rfl rfl rfl (by omega) (Nat.le_of_ble_eq_true rfl) (Nat.le_of_ble_eq_true rfl) (Nat.le_of_ble_eq_true rfl) (fun hx5024h qx5024 => ?_)
                obtain ⟨x5024, hx5024, rfl⟩ := qx5024
                refine ww_sti_n (lv2 := [.ref m, .int (nI 628108), .int (nI v5023), .int (nI 0)]) dX11_readStep_106 rfl rfl (by decide) rfl ?_
                refine ww_aload_n dX11_readStep_107 rfl rfl ?_
                refine ww_iconst (v := nI 1) dX11_readStep_108 (by decide) ?_
                refine ww_iload_n dX11_readStep_109 rfl rfl ?_
                refine ww_iload_n dX11_readStep_110 rfl rfl ?_
                refine ww_aload_n dX11_readStep_111 rfl rfl ?_
                refine ww_iconst (v := nI 0) dX11_readStep_112 (by decide) ?_
                refine ww_sipush (v := nI 999) dX11_readStep_113 (by decide) ?_
                refine ww_cVr (M := m_X11_readStep) (pc := 116) (v := .int (nI 0)) (h1 := mrS (maS h m (4 * W.1) ns) m n x5024 (nI q5024) (nI k5024) op) (st := [.int (nI v5023), .int (nI 0), .int (nI 1), .ref m]) (d := d + 1) (bc := 0) (bs := 0) (c_MR_num_f hst (maS_M hM (4 * W.1) ns) (maS_t (c := 4 * W.1) (ns := ns) htf) hB hn x5024 (nI k5024) op q5024 (by omega) 0 (nI 999)) vv_X11_readNumber dX11_readStep_116 wg_1460 ((maS_M hM (4 * W.1) ns).K0) rfl rfl rfl rfl (by omega) (Nat.le_of_ble_eq_true rfl) (Nat.le_of_ble_eq_true rfl) (Nat.le_of_ble_eq_true rfl) ?_
                refine ww_cV0 (M := m_X11_readStep) (pc := 119) (h1 := mrS (maS h m (4 * W.1) ns) m n x5024 (nI q5024) (nI k5024) op) (st := []) (d := d + 1) (bc := 0) (bs := 0) (c_Ma_tell_f hst hM htf hB hn hnp hn6 (4 * W.1) ns x5024 (nI k5024) op q5024 (by omega) (nI 1) (nI 0) (nI v5023) (nI 0)) vv_X11_tellsStep dX11_readStep_119 wg_1528 ((maS_M hM (4 * W.1) ns).K0) rfl rfl rfl rfl (by omega) (Nat.le_of_ble_eq_true rfl) (Nat.le_of_ble_eq_true rfl) (Nat.le_of_ble_eq_true rfl) ?_
                refine ww_goto (tgt := 272) dX11_readStep_122 (by decide) ?_
                refine ww_fg (lv2 := [.ref m, UU, UU, UU]) ⟨Or.inr rfl, Or.inl rfl, Or.inl rfl, Or.inl rfl, trivial⟩ ?_
                exact l_Ma_tail hst hM htf hB hn hnp hn6 (by omega) bk op (r := stS np (some (slS (spS np inner T n) T n 38)) T n a W) (by unfold stS; rw [hr5018, bS_r, if_neg (by decide), if_pos rfl, hr5023, bS_r, hr5024, bS_l]; exact ⟨_, _, _, (by omega), rfl⟩) hbb
              · have hf5024 := figS_r (by omega) hr5024
                have hg5024 := sk_ge (T := T) (show a5023 ≤ n by omega)
                refine ww_cVr (M := m_X11_readStep) (pc := 103) (v := .int (nI v5024)) (h1 := mrS (maS h m (4 * W.1) ns) m n a5024 (-1) bk op) (st := []) (d := d + 1) (bc := 0) (bs := 0) (c_MR_num_r hst (maS_M hM (4 * W.1) ns) (maS_t (c := 4 * W.1) (ns := ns) htf) hB hn a5023 bk op (by omega) 0 np ((nI np) - (nI 1)) (by omega) (by omega) (hi_np (by omega)) hr5024) vv_X11_readNumber dX11_readStep_103 wg_1460 ((maS_M hM (4 * W.1) ns).K0) rfl rfl rfl rfl (by omega) (Nat.le_of_ble_eq_true rfl) (Nat.le_of_ble_eq_true rfl) (Nat.le_of_ble_eq_true rfl) ?_
                refine ww_sti_n (lv2 := [.ref m, .int (nI 628108), .int (nI v5023), .int (nI v5024)]) dX11_readStep_106 rfl rfl (by decide) rfl ?_
                refine ww_aload_n dX11_readStep_107 rfl rfl ?_
                refine ww_iconst (v := nI 1) dX11_readStep_108 (by decide) ?_
                refine ww_iload_n dX11_readStep_109 rfl rfl ?_
                refine ww_iload_n dX11_readStep_110 rfl rfl ?_
                refine ww_aload_n dX11_readStep_111 rfl rfl ?_
                refine ww_iconst (v := nI 0) dX11_readStep_112 (by decide) ?_
                refine ww_sipush (v := nI 999) dX11_readStep_113 (by decide) ?_
                rcases hr5025 : figS T n 0 1000 a5024 with ⟨k5025, q5025⟩ | ⟨a5025, v5025⟩
                · have hf5025 := (figS_l hr5025).1
                  have hq5025 := figS_lq (by omega) hr5025
                  refine ww_cVq (M := m_X11_readStep) (pc := 116) (v := .int (nI 0)) (st := [.int (nI v5023), .int (nI v5024), .int (nI 1), .ref m]) (d := d + 1) (bc := 0) (bs := 0) (c_MR_num_l hst (maS_M hM (4 * W.1) ns) (maS_t (c := 4 * W.1) (ns := ns) htf) hB hn a5024 bk op (by omega) 0 1000 (nI 999) (by omega) (by omega) (hi_c 999 (by decide)) hr5025) vv_X11_readNumber dX11_readStep_116 wg_1460 ((maS_M hM (4 * W.1) ns).K0) rfl rfl rfl rfl (by omega) (Nat.le_of_ble_eq_true rfl) (Nat.le_of_ble_eq_true rfl) (Nat.le_of_ble_eq_true rfl) (fun hx5025h qx5025 => ?_)
                  obtain ⟨x5025, hx5025, rfl⟩ := qx5025
                  refine ww_cV0 (M := m_X11_readStep) (pc := 119) (h1 := mrS (maS h m (4 * W.1) ns) m n x5025 (nI q5025) (nI k5025) op) (st := []) (d := d + 1) (bc := 0) (bs := 0) (c_Ma_tell_f hst hM htf hB hn hnp hn6 (4 * W.1) ns x5025 (nI k5025) op q5025 (by omega) (nI 1) (nI v5024) (nI v5023) (nI 0)) vv_X11_tellsStep dX11_readStep_119 wg_1528 ((maS_M hM (4 * W.1) ns).K0) rfl rfl rfl rfl (by omega) (Nat.le_of_ble_eq_true rfl) (Nat.le_of_ble_eq_true rfl) (Nat.le_of_ble_eq_true rfl) ?_
                  refine ww_goto (tgt := 272) dX11_readStep_122 (by decide) ?_
                  refine ww_fg (lv2 := [.ref m, UU, UU, UU]) ⟨Or.inr rfl, Or.inl rfl, Or.inl rfl, Or.inl rfl, trivial⟩ ?_
                  exact l_Ma_tail hst hM htf hB hn hnp hn6 (by omega) bk op (r := stS np (some (slS (spS np inner T n) T n 38)) T n a W) (by unfold stS; rw [hr5018, bS_r, if_neg (by decide), if_pos rfl, hr5023, bS_r, hr5024, bS_r, hr5025, bS_l]; exact ⟨_, _, _, (by omega), rfl⟩) hbb
                · have hf5025 := figS_r (by omega) hr5025
                  have hg5025 := sk_ge (T := T) (show a5024 ≤ n by omega)
                  refine ww_cVr (M := m_X11_readStep) (pc := 116) (v := .int (nI v5025)) (h1 := mrS (maS h m (4 * W.1) ns) m n a5025 (-1) bk op) (st := [.int (nI v5023), .int (nI v5024), .int (nI 1), .ref m]) (d := d + 1) (bc := 0) (bs := 0) (c_MR_num_r hst (maS_M hM (4 * W.1) ns) (maS_t (c := 4 * W.1) (ns := ns) htf) hB hn a5024 bk op (by omega) 0 1000 (nI 999) (by omega) (by omega) (hi_c 999 (by decide)) hr5025) vv_X11_readNumber dX11_readStep_116 wg_1460 ((maS_M hM (4 * W.1) ns).K0) rfl rfl rfl rfl (by omega) (Nat.le_of_ble_eq_true rfl) (Nat.le_of_ble_eq_true rfl) (Nat.le_of_ble_eq_true rfl) ?_
                  refine ww_cVq0 (M := m_X11_readStep) (pc := 119) (st := []) (d := d + 1) (bc := 0) (bs := 0) (cc_post (fun r h9 hp => (show RQ none (fun h9 => h9 = _) r h9 from hp)) (c_Ma_tell hst hM htf hB hn hnp hn6 (4 * W.1) (by omega) ns a5025 bk op 1 v5024 v5023 v5025)) vv_X11_tellsStep dX11_readStep_119 wg_1528 ((maS_M hM (4 * W.1) ns).K0) rfl rfl rfl rfl (by omega) (Nat.le_of_ble_eq_true rfl) (Nat.le_of_ble_eq_true rfl) (Nat.le_of_ble_eq_true rfl) (fun ho5026 ha5026 => ?_)
                  subst ha5026
                  have hs5026 := (RsR.new (k := 1) (a := v5023) (b := v5024) (c := v5025) (x := nI v5024) (y := nI v5023) (z := nI v5025) hrs (by decide) (fun e => absurd e (by decide)) (fun _ => ⟨rfl, rfl, rfl⟩) (fun e => absurd e (by decide)) (fun e => absurd e (by decide)))
                  have he5026 : (aA 1 v5023 v5024 v5025 W).1 = W.1 + 1 := rfl
                  refine ww_hp (h2 := mrS (maS h m (4 * (W.1 + 1)) (tl4 ns (4 * W.1) (nI 1) (nI v5024) (nI v5023) (nI v5025))) m n a5025 (-1) bk op) (by rw [show 4 * (W.1 + 1) = 4 * W.1 + 4 by omega]) ?_
                  refine ww_goto (tgt := 272) dX11_readStep_122 (by decide) ?_
                  refine ww_fg (lv2 := [.ref m, UU, UU, UU]) ⟨Or.inr rfl, Or.inl rfl, Or.inl rfl, Or.inl rfl, trivial⟩ ?_
                  exact l_Ma_tail hst hM htf hB hn hnp hn6 (by omega) bk op (r := stS np (some (slS (spS np inner T n) T n 38)) T n a W) (by unfold stS; rw [hr5018, bS_r, if_neg (by decide), if_pos rfl, hr5023, bS_r, hr5024, bS_r, hr5025, bS_r]; exact ⟨_, hs5026, rfl⟩) hbb
        · exact absurd c36 (by decide)
      · exact absurd c11 (by decide)
    · have hw5018 : wdA T n a = 595412 := by
        obtain ⟨i, hi, hw⟩ := wM_r (by omega) wWork_x (by decide) hr5018
        have e := Option.some.inj (show some 12 = some i from hi)
        rw [← e] at hw
        exact hw.trans (by decide +kernel)
      refine ww_cVr (M := m_X11_readStep) (pc := 1) (v := .int (nI 595412)) (h1 := mrS (maS h m (4 * W.1) ns) m n (sk T n a) (-1) bk op) (st := []) (d := d + 1) (bc := 0) (bs := 0) (c_MR_word_e hst (maS_M hM (4 * W.1) ns) (maS_t (c := 4 * W.1) (ns := ns) htf) hB hn (-1) bk op a (by omega) hw5018) vv_X11_word dX11_readStep_1 wg_1433 ((maS_M hM (4 * W.1) ns).K0) rfl rfl rfl rfl (by omega) (Nat.le_of_ble_eq_true rfl) (Nat.le_of_ble_eq_true rfl) (Nat.le_of_ble_eq_true rfl) ?_
      refine ww_sti_n (lv2 := [.ref m, .int (nI 595412), UU, UU]) dX11_readStep_4 rfl rfl (by decide) rfl ?_
      refine ww_iload_n dX11_readStep_5 rfl rfl ?_
      refine ww_ldcS (i := 17) dX11_readStep_6 rfl ?_
      refine ww_cSr (M := m_X11_readStep) (pc := 8) (v := .int (nI 4153)) (h1 := mrS (maS h m (4 * W.1) ns) m n (sk T n a) (-1) bk op) (st := [.int (nI 595412)]) (d := d + 1) (bc := 0) (bs := 0) (c_of_17 hst (mrS (maS h m (4 * W.1) ns) m n (sk T n a) (-1) bk op)) vv_X11_of dX11_readStep_8 wg_1441 rfl rfl rfl (by omega) (Nat.le_of_ble_eq_true rfl) (Nat.le_of_ble_eq_true rfl) (Nat.le_of_ble_eq_true rfl) ?_
      refine ww_icmp_neN (tgt := 29) dX11_readStep_11 (by decide) (by omega) (by omega) (fun c11 => ?_) (fun c11 => ?_)
      · refine ww_iload_n dX11_readStep_29 rfl rfl ?_
        refine ww_ldcwS (i := 18) dX11_readStep_30 rfl ?_
        refine ww_cSr (M := m_X11_readStep) (pc := 33) (v := .int (nI 22117)) (h1 := mrS (maS h m (4 * W.1) ns) m n (sk T n a) (-1) bk op) (st := [.int (nI 595412)]) (d := d + 1) (bc := 0) (bs := 0) (c_of_18 hst (mrS (maS h m (4 * W.1) ns) m n (sk T n a) (-1) bk op)) vv_X11_of dX11_readStep_33 wg_1441 rfl rfl rfl (by omega) (Nat.le_of_ble_eq_true rfl) (Nat.le_of_ble_eq_true rfl) (Nat.le_of_ble_eq_true rfl) ?_
        refine ww_icmp_neN (tgt := 76) dX11_readStep_36 (by decide) (by omega) (by omega) (fun c36 => ?_) (fun c36 => ?_)
        · refine ww_iload_n dX11_readStep_76 rfl rfl ?_
          refine ww_ldcwS (i := 19) dX11_readStep_77 rfl ?_
          refine ww_cSr (M := m_X11_readStep) (pc := 80) (v := .int (nI 628108)) (h1 := mrS (maS h m (4 * W.1) ns) m n (sk T n a) (-1) bk op) (st := [.int (nI 595412)]) (d := d + 1) (bc := 0) (bs := 0) (c_of_19 hst (mrS (maS h m (4 * W.1) ns) m n (sk T n a) (-1) bk op)) vv_X11_of dX11_readStep_80 wg_1441 rfl rfl rfl (by omega) (Nat.le_of_ble_eq_true rfl) (Nat.le_of_ble_eq_true rfl) (Nat.le_of_ble_eq_true rfl) ?_
          refine ww_icmp_neN (tgt := 125) dX11_readStep_83 (by decide) (by omega) (by omega) (fun c83 => ?_) (fun c83 => ?_)
          · refine ww_iload_n dX11_readStep_125 rfl rfl ?_
            refine ww_ldcS (i := 12) dX11_readStep_126 rfl ?_
            refine ww_cSr (M := m_X11_readStep) (pc := 128) (v := .int (nI 595412)) (h1 := mrS (maS h m (4 * W.1) ns) m n (sk T n a) (-1) bk op) (st := [.int (nI 595412)]) (d := d + 1) (bc := 0) (bs := 0) (c_of_12 hst (mrS (maS h m (4 * W.1) ns) m n (sk T n a) (-1) bk op)) vv_X11_of dX11_readStep_128 wg_1441 rfl rfl rfl (by omega) (Nat.le_of_ble_eq_true rfl) (Nat.le_of_ble_eq_true rfl) (Nat.le_of_ble_eq_true rfl) ?_
            refine ww_icmp_neN (tgt := 160) dX11_readStep_131 (by decide) (by omega) (by omega) (fun c131 => ?_) (fun c131 => ?_)
            · exact absurd c131 (by decide)
            · refine ww_aload_n dX11_readStep_134 rfl rfl ?_
              refine ww_cV0 (M := m_X11_readStep) (pc := 135) (h1 := mrS (maS h m (4 * W.1) ns) m n a5018 (-1) bk op) (st := []) (d := d + 1) (bc := 0) (bs := 0) (c_MR_pass_e hst (maS_M hM (4 * W.1) ns) (maS_t (c := 4 * W.1) (ns := ns) htf) hB hn (-1) bk op (sk T n a) (by omega) (by rw [hz5018])) vv_X11_pass dX11_readStep_135 wg_1452 ((maS_M hM (4 * W.1) ns).K0) rfl rfl rfl rfl (by omega) (Nat.le_of_ble_eq_true rfl) (Nat.le_of_ble_eq_true rfl) (Nat.le_of_ble_eq_true rfl) ?_
              refine ww_aload_n dX11_readStep_138 rfl rfl ?_
              rcases hr5027 : figS T n 0 61 a5018 with ⟨k5027, q5027⟩ | ⟨a5027, v5027⟩
              · have hf5027 := (figS_l hr5027).1
                have hq5027 := figS_lq (by omega) hr5027
                refine ww_cVq (M := m_X11_readStep) (pc := 139) (v := .int (nI 0)) (st := []) (d := d + 1) (bc := 0) (bs := 0) (c_Ma_own_l hst hM htf hB hn hnp hn6 (4 * W.1) ns a5018 bk op (by omega) hr5027) vv_X11_readOwned dX11_readStep_139 wg_1533 ((maS_M hM (4 * W.1) ns).K0) rfl rfl rfl rfl (by omega) (Nat.le_of_ble_eq_true rfl) (Nat.le_of_ble_eq_true rfl) (Nat.le_of_ble_eq_true rfl) (fun hx5027h qx5027 => ?_)
                obtain ⟨x5027, hx5027, rfl⟩ := qx5027
                refine ww_sti_n (lv2 := [.ref m, .int (nI 595412), .int (nI 0), UU]) dX11_readStep_142 rfl rfl (by decide) rfl ?_
                refine ww_aload_n dX11_readStep_143 rfl rfl ?_
                refine ww_iconst (v := nI 2) dX11_readStep_144 (by decide) ?_
                refine ww_iconst (v := nI 0) dX11_readStep_145 (by decide) ?_
                refine ww_iload_n dX11_readStep_146 rfl rfl ?_
                refine ww_aload_n dX11_readStep_147 rfl rfl ?_
                refine ww_iconst (v := nI 0) dX11_readStep_148 (by decide) ?_
                refine ww_bipush (v := nI 40) dX11_readStep_149 (by decide) ?_
                refine ww_cVr (M := m_X11_readStep) (pc := 151) (v := .int (nI 0)) (h1 := mrS (maS h m (4 * W.1) ns) m n x5027 (nI q5027) (nI k5027) op) (st := [.int (nI 0), .int (nI 0), .int (nI 2), .ref m]) (d := d + 1) (bc := 0) (bs := 0) (c_MR_num_f hst (maS_M hM (4 * W.1) ns) (maS_t (c := 4 * W.1) (ns := ns) htf) hB hn x5027 (nI k5027) op q5027 (by omega) 0 (nI 40)) vv_X11_readNumber dX11_readStep_151 wg_1460 ((maS_M hM (4 * W.1) ns).K0) rfl rfl rfl rfl (by omega) (Nat.le_of_ble_eq_true rfl) (Nat.le_of_ble_eq_true rfl) (Nat.le_of_ble_eq_true rfl) ?_
                refine ww_cV0 (M := m_X11_readStep) (pc := 154) (h1 := mrS (maS h m (4 * W.1) ns) m n x5027 (nI q5027) (nI k5027) op) (st := []) (d := d + 1) (bc := 0) (bs := 0) (c_Ma_tell_f hst hM htf hB hn hnp hn6 (4 * W.1) ns x5027 (nI k5027) op q5027 (by omega) (nI 2) (nI 0) (nI 0) (nI 0)) vv_X11_tellsStep dX11_readStep_154 wg_1528 ((maS_M hM (4 * W.1) ns).K0) rfl rfl rfl rfl (by omega) (Nat.le_of_ble_eq_true rfl) (Nat.le_of_ble_eq_true rfl) (Nat.le_of_ble_eq_true rfl) ?_
                refine ww_goto (tgt := 272) dX11_readStep_157 (by decide) ?_
                refine ww_fg (lv2 := [.ref m, UU, UU, UU]) ⟨Or.inr rfl, Or.inl rfl, Or.inl rfl, Or.inl rfl, trivial⟩ ?_
                exact l_Ma_tail hst hM htf hB hn hnp hn6 (by omega) bk op (r := stS np (some (slS (spS np inner T n) T n 38)) T n a W) (by unfold stS; rw [hr5018, bS_r, if_neg (by decide), if_neg (by decide), if_pos rfl, hr5027, bS_l]; exact ⟨_, _, _, (by omega), rfl⟩) hbb
              · have hf5027 := figS_r (by omega) hr5027
                have hg5027 := sk_ge (T := T) (show a5018 ≤ n by omega)
                refine ww_cVr (M := m_X11_readStep) (pc := 139) (v := .int (nI v5027)) (h1 := mrS (maS h m (4 * W.1) ns) m n a5027 (-1) bk op) (st := []) (d := d + 1) (bc := 0) (bs := 0) (c_Ma_own_r hst hM htf hB hn hnp hn6 (4 * W.1) ns a5018 bk op (by omega) hr5027) vv_X11_readOwned dX11_readStep_139 wg_1533 ((maS_M hM (4 * W.1) ns).K0) rfl rfl rfl rfl (by omega) (Nat.le_of_ble_eq_true rfl) (Nat.le_of_ble_eq_true rfl) (Nat.le_of_ble_eq_true rfl) ?_
                refine ww_sti_n (lv2 := [.ref m, .int (nI 595412), .int (nI v5027), UU]) dX11_readStep_142 rfl rfl (by decide) rfl ?_
                refine ww_aload_n dX11_readStep_143 rfl rfl ?_
                refine ww_iconst (v := nI 2) dX11_readStep_144 (by decide) ?_
                refine ww_iconst (v := nI 0) dX11_readStep_145 (by decide) ?_
                refine ww_iload_n dX11_readStep_146 rfl rfl ?_
                refine ww_aload_n dX11_readStep_147 rfl rfl ?_
                refine ww_iconst (v := nI 0) dX11_readStep_148 (by decide) ?_
                refine ww_bipush (v := nI 40) dX11_readStep_149 (by decide) ?_
                rcases hr5028 : figS T n 0 41 a5027 with ⟨k5028, q5028⟩ | ⟨a5028, v5028⟩
                · have hf5028 := (figS_l hr5028).1
                  have hq5028 := figS_lq (by omega) hr5028
                  refine ww_cVq (M := m_X11_readStep) (pc := 151) (v := .int (nI 0)) (st := [.int (nI v5027), .int (nI 0), .int (nI 2), .ref m]) (d := d + 1) (bc := 0) (bs := 0) (c_MR_num_l hst (maS_M hM (4 * W.1) ns) (maS_t (c := 4 * W.1) (ns := ns) htf) hB hn a5027 bk op (by omega) 0 41 (nI 40) (by omega) (by omega) (hi_c 40 (by decide)) hr5028) vv_X11_readNumber dX11_readStep_151 wg_1460 ((maS_M hM (4 * W.1) ns).K0) rfl rfl rfl rfl (by omega) (Nat.le_of_ble_eq_true rfl) (Nat.le_of_ble_eq_true rfl) (Nat.le_of_ble_eq_true rfl) (fun hx5028h qx5028 => ?_)
                  obtain ⟨x5028, hx5028, rfl⟩ := qx5028
                  refine ww_cV0 (M := m_X11_readStep) (pc := 154) (h1 := mrS (maS h m (4 * W.1) ns) m n x5028 (nI q5028) (nI k5028) op) (st := []) (d := d + 1) (bc := 0) (bs := 0) (c_Ma_tell_f hst hM htf hB hn hnp hn6 (4 * W.1) ns x5028 (nI k5028) op q5028 (by omega) (nI 2) (nI 0) (nI v5027) (nI 0)) vv_X11_tellsStep dX11_readStep_154 wg_1528 ((maS_M hM (4 * W.1) ns).K0) rfl rfl rfl rfl (by omega) (Nat.le_of_ble_eq_true rfl) (Nat.le_of_ble_eq_true rfl) (Nat.le_of_ble_eq_true rfl) ?_
                  refine ww_goto (tgt := 272) dX11_readStep_157 (by decide) ?_
                  refine ww_fg (lv2 := [.ref m, UU, UU, UU]) ⟨Or.inr rfl, Or.inl rfl, Or.inl rfl, Or.inl rfl, trivial⟩ ?_
                  exact l_Ma_tail hst hM htf hB hn hnp hn6 (by omega) bk op (r := stS np (some (slS (spS np inner T n) T n 38)) T n a W) (by unfold stS; rw [hr5018, bS_r, if_neg (by decide), if_neg (by decide), if_pos rfl, hr5027, bS_r, hr5028, bS_l]; exact ⟨_, _, _, (by omega), rfl⟩) hbb
                · have hf5028 := figS_r (by omega) hr5028
                  have hg5028 := sk_ge (T := T) (show a5027 ≤ n by omega)
                  refine ww_cVr (M := m_X11_readStep) (pc := 151) (v := .int (nI v5028)) (h1 := mrS (maS h m (4 * W.1) ns) m n a5028 (-1) bk op) (st := [.int (nI v5027), .int (nI 0), .int (nI 2), .ref m]) (d := d + 1) (bc := 0) (bs := 0) (c_MR_num_r hst (maS_M hM (4 * W.1) ns) (maS_t (c := 4 * W.1) (ns := ns) htf) hB hn a5027 bk op (by omega) 0 41 (nI 40) (by omega) (by omega) (hi_c 40 (by decide)) hr5028) vv_X11_readNumber dX11_readStep_151 wg_1460 ((maS_M hM (4 * W.1) ns).K0) rfl rfl rfl rfl (by omega) (Nat.le_of_ble_eq_true rfl) (Nat.le_of_ble_eq_true rfl) (Nat.le_of_ble_eq_true rfl) ?_
                  refine ww_cVq0 (M := m_X11_readStep) (pc := 154) (st := []) (d := d + 1) (bc := 0) (bs := 0) (cc_post (fun r h9 hp => (show RQ none (fun h9 => h9 = _) r h9 from hp)) (c_Ma_tell hst hM htf hB hn hnp hn6 (4 * W.1) (by omega) ns a5028 bk op 2 0 v5027 v5028)) vv_X11_tellsStep dX11_readStep_154 wg_1528 ((maS_M hM (4 * W.1) ns).K0) rfl rfl rfl rfl (by omega) (Nat.le_of_ble_eq_true rfl) (Nat.le_of_ble_eq_true rfl) (Nat.le_of_ble_eq_true rfl) (fun ho5029 ha5029 => ?_)
                  subst ha5029
                  have hs5029 := (RsR.new (k := 2) (a := v5027) (b := v5028) (c := 0) (x := nI 0) (y := nI v5027) (z := nI v5028) hrs (by decide) (fun e => absurd e (by decide)) (fun e => absurd e (by decide)) (fun _ => ⟨rfl, rfl⟩) (fun e => absurd e (by decide)))
                  have he5029 : (aA 2 v5027 v5028 0 W).1 = W.1 + 1 := rfl
                  refine ww_hp (h2 := mrS (maS h m (4 * (W.1 + 1)) (tl4 ns (4 * W.1) (nI 2) (nI 0) (nI v5027) (nI v5028))) m n a5028 (-1) bk op) (by rw [show 4 * (W.1 + 1) = 4 * W.1 + 4 by omega]) ?_
                  refine ww_goto (tgt := 272) dX11_readStep_157 (by decide) ?_
                  refine ww_fg (lv2 := [.ref m, UU, UU, UU]) ⟨Or.inr rfl, Or.inl rfl, Or.inl rfl, Or.inl rfl, trivial⟩ ?_
                  exact l_Ma_tail hst hM htf hB hn hnp hn6 (by omega) bk op (r := stS np (some (slS (spS np inner T n) T n 38)) T n a W) (by unfold stS; rw [hr5018, bS_r, if_neg (by decide), if_neg (by decide), if_pos rfl, hr5027, bS_r, hr5028, bS_r]; exact ⟨_, hs5029, rfl⟩) hbb
          · exact absurd c83 (by decide)
        · exact absurd c36 (by decide)
      · exact absurd c11 (by decide)
    · have hw5018 : wdA T n a = 4153 := by
        obtain ⟨i, hi, hw⟩ := wM_r (by omega) wWork_x (by decide) hr5018
        have e := Option.some.inj (show some 17 = some i from hi)
        rw [← e] at hw
        exact hw.trans (by decide +kernel)
      refine ww_cVr (M := m_X11_readStep) (pc := 1) (v := .int (nI 4153)) (h1 := mrS (maS h m (4 * W.1) ns) m n (sk T n a) (-1) bk op) (st := []) (d := d + 1) (bc := 0) (bs := 0) (c_MR_word_e hst (maS_M hM (4 * W.1) ns) (maS_t (c := 4 * W.1) (ns := ns) htf) hB hn (-1) bk op a (by omega) hw5018) vv_X11_word dX11_readStep_1 wg_1433 ((maS_M hM (4 * W.1) ns).K0) rfl rfl rfl rfl (by omega) (Nat.le_of_ble_eq_true rfl) (Nat.le_of_ble_eq_true rfl) (Nat.le_of_ble_eq_true rfl) ?_
      refine ww_sti_n (lv2 := [.ref m, .int (nI 4153), UU, UU]) dX11_readStep_4 rfl rfl (by decide) rfl ?_
      refine ww_iload_n dX11_readStep_5 rfl rfl ?_
      refine ww_ldcS (i := 17) dX11_readStep_6 rfl ?_
      refine ww_cSr (M := m_X11_readStep) (pc := 8) (v := .int (nI 4153)) (h1 := mrS (maS h m (4 * W.1) ns) m n (sk T n a) (-1) bk op) (st := [.int (nI 4153)]) (d := d + 1) (bc := 0) (bs := 0) (c_of_17 hst (mrS (maS h m (4 * W.1) ns) m n (sk T n a) (-1) bk op)) vv_X11_of dX11_readStep_8 wg_1441 rfl rfl rfl (by omega) (Nat.le_of_ble_eq_true rfl) (Nat.le_of_ble_eq_true rfl) (Nat.le_of_ble_eq_true rfl) ?_
      refine ww_icmp_neN (tgt := 29) dX11_readStep_11 (by decide) (by omega) (by omega) (fun c11 => ?_) (fun c11 => ?_)
      · exact absurd c11 (by decide)
      · refine ww_aload_n dX11_readStep_14 rfl rfl ?_
        refine ww_cV0 (M := m_X11_readStep) (pc := 15) (h1 := mrS (maS h m (4 * W.1) ns) m n a5018 (-1) bk op) (st := []) (d := d + 1) (bc := 0) (bs := 0) (c_MR_pass_e hst (maS_M hM (4 * W.1) ns) (maS_t (c := 4 * W.1) (ns := ns) htf) hB hn (-1) bk op (sk T n a) (by omega) (by rw [hz5018])) vv_X11_pass dX11_readStep_15 wg_1452 ((maS_M hM (4 * W.1) ns).K0) rfl rfl rfl rfl (by omega) (Nat.le_of_ble_eq_true rfl) (Nat.le_of_ble_eq_true rfl) (Nat.le_of_ble_eq_true rfl) ?_
        refine ww_aload_n dX11_readStep_18 rfl rfl ?_
        refine ww_iconst (v := nI 3) dX11_readStep_19 (by decide) ?_
        refine ww_iconst (v := nI 0) dX11_readStep_20 (by decide) ?_
        refine ww_iconst (v := nI 0) dX11_readStep_21 (by decide) ?_
        refine ww_iconst (v := nI 0) dX11_readStep_22 (by decide) ?_
        refine ww_cVq0 (M := m_X11_readStep) (pc := 23) (st := []) (d := d + 1) (bc := 0) (bs := 0) (cc_post (fun r h9 hp => (show RQ none (fun h9 => h9 = _) r h9 from hp)) (c_Ma_tell hst hM htf hB hn hnp hn6 (4 * W.1) (by omega) ns a5018 bk op 3 0 0 0)) vv_X11_tellsStep dX11_readStep_23 wg_1528 ((maS_M hM (4 * W.1) ns).K0) rfl rfl rfl rfl (by omega) (Nat.le_of_ble_eq_true rfl) (Nat.le_of_ble_eq_true rfl) (Nat.le_of_ble_eq_true rfl) (fun ho5030 ha5030 => ?_)
        subst ha5030
        have hs5030 := (RsR.new (k := 3) (a := 0) (b := 0) (c := 0) (x := nI 0) (y := nI 0) (z := nI 0) hrs (by decide) (fun e => absurd e (by decide)) (fun e => absurd e (by decide)) (fun e => absurd e (by decide)) (fun e => absurd e (by decide)))
        have he5030 : (aA 3 0 0 0 W).1 = W.1 + 1 := rfl
        refine ww_hp (h2 := mrS (maS h m (4 * (W.1 + 1)) (tl4 ns (4 * W.1) (nI 3) (nI 0) (nI 0) (nI 0))) m n a5018 (-1) bk op) (by rw [show 4 * (W.1 + 1) = 4 * W.1 + 4 by omega]) ?_
        refine ww_goto (tgt := 272) dX11_readStep_26 (by decide) ?_
        refine ww_fg (lv2 := [.ref m, UU, UU, UU]) ⟨Or.inr rfl, Or.inl rfl, Or.inl rfl, Or.inl rfl, trivial⟩ ?_
        exact l_Ma_tail hst hM htf hB hn hnp hn6 (by omega) bk op (r := stS np (some (slS (spS np inner T n) T n 38)) T n a W) (by unfold stS; rw [hr5018, bS_r, if_neg (by decide), if_neg (by decide), if_neg (by decide), if_pos rfl]; exact ⟨_, hs5030, rfl⟩) hbb
    · have hw5018 : wdA T n a = 1279278 := by
        obtain ⟨i, hi, hw⟩ := wM_r (by omega) wWork_x (by decide) hr5018
        have e := Option.some.inj (show some 20 = some i from hi)
        rw [← e] at hw
        exact hw.trans (by decide +kernel)
      refine ww_cVr (M := m_X11_readStep) (pc := 1) (v := .int (nI 1279278)) (h1 := mrS (maS h m (4 * W.1) ns) m n (sk T n a) (-1) bk op) (st := []) (d := d + 1) (bc := 0) (bs := 0) (c_MR_word_e hst (maS_M hM (4 * W.1) ns) (maS_t (c := 4 * W.1) (ns := ns) htf) hB hn (-1) bk op a (by omega) hw5018) vv_X11_word dX11_readStep_1 wg_1433 ((maS_M hM (4 * W.1) ns).K0) rfl rfl rfl rfl (by omega) (Nat.le_of_ble_eq_true rfl) (Nat.le_of_ble_eq_true rfl) (Nat.le_of_ble_eq_true rfl) ?_
      refine ww_sti_n (lv2 := [.ref m, .int (nI 1279278), UU, UU]) dX11_readStep_4 rfl rfl (by decide) rfl ?_
      refine ww_iload_n dX11_readStep_5 rfl rfl ?_
      refine ww_ldcS (i := 17) dX11_readStep_6 rfl ?_
      refine ww_cSr (M := m_X11_readStep) (pc := 8) (v := .int (nI 4153)) (h1 := mrS (maS h m (4 * W.1) ns) m n (sk T n a) (-1) bk op) (st := [.int (nI 1279278)]) (d := d + 1) (bc := 0) (bs := 0) (c_of_17 hst (mrS (maS h m (4 * W.1) ns) m n (sk T n a) (-1) bk op)) vv_X11_of dX11_readStep_8 wg_1441 rfl rfl rfl (by omega) (Nat.le_of_ble_eq_true rfl) (Nat.le_of_ble_eq_true rfl) (Nat.le_of_ble_eq_true rfl) ?_
      refine ww_icmp_neN (tgt := 29) dX11_readStep_11 (by decide) (by omega) (by omega) (fun c11 => ?_) (fun c11 => ?_)
      · refine ww_iload_n dX11_readStep_29 rfl rfl ?_
        refine ww_ldcwS (i := 18) dX11_readStep_30 rfl ?_
        refine ww_cSr (M := m_X11_readStep) (pc := 33) (v := .int (nI 22117)) (h1 := mrS (maS h m (4 * W.1) ns) m n (sk T n a) (-1) bk op) (st := [.int (nI 1279278)]) (d := d + 1) (bc := 0) (bs := 0) (c_of_18 hst (mrS (maS h m (4 * W.1) ns) m n (sk T n a) (-1) bk op)) vv_X11_of dX11_readStep_33 wg_1441 rfl rfl rfl (by omega) (Nat.le_of_ble_eq_true rfl) (Nat.le_of_ble_eq_true rfl) (Nat.le_of_ble_eq_true rfl) ?_
        refine ww_icmp_neN (tgt := 76) dX11_readStep_36 (by decide) (by omega) (by omega) (fun c36 => ?_) (fun c36 => ?_)
        · refine ww_iload_n dX11_readStep_76 rfl rfl ?_
          refine ww_ldcwS (i := 19) dX11_readStep_77 rfl ?_
          refine ww_cSr (M := m_X11_readStep) (pc := 80) (v := .int (nI 628108)) (h1 := mrS (maS h m (4 * W.1) ns) m n (sk T n a) (-1) bk op) (st := [.int (nI 1279278)]) (d := d + 1) (bc := 0) (bs := 0) (c_of_19 hst (mrS (maS h m (4 * W.1) ns) m n (sk T n a) (-1) bk op)) vv_X11_of dX11_readStep_80 wg_1441 rfl rfl rfl (by omega) (Nat.le_of_ble_eq_true rfl) (Nat.le_of_ble_eq_true rfl) (Nat.le_of_ble_eq_true rfl) ?_
          refine ww_icmp_neN (tgt := 125) dX11_readStep_83 (by decide) (by omega) (by omega) (fun c83 => ?_) (fun c83 => ?_)
          · refine ww_iload_n dX11_readStep_125 rfl rfl ?_
            refine ww_ldcS (i := 12) dX11_readStep_126 rfl ?_
            refine ww_cSr (M := m_X11_readStep) (pc := 128) (v := .int (nI 595412)) (h1 := mrS (maS h m (4 * W.1) ns) m n (sk T n a) (-1) bk op) (st := [.int (nI 1279278)]) (d := d + 1) (bc := 0) (bs := 0) (c_of_12 hst (mrS (maS h m (4 * W.1) ns) m n (sk T n a) (-1) bk op)) vv_X11_of dX11_readStep_128 wg_1441 rfl rfl rfl (by omega) (Nat.le_of_ble_eq_true rfl) (Nat.le_of_ble_eq_true rfl) (Nat.le_of_ble_eq_true rfl) ?_
            refine ww_icmp_neN (tgt := 160) dX11_readStep_131 (by decide) (by omega) (by omega) (fun c131 => ?_) (fun c131 => ?_)
            · refine ww_iload_n dX11_readStep_160 rfl rfl ?_
              refine ww_ldcwS (i := 20) dX11_readStep_161 rfl ?_
              refine ww_cSr (M := m_X11_readStep) (pc := 164) (v := .int (nI 1279278)) (h1 := mrS (maS h m (4 * W.1) ns) m n (sk T n a) (-1) bk op) (st := [.int (nI 1279278)]) (d := d + 1) (bc := 0) (bs := 0) (c_of_20 hst (mrS (maS h m (4 * W.1) ns) m n (sk T n a) (-1) bk op)) vv_X11_of dX11_readStep_164 wg_1441 rfl rfl rfl (by omega) (Nat.le_of_ble_eq_true rfl) (Nat.le_of_ble_eq_true rfl) (Nat.le_of_ble_eq_true rfl) ?_
              refine ww_icmp_neN (tgt := 263) dX11_readStep_167 (by decide) (by omega) (by omega) (fun c167 => ?_) (fun c167 => ?_)
              · exact absurd c167 (by decide)
              · refine ww_aload_n dX11_readStep_170 rfl rfl ?_
                refine ww_iconst (v := nI 5) dX11_readStep_171 (by decide) ?_
                have hb5 := wWork_5 hr5018
                refine ww_cV0 (M := m_X11_readStep) (pc := 172) (h1 := mrS (maS h m (4 * W.1) ns) m n a5018 (-1) bk (op + 1)) (st := []) (d := d + 1) (bc := 0) (bs := 0) ((show CC l Z m_X11_opensOne 1 0 0 [.ref m, .int (nI 5)] (mrS (maS h m (4 * W.1) ns) m n (sk T n a) (-1) bk op) (RT none (mrS (maS h m (4 * W.1) ns) m n a5018 (-1) bk (op + 1))) from (by rw [hb5]; exact c_MR_opens_t hst (maS_M hM (4 * W.1) ns) (maS_t (c := 4 * W.1) (ns := ns) htf) hB hn (sk T n a) bk op (by omega) 5))) vv_X11_opensOne dX11_readStep_172 wg_1491 ((maS_M hM (4 * W.1) ns).K0) rfl rfl rfl rfl (by omega) (Nat.le_of_ble_eq_true rfl) (Nat.le_of_ble_eq_true rfl) (Nat.le_of_ble_eq_true rfl) ?_
                refine ww_aload_n dX11_readStep_175 rfl rfl ?_
                refine ww_iconst (v := nI 0) dX11_readStep_176 (by decide) ?_
                refine ww_bipush (v := nI 60) dX11_readStep_177 (by decide) ?_
                rcases hr5031 : figS T n 0 61 a5018 with ⟨k5031, q5031⟩ | ⟨a5031, v5031⟩
                · have hf5031 := (figS_l hr5031).1
                  have hq5031 := figS_lq (by omega) hr5031
                  refine ww_cVq (M := m_X11_readStep) (pc := 179) (v := .int (nI 0)) (st := []) (d := d + 1) (bc := 0) (bs := 0) (c_MR_num_l hst (maS_M hM (4 * W.1) ns) (maS_t (c := 4 * W.1) (ns := ns) htf) hB hn a5018 bk (op + 1) (by omega) 0 61 (nI 60) (by omega) (by omega) (hi_c 60 (by decide)) hr5031) vv_X11_readNumber dX11_readStep_179 wg_1460 ((maS_M hM (4 * W.1) ns).K0) rfl rfl rfl rfl (by omega) (Nat.le_of_ble_eq_true rfl) (Nat.le_of_ble_eq_true rfl) (Nat.le_of_ble_eq_true rfl) (fun hx5031h qx5031 => ?_)
                  obtain ⟨x5031, hx5031, rfl⟩ := qx5031
                  refine ww_sti_n (lv2 := [.ref m, .int (nI 1279278), .int (nI 0), UU]) dX11_readStep_182 rfl rfl (by decide) rfl ?_
                  refine ww_aload_n dX11_readStep_183 rfl rfl ?_
                  refine ww_bipush (v := nI 91) dX11_readStep_184 (by decide) ?_
                  refine ww_cV0 (M := m_X11_readStep) (pc := 186) (h1 := mrS (maS h m (4 * W.1) ns) m n x5031 (nI q5031) (nI k5031) (op + 1)) (st := []) (d := d + 1) (bc := 0) (bs := 0) (c_MR_sign_f hst (maS_M hM (4 * W.1) ns) (maS_t (c := 4 * W.1) (ns := ns) htf) hB hn x5031 (nI k5031) (op + 1) q5031 (by omega) 91) vv_X11_sign dX11_readStep_186 wg_1467 ((maS_M hM (4 * W.1) ns).K0) rfl rfl rfl rfl (by omega) (Nat.le_of_ble_eq_true rfl) (Nat.le_of_ble_eq_true rfl) (Nat.le_of_ble_eq_true rfl) ?_
                  refine ww_aload_n dX11_readStep_189 rfl rfl ?_
                  refine ww_get 27 dX11_readStep_190 ((maS_M hM (4 * W.1) ns).K0) rfl (by decide) inX11 wg_1267 (mrS_j _ _ _ _ _ (by decide) (maS_27 h m (4 * W.1) ns)) ?_
                  refine ww_sti_n (lv2 := [.ref m, .int (nI 1279278), .int (nI 0), .int (nI (4 * W.1))]) dX11_readStep_193 rfl rfl (by decide) rfl ?_
                  refine ww_aload_n dX11_readStep_194 rfl rfl ?_
                  refine ww_iconst (v := nI 4) dX11_readStep_195 (by decide) ?_
                  refine ww_iload_n dX11_readStep_196 rfl rfl ?_
                  refine ww_iconst (v := nI 0) dX11_readStep_197 (by decide) ?_
                  refine ww_iconst (v := nI 0) dX11_readStep_198 (by decide) ?_
                  refine ww_cV0 (M := m_X11_readStep) (pc := 199) (h1 := mrS (maS h m (4 * W.1) ns) m n x5031 (nI q5031) (nI k5031) (op + 1)) (st := []) (d := d + 1) (bc := 0) (bs := 0) (c_Ma_tell_f hst hM htf hB hn hnp hn6 (4 * W.1) ns x5031 (nI k5031) (op + 1) q5031 (by omega) (nI 4) (nI 0) (nI 0) (nI 0)) vv_X11_tellsStep dX11_readStep_199 wg_1528 ((maS_M hM (4 * W.1) ns).K0) rfl rfl rfl rfl (by omega) (Nat.le_of_ble_eq_true rfl) (Nat.le_of_ble_eq_true rfl) (Nat.le_of_ble_eq_true rfl) ?_
                  refine ww_aload_n dX11_readStep_202 rfl rfl ?_
                  refine ww_cVr (M := m_X11_readStep) (pc := 203) (v := .int (nI 0)) (h1 := mrS (maS h m (4 * W.1) ns) m n x5031 (nI q5031) (nI k5031) (op + 1)) (st := []) (d := d + 1) (bc := 0) (bs := 0) (c_MR_fine_f hst (maS_M hM (4 * W.1) ns) (maS_t (c := 4 * W.1) (ns := ns) htf) hB hn x5031 (nI k5031) (op + 1) q5031 (by omega)) vv_X11_fine dX11_readStep_203 wg_1421 ((maS_M hM (4 * W.1) ns).K0) rfl rfl rfl rfl (by omega) (Nat.le_of_ble_eq_true rfl) (Nat.le_of_ble_eq_true rfl) (Nat.le_of_ble_eq_true rfl) ?_
                  refine ww_if_eqN (tgt := 225) dX11_readStep_206 (by decide) (by omega) (fun c206 => ?_) (fun c206 => ?_)
                  · refine ww_aload_n dX11_readStep_225 rfl rfl ?_
                    refine ww_bipush (v := nI 93) dX11_readStep_226 (by decide) ?_
                    refine ww_cV0 (M := m_X11_readStep) (pc := 228) (h1 := mrS (maS h m (4 * W.1) ns) m n x5031 (nI q5031) (nI k5031) (op + 1)) (st := []) (d := d + 1) (bc := 0) (bs := 0) (c_MR_sign_f hst (maS_M hM (4 * W.1) ns) (maS_t (c := 4 * W.1) (ns := ns) htf) hB hn x5031 (nI k5031) (op + 1) q5031 (by omega) 93) vv_X11_sign dX11_readStep_228 wg_1467 ((maS_M hM (4 * W.1) ns).K0) rfl rfl rfl rfl (by omega) (Nat.le_of_ble_eq_true rfl) (Nat.le_of_ble_eq_true rfl) (Nat.le_of_ble_eq_true rfl) ?_
                    refine ww_aload_n dX11_readStep_231 rfl rfl ?_
                    refine ww_dup dX11_readStep_232 rfl ?_
                    refine ww_get 7 dX11_readStep_233 ((maS_M hM (4 * W.1) ns).K0) rfl (by decide) inX11 wg_1247 (mrS_7 _ _ _ _ _ _ _) ?_
                    refine ww_iconst (v := nI 1) dX11_readStep_236 (by decide) ?_
                    refine ww_isubN dX11_readStep_237 (by omega) ?_
                    refine ww_pfI tyX11 7 dX11_readStep_238 ((maS_M hM (4 * W.1) ns).K0) rfl (by decide) inX11 tyX11_ok nmX11 wg_1247 rfl rfl ?_
                    refine ww_hp (h2 := mrS (maS h m (4 * W.1) ns) m n x5031 (nI q5031) (nI k5031) op) (mrS_s7 _ _ _ _ _ _ _ _) ?_
                    refine ww_aload_n dX11_readStep_241 rfl rfl ?_
                    refine ww_cVr (M := m_X11_readStep) (pc := 242) (v := .int (nI 0)) (h1 := mrS (maS h m (4 * W.1) ns) m n x5031 (nI q5031) (nI k5031) op) (st := []) (d := d + 1) (bc := 0) (bs := 0) (c_MR_fine_f hst (maS_M hM (4 * W.1) ns) (maS_t (c := 4 * W.1) (ns := ns) htf) hB hn x5031 (nI k5031) op q5031 (by omega)) vv_X11_fine dX11_readStep_242 wg_1421 ((maS_M hM (4 * W.1) ns).K0) rfl rfl rfl rfl (by omega) (Nat.le_of_ble_eq_true rfl) (Nat.le_of_ble_eq_true rfl) (Nat.le_of_ble_eq_true rfl) ?_
                    refine ww_if_eqN (tgt := 260) dX11_readStep_245 (by decide) (by omega) (fun c245 => ?_) (fun c245 => ?_)
                    · refine ww_goto (tgt := 272) dX11_readStep_260 (by decide) ?_
                      refine ww_fg (lv2 := [.ref m, UU, UU, UU]) ⟨Or.inr rfl, Or.inl rfl, Or.inl rfl, Or.inl rfl, trivial⟩ ?_
                      exact l_Ma_tail hst hM htf hB hn hnp hn6 (by omega) bk op (r := stS np (some (slS (spS np inner T n) T n 38)) T n a W) (by unfold stS; rw [hr5018, bS_r, if_neg (by decide), if_neg (by decide), if_neg (by decide), if_neg (by decide), agS_s, hr5031, bS_l]; exact ⟨_, _, _, (by omega), rfl⟩) hbb
                    · exact absurd c245 (by decide)
                  · exact absurd c206 (by decide)
                · have hf5031 := figS_r (by omega) hr5031
                  have hg5031 := sk_ge (T := T) (show a5018 ≤ n by omega)
                  refine ww_cVr (M := m_X11_readStep) (pc := 179) (v := .int (nI v5031)) (h1 := mrS (maS h m (4 * W.1) ns) m n a5031 (-1) bk (op + 1)) (st := []) (d := d + 1) (bc := 0) (bs := 0) (c_MR_num_r hst (maS_M hM (4 * W.1) ns) (maS_t (c := 4 * W.1) (ns := ns) htf) hB hn a5018 bk (op + 1) (by omega) 0 61 (nI 60) (by omega) (by omega) (hi_c 60 (by decide)) hr5031) vv_X11_readNumber dX11_readStep_179 wg_1460 ((maS_M hM (4 * W.1) ns).K0) rfl rfl rfl rfl (by omega) (Nat.le_of_ble_eq_true rfl) (Nat.le_of_ble_eq_true rfl) (Nat.le_of_ble_eq_true rfl) ?_
                  refine ww_sti_n (lv2 := [.ref m, .int (nI 1279278), .int (nI v5031), UU]) dX11_readStep_182 rfl rfl (by decide) rfl ?_
                  refine ww_aload_n dX11_readStep_183 rfl rfl ?_
                  refine ww_bipush (v := nI 91) dX11_readStep_184 (by decide) ?_
                  rcases hr5032 : sgnS T n 91 a5031 with ⟨k5032, q5032⟩ | ⟨a5032, u5032⟩
                  · have hf5032 := (sgnS_l hr5032).1
                    have hq5032 := sgnS_lq (by omega) hr5032
                    have hsl5032 := sk_le (T := T) (show a5031 ≤ n by omega)
                    refine ww_cV0 (M := m_X11_readStep) (pc := 186) (h1 := mrS (maS h m (4 * W.1) ns) m n (sk T n a5031) (nI q5032) (nI k5032) (op + 1)) (st := []) (d := d + 1) (bc := 0) (bs := 0) (c_MR_sign_l hst (maS_M hM (4 * W.1) ns) (maS_t (c := 4 * W.1) (ns := ns) htf) hB hn a5031 bk (op + 1) (by omega) 91 (by omega) (by omega) hr5032) vv_X11_sign dX11_readStep_186 wg_1467 ((maS_M hM (4 * W.1) ns).K0) rfl rfl rfl rfl (by omega) (Nat.le_of_ble_eq_true rfl) (Nat.le_of_ble_eq_true rfl) (Nat.le_of_ble_eq_true rfl) ?_
                    refine ww_aload_n dX11_readStep_189 rfl rfl ?_
                    refine ww_get 27 dX11_readStep_190 ((maS_M hM (4 * W.1) ns).K0) rfl (by decide) inX11 wg_1267 (mrS_j _ _ _ _ _ (by decide) (maS_27 h m (4 * W.1) ns)) ?_
                    refine ww_sti_n (lv2 := [.ref m, .int (nI 1279278), .int (nI v5031), .int (nI (4 * W.1))]) dX11_readStep_193 rfl rfl (by decide) rfl ?_
                    refine ww_aload_n dX11_readStep_194 rfl rfl ?_
                    refine ww_iconst (v := nI 4) dX11_readStep_195 (by decide) ?_
                    refine ww_iload_n dX11_readStep_196 rfl rfl ?_
                    refine ww_iconst (v := nI 0) dX11_readStep_197 (by decide) ?_
                    refine ww_iconst (v := nI 0) dX11_readStep_198 (by decide) ?_
                    refine ww_cV0 (M := m_X11_readStep) (pc := 199) (h1 := mrS (maS h m (4 * W.1) ns) m n (sk T n a5031) (nI q5032) (nI k5032) (op + 1)) (st := []) (d := d + 1) (bc := 0) (bs := 0) (c_Ma_tell_f hst hM htf hB hn hnp hn6 (4 * W.1) ns (sk T n a5031) (nI k5032) (op + 1) q5032 (by omega) (nI 4) (nI v5031) (nI 0) (nI 0)) vv_X11_tellsStep dX11_readStep_199 wg_1528 ((maS_M hM (4 * W.1) ns).K0) rfl rfl rfl rfl (by omega) (Nat.le_of_ble_eq_true rfl) (Nat.le_of_ble_eq_true rfl) (Nat.le_of_ble_eq_true rfl) ?_
                    refine ww_aload_n dX11_readStep_202 rfl rfl ?_
                    refine ww_cVr (M := m_X11_readStep) (pc := 203) (v := .int (nI 0)) (h1 := mrS (maS h m (4 * W.1) ns) m n (sk T n a5031) (nI q5032) (nI k5032) (op + 1)) (st := []) (d := d + 1) (bc := 0) (bs := 0) (c_MR_fine_f hst (maS_M hM (4 * W.1) ns) (maS_t (c := 4 * W.1) (ns := ns) htf) hB hn (sk T n a5031) (nI k5032) (op + 1) q5032 (by omega)) vv_X11_fine dX11_readStep_203 wg_1421 ((maS_M hM (4 * W.1) ns).K0) rfl rfl rfl rfl (by omega) (Nat.le_of_ble_eq_true rfl) (Nat.le_of_ble_eq_true rfl) (Nat.le_of_ble_eq_true rfl) ?_
                    refine ww_if_eqN (tgt := 225) dX11_readStep_206 (by decide) (by omega) (fun c206 => ?_) (fun c206 => ?_)
                    · refine ww_aload_n dX11_readStep_225 rfl rfl ?_
                      refine ww_bipush (v := nI 93) dX11_readStep_226 (by decide) ?_
                      refine ww_cV0 (M := m_X11_readStep) (pc := 228) (h1 := mrS (maS h m (4 * W.1) ns) m n (sk T n a5031) (nI q5032) (nI k5032) (op + 1)) (st := []) (d := d + 1) (bc := 0) (bs := 0) (c_MR_sign_f hst (maS_M hM (4 * W.1) ns) (maS_t (c := 4 * W.1) (ns := ns) htf) hB hn (sk T n a5031) (nI k5032) (op + 1) q5032 (by omega) 93) vv_X11_sign dX11_readStep_228 wg_1467 ((maS_M hM (4 * W.1) ns).K0) rfl rfl rfl rfl (by omega) (Nat.le_of_ble_eq_true rfl) (Nat.le_of_ble_eq_true rfl) (Nat.le_of_ble_eq_true rfl) ?_
                      refine ww_aload_n dX11_readStep_231 rfl rfl ?_
                      refine ww_dup dX11_readStep_232 rfl ?_
                      refine ww_get 7 dX11_readStep_233 ((maS_M hM (4 * W.1) ns).K0) rfl (by decide) inX11 wg_1247 (mrS_7 _ _ _ _ _ _ _) ?_
                      refine ww_iconst (v := nI 1) dX11_readStep_236 (by decide) ?_
                      refine ww_isubN dX11_readStep_237 (by omega) ?_
                      refine ww_pfI tyX11 7 dX11_readStep_238 ((maS_M hM (4 * W.1) ns).K0) rfl (by decide) inX11 tyX11_ok nmX11 wg_1247 rfl rfl ?_
                      refine ww_hp (h2 := mrS (maS h m (4 * W.1) ns) m n (sk T n a5031) (nI q5032) (nI k5032) op) (mrS_s7 _ _ _ _ _ _ _ _) ?_
                      refine ww_aload_n dX11_readStep_241 rfl rfl ?_
                      refine ww_cVr (M := m_X11_readStep) (pc := 242) (v := .int (nI 0)) (h1 := mrS (maS h m (4 * W.1) ns) m n (sk T n a5031) (nI q5032) (nI k5032) op) (st := []) (d := d + 1) (bc := 0) (bs := 0) (c_MR_fine_f hst (maS_M hM (4 * W.1) ns) (maS_t (c := 4 * W.1) (ns := ns) htf) hB hn (sk T n a5031) (nI k5032) op q5032 (by omega)) vv_X11_fine dX11_readStep_242 wg_1421 ((maS_M hM (4 * W.1) ns).K0) rfl rfl rfl rfl (by omega) (Nat.le_of_ble_eq_true rfl) (Nat.le_of_ble_eq_true rfl) (Nat.le_of_ble_eq_true rfl) ?_
                      refine ww_if_eqN (tgt := 260) dX11_readStep_245 (by decide) (by omega) (fun c245 => ?_) (fun c245 => ?_)
                      · refine ww_goto (tgt := 272) dX11_readStep_260 (by decide) ?_
                        refine ww_fg (lv2 := [.ref m, UU, UU, UU]) ⟨Or.inr rfl, Or.inl rfl, Or.inl rfl, Or.inl rfl, trivial⟩ ?_
                        exact l_Ma_tail hst hM htf hB hn hnp hn6 (by omega) bk op (r := stS np (some (slS (spS np inner T n) T n 38)) T n a W) (by unfold stS; rw [hr5018, bS_r, if_neg (by decide), if_neg (by decide), if_neg (by decide), if_neg (by decide), agS_s, hr5031, bS_r, hr5032, bS_l]; exact ⟨_, _, _, (by omega), rfl⟩) hbb
                      · exact absurd c245 (by decide)
                    · exact absurd c206 (by decide)
                  · have hf5032 := sgnS_r hr5032
                    have hg5032 := sk_ge (T := T) (show a5031 ≤ n by omega)
                    refine ww_cV0 (M := m_X11_readStep) (pc := 186) (h1 := mrS (maS h m (4 * W.1) ns) m n a5032 (-1) bk (op + 1)) (st := []) (d := d + 1) (bc := 0) (bs := 0) (c_MR_sign_r hst (maS_M hM (4 * W.1) ns) (maS_t (c := 4 * W.1) (ns := ns) htf) hB hn a5031 bk (op + 1) (by omega) 91 (by omega) (by omega) hr5032) vv_X11_sign dX11_readStep_186 wg_1467 ((maS_M hM (4 * W.1) ns).K0) rfl rfl rfl rfl (by omega) (Nat.le_of_ble_eq_true rfl) (Nat.le_of_ble_eq_true rfl) (Nat.le_of_ble_eq_true rfl) ?_
                    refine ww_aload_n dX11_readStep_189 rfl rfl ?_
                    refine ww_get 27 dX11_readStep_190 ((maS_M hM (4 * W.1) ns).K0) rfl (by decide) inX11 wg_1267 (mrS_j _ _ _ _ _ (by decide) (maS_27 h m (4 * W.1) ns)) ?_
                    refine ww_sti_n (lv2 := [.ref m, .int (nI 1279278), .int (nI v5031), .int (nI (4 * W.1))]) dX11_readStep_193 rfl rfl (by decide) rfl ?_
                    refine ww_aload_n dX11_readStep_194 rfl rfl ?_
                    refine ww_iconst (v := nI 4) dX11_readStep_195 (by decide) ?_
                    refine ww_iload_n dX11_readStep_196 rfl rfl ?_
                    refine ww_iconst (v := nI 0) dX11_readStep_197 (by decide) ?_
                    refine ww_iconst (v := nI 0) dX11_readStep_198 (by decide) ?_
                    refine ww_cVq0 (M := m_X11_readStep) (pc := 199) (st := []) (d := d + 1) (bc := 0) (bs := 0) (cc_post (fun r h9 hp => (show RQ none (fun h9 => h9 = _) r h9 from hp)) (c_Ma_tell hst hM htf hB hn hnp hn6 (4 * W.1) (by omega) ns a5032 bk (op + 1) 4 v5031 0 0)) vv_X11_tellsStep dX11_readStep_199 wg_1528 ((maS_M hM (4 * W.1) ns).K0) rfl rfl rfl rfl (by omega) (Nat.le_of_ble_eq_true rfl) (Nat.le_of_ble_eq_true rfl) (Nat.le_of_ble_eq_true rfl) (fun ho5033 ha5033 => ?_)
                    subst ha5033
                    have hs5033 := (RsR.new (k := 4) (a := v5031) (b := 0) (c := 0) (x := nI v5031) (y := nI 0) (z := nI 0) hrs (by decide) (fun e => absurd e (by decide)) (fun e => absurd e (by decide)) (fun e => absurd e (by decide)) (fun _ => ⟨rfl, rfl⟩))
                    have he5033 : (aA 4 v5031 0 0 W).1 = W.1 + 1 := rfl
                    refine ww_hp (h2 := mrS (maS h m (4 * (W.1 + 1)) (tl4 ns (4 * W.1) (nI 4) (nI v5031) (nI 0) (nI 0))) m n a5032 (-1) bk (op + 1)) (by rw [show 4 * (W.1 + 1) = 4 * W.1 + 4 by omega]) ?_
                    refine ww_fg (lv2 := [.ref m, UU, .int (nI v5031), .int (nI (4 * W.1))]) ⟨Or.inr rfl, Or.inl rfl, Or.inr rfl, Or.inr rfl, trivial⟩ ?_
                    have hW4 : 4 * (aA 4 v5031 0 0 W).1 = 4 * (W.1 + 1) := by omega
                    refine ww_hp (h2 := mrS (maS h m (4 * (aA 4 v5031 0 0 W).1) (tl4 ns (4 * W.1) (nI 4) (nI v5031) (nI 0) (nI 0))) m n a5032 (-1) bk (op + 1)) (by rw [hW4]) ?_
                    refine l_Ma_in hst hM htf hB hn hnp hn6 hd bk (op + 1) hI hU v5031 (4 * W.1) 38 a5032 (aA 4 v5031 0 0 W) _ (by omega) (by omega) (by omega) hs5033 (fun a9 V ns9 e9 l9 T9 k9 s9 => ?_) (fun V a9 c9 ns9 e9 l9 => ?_) (fun k9 q9 a9 c9 ns9 e9 l9 x9 => ?_)
                    all_goals have hgo := slS_O (np := np) (T := T) (k := k) hI 38 a5032 (aA 4 v5031 0 0 W) (by omega)
                    · have hg9 := hgo.r e9
                      have hv9 : W.1 + 1 ≤ V.1 := WfJ_le _ _ _ hg9.2.2.2.2
                      have hk9 : V.2.1 W.1 = nI 4 := ((hg9.2.2.2.1 W.1 (Nat.zero_le _) (Nat.lt_succ_self _)).1).trans (aA_at 4 v5031 0 0 W).1
                      refine ww_aload_n dX11_readStep_225 rfl rfl ?_
                      refine ww_bipush (v := nI 93) dX11_readStep_226 (by decide) ?_
                      refine ww_cV0 (M := m_X11_readStep) (pc := 228) (h1 := mrS (maS h m (4 * V.1) ns9) m n (a9 + 1) (-1) bk (op + 1)) (st := []) (d := d + 1) (bc := 0) (bs := 0) (c_MR_sign_r hst (maS_M hM (4 * V.1) ns9) (maS_t (c := 4 * V.1) (ns := ns9) htf) hB hn a9 bk (op + 1) (by omega) 93 (by omega) (by omega) (sgn_93 k9 l9 T9)) vv_X11_sign dX11_readStep_228 wg_1467 ((maS_M hM (4 * V.1) ns9).K0) rfl rfl rfl rfl (by omega) (Nat.le_of_ble_eq_true rfl) (Nat.le_of_ble_eq_true rfl) (Nat.le_of_ble_eq_true rfl) ?_
                      refine ww_aload_n dX11_readStep_231 rfl rfl ?_
                      refine ww_dup dX11_readStep_232 rfl ?_
                      refine ww_get 7 dX11_readStep_233 ((maS_M hM (4 * V.1) ns9).K0) rfl (by decide) inX11 wg_1247 (mrS_7 _ _ _ _ _ _ _) ?_
                      refine ww_iconst (v := nI 1) dX11_readStep_236 (by decide) ?_
                      refine ww_isubN dX11_readStep_237 (by omega) ?_
                      refine ww_pfI tyX11 7 dX11_readStep_238 ((maS_M hM (4 * V.1) ns9).K0) rfl (by decide) inX11 tyX11_ok nmX11 wg_1247 rfl rfl ?_
                      refine ww_hp (h2 := mrS (maS h m (4 * V.1) ns9) m n (a9 + 1) (-1) bk op) (mrS_s7 _ _ _ _ _ _ _ _) ?_
                      refine ww_aload_n dX11_readStep_241 rfl rfl ?_
                      refine ww_cVr (M := m_X11_readStep) (pc := 242) (v := .int (nI 1)) (h1 := mrS (maS h m (4 * V.1) ns9) m n (a9 + 1) (-1) bk op) (st := []) (d := d + 1) (bc := 0) (bs := 0) (c_MR_fine_t hst (maS_M hM (4 * V.1) ns9) (maS_t (c := 4 * V.1) (ns := ns9) htf) hB hn (a9 + 1) bk op) vv_X11_fine dX11_readStep_242 wg_1421 ((maS_M hM (4 * V.1) ns9).K0) rfl rfl rfl rfl (by omega) (Nat.le_of_ble_eq_true rfl) (Nat.le_of_ble_eq_true rfl) (Nat.le_of_ble_eq_true rfl) ?_
                      refine ww_if_eqN (tgt := 260) dX11_readStep_245 (by decide) (by omega) (fun c245 => ?_) (fun c245 => ?_)
                      · exact absurd c245 (by decide)
                      · refine ww_aload_n dX11_readStep_248 rfl rfl ?_
                        refine ww_get 25 dX11_readStep_249 ((maS_M hM (4 * V.1) ns9).K0) rfl (by decide) inX11 wg_1265 (mrS_j _ _ _ _ _ (by decide) (maS_M hM (4 * V.1) ns9).F12) ?_
                        refine ww_iload_n dX11_readStep_252 rfl rfl ?_
                        refine ww_iconst (v := nI 2) dX11_readStep_253 (by decide) ?_
                        refine ww_iaddN dX11_readStep_254 ?_
                        refine ww_aload_n dX11_readStep_255 rfl rfl ?_
                        refine ww_get 27 dX11_readStep_256 ((maS_M hM (4 * V.1) ns9).K0) rfl (by decide) inX11 wg_1267 (mrS_j _ _ _ _ _ (by decide) (maS_27 h m (4 * V.1) ns9)) ?_
                        refine ww_iastF dX11_readStep_259 ((maS_M hM (4 * V.1) ns9).K12) (maS_12 h m (4 * V.1) ns9) (by omega) (by omega) ?_
                        refine ww_hp (h2 := mrS (maS h m (4 * V.1) (upd ns9 ((4 * W.1) + 2) (nI (4 * V.1)))) m n (a9 + 1) (-1) bk op) (ma_s12 _ _ _ _ _ _ _ _ _ _) ?_
                        refine ww_goto (tgt := 272) dX11_readStep_260 (by decide) ?_
                        refine ww_fg (lv2 := [.ref m, UU, UU, UU]) ⟨Or.inr rfl, Or.inl rfl, Or.inl rfl, Or.inl rfl, trivial⟩ ?_
                        exact l_Ma_tail hst hM htf hB hn hnp hn6 (by omega) bk op (r := stS np (some (slS (spS np inner T n) T n 38)) T n a W) (by unfold stS; rw [hr5018, bS_r, if_neg (by decide), if_neg (by decide), if_neg (by decide), if_neg (by decide), agS_s, hr5031, bS_r, hr5032, bS_r, e9, bS_r, (sgn_93 k9 l9 T9), bS_r]; exact ⟨_, (RsR.fin s9 (p := W.1) (by omega) hk9), rfl⟩) hbb
                    · refine ww_aload_n dX11_readStep_225 rfl rfl ?_
                      refine ww_bipush (v := nI 93) dX11_readStep_226 (by decide) ?_
                      refine ww_cV0 (M := m_X11_readStep) (pc := 228) (h1 := mrS (maS h m c9 ns9) m n a9 (nI n) (nI 1) (op + 1)) (st := []) (d := d + 1) (bc := 0) (bs := 0) (c_MR_sign_f hst (maS_M hM c9 ns9) (maS_t (c := c9) (ns := ns9) htf) hB hn a9 (nI 1) (op + 1) n (by omega) 93) vv_X11_sign dX11_readStep_228 wg_1467 ((maS_M hM c9 ns9).K0) rfl rfl rfl rfl (by omega) (Nat.le_of_ble_eq_true rfl) (Nat.le_of_ble_eq_true rfl) (Nat.le_of_ble_eq_true rfl) ?_
                      refine ww_aload_n dX11_readStep_231 rfl rfl ?_
                      refine ww_dup dX11_readStep_232 rfl ?_
                      refine ww_get 7 dX11_readStep_233 ((maS_M hM c9 ns9).K0) rfl (by decide) inX11 wg_1247 (mrS_7 _ _ _ _ _ _ _) ?_
                      refine ww_iconst (v := nI 1) dX11_readStep_236 (by decide) ?_
                      refine ww_isubN dX11_readStep_237 (by omega) ?_
                      refine ww_pfI tyX11 7 dX11_readStep_238 ((maS_M hM c9 ns9).K0) rfl (by decide) inX11 tyX11_ok nmX11 wg_1247 rfl rfl ?_
                      refine ww_hp (h2 := mrS (maS h m c9 ns9) m n a9 (nI n) (nI 1) op) (mrS_s7 _ _ _ _ _ _ _ _) ?_
                      refine ww_aload_n dX11_readStep_241 rfl rfl ?_
                      refine ww_cVr (M := m_X11_readStep) (pc := 242) (v := .int (nI 0)) (h1 := mrS (maS h m c9 ns9) m n a9 (nI n) (nI 1) op) (st := []) (d := d + 1) (bc := 0) (bs := 0) (c_MR_fine_f hst (maS_M hM c9 ns9) (maS_t (c := c9) (ns := ns9) htf) hB hn a9 (nI 1) op n (by omega)) vv_X11_fine dX11_readStep_242 wg_1421 ((maS_M hM c9 ns9).K0) rfl rfl rfl rfl (by omega) (Nat.le_of_ble_eq_true rfl) (Nat.le_of_ble_eq_true rfl) (Nat.le_of_ble_eq_true rfl) ?_
                      refine ww_if_eqN (tgt := 260) dX11_readStep_245 (by decide) (by omega) (fun c245 => ?_) (fun c245 => ?_)
                      · refine ww_goto (tgt := 272) dX11_readStep_260 (by decide) ?_
                        refine ww_fg (lv2 := [.ref m, UU, UU, UU]) ⟨Or.inr rfl, Or.inl rfl, Or.inl rfl, Or.inl rfl, trivial⟩ ?_
                        exact l_Ma_tail hst hM htf hB hn hnp hn6 (by omega) bk op (r := stS np (some (slS (spS np inner T n) T n 38)) T n a W) (by unfold stS; rw [hr5018, bS_r, if_neg (by decide), if_neg (by decide), if_neg (by decide), if_neg (by decide), agS_s, hr5031, bS_r, hr5032, bS_r, e9, bS_r, sgn_end, bS_l]; exact ⟨_, _, _, (by omega), rfl⟩) hbb
                      · exact absurd c245 (by decide)
                    · refine ww_aload_n dX11_readStep_225 rfl rfl ?_
                      refine ww_bipush (v := nI 93) dX11_readStep_226 (by decide) ?_
                      refine ww_cV0 (M := m_X11_readStep) (pc := 228) (h1 := mrS (maS h m c9 ns9) m n a9 (nI q9) (nI k9) (op + 1)) (st := []) (d := d + 1) (bc := 0) (bs := 0) (c_MR_sign_f hst (maS_M hM c9 ns9) (maS_t (c := c9) (ns := ns9) htf) hB hn a9 (nI k9) (op + 1) q9 (by omega) 93) vv_X11_sign dX11_readStep_228 wg_1467 ((maS_M hM c9 ns9).K0) rfl rfl rfl rfl (by omega) (Nat.le_of_ble_eq_true rfl) (Nat.le_of_ble_eq_true rfl) (Nat.le_of_ble_eq_true rfl) ?_
                      refine ww_aload_n dX11_readStep_231 rfl rfl ?_
                      refine ww_dup dX11_readStep_232 rfl ?_
                      refine ww_get 7 dX11_readStep_233 ((maS_M hM c9 ns9).K0) rfl (by decide) inX11 wg_1247 (mrS_7 _ _ _ _ _ _ _) ?_
                      refine ww_iconst (v := nI 1) dX11_readStep_236 (by decide) ?_
                      refine ww_isubN dX11_readStep_237 (by omega) ?_
                      refine ww_pfI tyX11 7 dX11_readStep_238 ((maS_M hM c9 ns9).K0) rfl (by decide) inX11 tyX11_ok nmX11 wg_1247 rfl rfl ?_
                      refine ww_hp (h2 := mrS (maS h m c9 ns9) m n a9 (nI q9) (nI k9) op) (mrS_s7 _ _ _ _ _ _ _ _) ?_
                      refine ww_aload_n dX11_readStep_241 rfl rfl ?_
                      refine ww_cVr (M := m_X11_readStep) (pc := 242) (v := .int (nI 0)) (h1 := mrS (maS h m c9 ns9) m n a9 (nI q9) (nI k9) op) (st := []) (d := d + 1) (bc := 0) (bs := 0) (c_MR_fine_f hst (maS_M hM c9 ns9) (maS_t (c := c9) (ns := ns9) htf) hB hn a9 (nI k9) op q9 (by omega)) vv_X11_fine dX11_readStep_242 wg_1421 ((maS_M hM c9 ns9).K0) rfl rfl rfl rfl (by omega) (Nat.le_of_ble_eq_true rfl) (Nat.le_of_ble_eq_true rfl) (Nat.le_of_ble_eq_true rfl) ?_
                      refine ww_if_eqN (tgt := 260) dX11_readStep_245 (by decide) (by omega) (fun c245 => ?_) (fun c245 => ?_)
                      · refine ww_goto (tgt := 272) dX11_readStep_260 (by decide) ?_
                        refine ww_fg (lv2 := [.ref m, UU, UU, UU]) ⟨Or.inr rfl, Or.inl rfl, Or.inl rfl, Or.inl rfl, trivial⟩ ?_
                        exact l_Ma_tail hst hM htf hB hn hnp hn6 (by omega) bk op (r := stS np (some (slS (spS np inner T n) T n 38)) T n a W) (by unfold stS; rw [hr5018, bS_r, if_neg (by decide), if_neg (by decide), if_neg (by decide), if_neg (by decide), agS_s, hr5031, bS_r, hr5032, bS_r, e9, bS_l]; exact ⟨_, _, _, (by omega), rfl⟩) hbb
                      · exact absurd c245 (by decide)
            · exact absurd c131 (by decide)
          · exact absurd c83 (by decide)
        · exact absurd c36 (by decide)
      · exact absurd c11 (by decide)
