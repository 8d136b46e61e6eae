/-! ===== the reference reads the law ===== -/
def mwS (h : PH) (m : Nat) (W : LWt) : PH := hp_sF (hp_sI (hp_sI h (m + 6) W.2.1) (m + 7) W.2.2) m 22 (.int (nI W.1))
theorem mwS_F (h : PH) (m : Nat) (W : LWt) (x j : Nat) : hp_F (mwS h m W) x j = if x = m ∧ j = 22 then .int (nI W.1) else hp_F h x j := rfl
theorem mwS_22 (h : PH) (m : Nat) (W : LWt) : hp_F (mwS h m W) m 22 = .int (nI W.1) := by rw [mwS_F, if_pos ⟨rfl, rfl⟩]
theorem mwS_I (h : PH) (m : Nat) (W : LWt) (x : Nat) : hp_I (mwS h m W) x = if x = m + 7 then W.2.2 else if x = m + 6 then W.2.1 else hp_I h x := rfl
theorem mwS_6 (h : PH) (m : Nat) (W : LWt) : hp_I (mwS h m W) (m + 6) = W.2.1 := by rw [mwS_I, if_neg (by omega), if_pos rfl]
theorem mwS_7 (h : PH) (m : Nat) (W : LWt) : hp_I (mwS h m W) (m + 7) = W.2.2 := by rw [mwS_I, if_pos rfl]
theorem mwS_M {h : PH} {m : Nat} (hM : ModS h m) (W : LWt) : ModS (mwS h m W) m := by
  unfold mwS
  exact ((hM.sI).sI).sF (by decide)
theorem mwS_t {h : PH} {m : Nat} {W : LWt} {tf : Nat → Int32} (htf : hp_I h (m + 2) = tf) : hp_I (mwS h m W) (m + 2) = tf := by rw [mwS_I, if_neg (by omega), if_neg (by omega)]; exact htf
theorem mw_s6 (h : PH) (m : Nat) (W : LWt) (n a : Nat) (bd bk : Int32) (op : Nat) (g : Nat → Int32) : hp_sI (mrS (mwS h m W) m n a bd bk op) (m + 6) g = mrS (mwS h m (W.1, g, W.2.2)) m n a bd bk op := by
  refine hp_ext rfl (fun _ => rfl) (fun _ _ => rfl) (fun x => ?_) (fun _ => rfl)
  show (if x = m + 6 then g else hp_I (mwS h m W) x) = hp_I (mwS h m (W.1, g, W.2.2)) x
  rw [mwS_I, mwS_I]
  by_cases e : x = m + 6
  · rw [if_pos e, if_neg (by omega), if_pos e]
  · rw [if_neg e, if_neg e, if_neg e]
theorem mw_s7 (h : PH) (m : Nat) (W : LWt) (n a : Nat) (bd bk : Int32) (op : Nat) (g : Nat → Int32) : hp_sI (mrS (mwS h m W) m n a bd bk op) (m + 7) g = mrS (mwS h m (W.1, W.2.1, g)) m n a bd bk op := by
  refine hp_ext rfl (fun _ => rfl) (fun _ _ => rfl) (fun x => ?_) (fun _ => rfl)
  show (if x = m + 7 then g else hp_I (mwS h m W) x) = hp_I (mwS h m (W.1, W.2.1, g)) x
  rw [mwS_I, mwS_I]
  by_cases e : x = m + 7
  · rw [if_pos e, if_pos e]
  · rw [if_neg e, if_neg e, if_neg e]
theorem mw_s22 (h : PH) (m : Nat) (W : LWt) (n a : Nat) (bd bk : Int32) (op v : Nat) : hp_sF (mrS (mwS h m W) m n a bd bk op) m 22 (.int (nI v)) = mrS (mwS h m (v, W.2.1, W.2.2)) m n a bd bk op := by
  refine hp_ext rfl (fun _ => rfl) (fun x j => ?_) (fun _ => rfl) (fun _ => rfl)
  show (if x = m ∧ j = 22 then _ else hp_F (mrS (mwS h m W) m n a bd bk op) x j) = _
  rw [mrS_F, mrS_F, mwS_F, mwS_F]
  by_cases e : x = m ∧ j = 22
  · rw [if_pos e, if_neg (by omega), if_neg (by omega), if_neg (by omega), if_neg (by omega), if_neg (by omega), if_pos e]
  · rw [if_neg e, if_neg e, if_neg e]
def MwR (L W : LWt) : Prop := W.1 = L.1 ∧ ∀ i, i < L.1 → (∀ k, k ≤ 8 → L.2.1 i = nI k → W.2.1 i = nI (trN k)) ∧ W.2.2 i = L.2.2 i
theorem MwR.e {L W : LWt} (h : MwR L W) {k : Nat} (hk : k ≤ 8) (v : Nat) : MwR (eL k v L) (eL (trN k) v W) := by
  obtain ⟨h1, h2⟩ := h
  refine ⟨by show W.1 + 1 = L.1 + 1; omega, fun i hi => ?_⟩
  have hi2 : i < L.1 + 1 := hi
  show (∀ q, q ≤ 8 → upd L.2.1 L.1 (nI k) i = nI q → upd W.2.1 W.1 (nI (trN k)) i = nI (trN q)) ∧ upd W.2.2 W.1 (nI v) i = upd L.2.2 L.1 (nI v) i
  rw [h1]
  by_cases e : i = L.1
  · rw [e, pk_us, pk_us, pk_us, pk_us]
    refine ⟨fun q hq e2 => ?_, rfl⟩
    rw [(nI_eq (by omega) (by omega)).mp e2]
  · rw [pk_un e, pk_un e, pk_un e, pk_un e]
    exact h2 i (by omega)
def MwO (h : PH) (m n : Nat) (bk : Int32) (op : Nat) (r : PR LWt) (h9 : PH) : Prop := match r with
  | .inl e => ∃ (a : Nat) (W : LWt), a ≤ n ∧ h9 = mrS (mwS h m W) m n a (nI e.2) (nI e.1) op
  | .inr x => ∃ W : LWt, MwR x.2 W ∧ h9 = mrS (mwS h m W) m n x.1 (-1) bk op
theorem wr_least {T : Nat → Nat} {n a b : Nat} (h : wrdS wLaw T n a = .inr (b, 7)) : b = sk T n a + 5 := by
  obtain ⟨-, -, w, h2, h3⟩ := fdW_k wLaw 0 7 (wrdS_r h).2
  have e := Option.some.inj (show some [108, 101, 97, 115, 116] = some w from h2)
  rw [eqW_le h3, ← e]; rfl
theorem wr_most {T : Nat → Nat} {n a b : Nat} (h : wrdS wLaw T n a = .inr (b, 8)) : b = sk T n a + 4 := by
  obtain ⟨-, -, w, h2, h3⟩ := fdW_k wLaw 0 8 (wrdS_r h).2
  have e := Option.some.inj (show some [109, 111, 115, 116] = some w from h2)
  rw [eqW_le h3, ← e]; rfl
section MRI
variable {l : Launch} {Z : EE} (hst : l.stackTraces = false) {h : PH} {m : Nat} (hM : ModS h m) {tf : Nat → Int32} (htf : hp_I h (m + 2) = tf) {T : Nat → Nat} (hB : BT tf T) {n : Nat} (hn : n ≤ 600)
theorem c_MR_here_t (hst : l.stackTraces = false) (hM : ModS h m) (htf : hp_I h (m + 2) = tf) (hB : BT tf T) (hn : n ≤ 600) (bd bk : Int32) (op a : Nat) (ha : a ≤ n) (hl : sk T n a < n) : CC l Z m_X11_here 0 0 0 [.ref m] (mrS h m n a bd bk op) (RT (some (.int (nI (T (sk T n a))))) (mrS h m n (sk T n a) bd bk op)) := by
  have h9 := c_MR_here (Z := Z) hst hM htf hB hn bd bk op a ha
  rw [heI_in hl] at h9
  exact h9
theorem c_MR_here_f (hst : l.stackTraces = false) (hM : ModS h m) (htf : hp_I h (m + 2) = tf) (hB : BT tf T) (hn : n ≤ 600) (bd bk : Int32) (op a : Nat) (ha : a ≤ n) (hl : ¬ sk T n a < n) : CC l Z m_X11_here 0 0 0 [.ref m] (mrS h m n a bd bk op) (RT (some (.int (nI 0))) (mrS h m n n bd bk op)) := by
  have h9 := c_MR_here (Z := Z) hst hM htf hB hn bd bk op a ha
  have h8 := sk_le (T := T) ha
  rw [heI_out hl, show sk T n a = n by omega] at h9
  exact h9
theorem c_MR_here_i (hst : l.stackTraces = false) (hM : ModS h m) (htf : hp_I h (m + 2) = tf) (hB : BT tf T) (hn : n ≤ 600) (bd bk : Int32) (op a : Nat) (ha : a ≤ n) (hl : sk T n a < n) : CC l Z m_X11_here 0 0 0 [.ref m] (mrS h m n (sk T n a) bd bk op) (RT (some (.int (nI (T (sk T n a))))) (mrS h m n (sk T n a) bd bk op)) := by
  have h9 := c_MR_here_t (Z := Z) hst hM htf hB hn bd bk op (sk T n a) (sk_le ha) (by rw [sk_id ha]; exact hl)
  rw [sk_id ha] at h9
  exact h9
theorem c_MR_here_n (hst : l.stackTraces = false) (hM : ModS h m) (htf : hp_I h (m + 2) = tf) (hB : BT tf T) (hn : n ≤ 600) (bd bk : Int32) (op : Nat) : CC l Z m_X11_here 0 0 0 [.ref m] (mrS h m n n bd bk op) (RT (some (.int (nI 0))) (mrS h m n n bd bk op)) :=
  c_MR_here_f hst hM htf hB hn bd bk op n (Nat.le_refl _) (by rw [sk_n]; omega)
theorem c_MR_word_i (hst : l.stackTraces = false) (hM : ModS h m) (htf : hp_I h (m + 2) = tf) (hB : BT tf T) (hn : n ≤ 600) (bd bk : Int32) (op a : Nat) (ha : a ≤ n) (hi : sk T n a = a) {x : Nat} (hx : wdA T n a = x) : CC l Z m_X11_word 1 0 0 [.ref m] (mrS h m n a bd bk op) (RT (some (.int (nI x))) (mrS h m n a bd bk op)) := by
  have h9 := c_MR_word_e (Z := Z) hst hM htf hB hn bd bk op a ha hx
  rw [hi] at h9
  exact h9
theorem c_MR_dg0 (hst : l.stackTraces = false) (h : PH) : CC l Z m_X11_isDigit 0 0 0 [.int (nI 0)] h (RT (some (.int (nI 0))) h) := by
  have h9 := c_MR_dg (Z := Z) hst 0 (by decide) h
  rw [show bI (dgC 0) = nI 0 by decide] at h9
  exact h9
end MRI
set_option maxHeartbeats 4000000 in
set_option maxRecDepth 100000 in
theorem c_Mw_emit_t {l : Launch} {Z : EE} (hst : l.stackTraces = false) {h : PH} {m : Nat} (hM : ModS h m) {tf : Nat → Int32} (htf : hp_I h (m + 2) = tf) {T : Nat → Nat} (hB : BT tf T) {n : Nat} (hn : n ≤ 600) (W : LWt) (hW : W.1 < 150) (a : Nat) (bk : Int32) (op : Nat) (c v : Nat) : CC l Z m_X11_emit 1 0 0 [.ref m, .int (nI c), .int (nI v)] (mrS (mwS h m W) m n a (-1) bk op) (RT none (mrS (mwS h m (eL c v W)) m n a (-1) bk op)) := by
  refine ee_entry hst (by decide +kernel) rfl rfl (by simp [Value.category]) (Nat.le_of_ble_eq_true rfl) ?_
  refine ww_lv (lv2 := [.ref m, .int (nI c), .int (nI v)]) rfl ?_
  refine ww_aload_n dX11_emit_0 rfl rfl ?_
  refine ww_cVr (M := m_X11_emit) (pc := 1) (v := .int (nI 1)) (h1 := mrS (mwS h m W) m n a (-1) bk op) (st := []) (d := 1) (bc := 0) (bs := 0) (c_MR_fine_t hst (mwS_M hM W) (mwS_t (W := W) htf) hB hn a bk op) vv_X11_fine dX11_emit_1 wg_1421 ((mwS_M hM W).K0) rfl rfl rfl rfl (Nat.le_of_ble_eq_true rfl) (Nat.le_of_ble_eq_true rfl) (Nat.le_of_ble_eq_true rfl) (Nat.le_of_ble_eq_true rfl) ?_
  refine ww_if_neN (tgt := 8) dX11_emit_4 (by decide) (by omega) (fun c4 => ?_) (fun c4 => ?_)
  · refine ww_aload_n dX11_emit_8 rfl rfl ?_
    refine ww_get 17 dX11_emit_9 ((mwS_M hM W).K0) rfl (by decide) inX11 wg_1257 (mrS_j _ _ _ _ _ (by decide) (mwS_M hM W).F6) ?_
    refine ww_aload_n dX11_emit_12 rfl rfl ?_
    refine ww_get 22 dX11_emit_13 ((mwS_M hM W).K0) rfl (by decide) inX11 wg_1262 (mrS_j _ _ _ _ _ (by decide) (mwS_22 _ _ _)) ?_
    refine ww_iload_n dX11_emit_16 rfl rfl ?_
    refine ww_iastF dX11_emit_17 ((mwS_M hM W).K6) (mwS_6 h m W) (by omega) (by omega) ?_
    refine ww_hp (h2 := mrS (mwS h m ((W.1, upd W.2.1 W.1 (nI c), W.2.2))) m n a (-1) bk op) (mw_s6 _ _ _ _ _ _ _ _ _) ?_
    refine ww_aload_n dX11_emit_18 rfl rfl ?_
    refine ww_get 18 dX11_emit_19 ((mwS_M hM ((W.1, upd W.2.1 W.1 (nI c), W.2.2))).K0) rfl (by decide) inX11 wg_1258 (mrS_j _ _ _ _ _ (by decide) (mwS_M hM ((W.1, upd W.2.1 W.1 (nI c), W.2.2))).F7) ?_
    refine ww_aload_n dX11_emit_22 rfl rfl ?_
    refine ww_get 22 dX11_emit_23 ((mwS_M hM ((W.1, upd W.2.1 W.1 (nI c), W.2.2))).K0) rfl (by decide) inX11 wg_1262 (mrS_j _ _ _ _ _ (by decide) (mwS_22 _ _ _)) ?_
    refine ww_iload_n dX11_emit_26 rfl rfl ?_
    refine ww_iastF dX11_emit_27 ((mwS_M hM ((W.1, upd W.2.1 W.1 (nI c), W.2.2))).K7) (mwS_7 h m ((W.1, upd W.2.1 W.1 (nI c), W.2.2))) (by omega) (by omega) ?_
    refine ww_hp (h2 := mrS (mwS h m ((((W.1, upd W.2.1 W.1 (nI c), W.2.2)).1, ((W.1, upd W.2.1 W.1 (nI c), W.2.2)).2.1, upd (((W.1, upd W.2.1 W.1 (nI c), W.2.2)).2.2) (((W.1, upd W.2.1 W.1 (nI c), W.2.2)).1) (nI v)))) m n a (-1) bk op) (mw_s7 _ _ _ _ _ _ _ _ _) ?_
    refine ww_aload_n dX11_emit_28 rfl rfl ?_
    refine ww_dup dX11_emit_29 rfl ?_
    refine ww_get 22 dX11_emit_30 ((mwS_M hM ((((W.1, upd W.2.1 W.1 (nI c), W.2.2)).1, ((W.1, upd W.2.1 W.1 (nI c), W.2.2)).2.1, upd (((W.1, upd W.2.1 W.1 (nI c), W.2.2)).2.2) (((W.1, upd W.2.1 W.1 (nI c), W.2.2)).1) (nI v)))).K0) rfl (by decide) inX11 wg_1262 (mrS_j _ _ _ _ _ (by decide) (mwS_22 _ _ _)) ?_
    refine ww_iconst (v := nI 1) dX11_emit_33 (by decide) ?_
    refine ww_iaddN dX11_emit_34 ?_
    refine ww_pfI tyX11 22 dX11_emit_35 ((mwS_M hM ((((W.1, upd W.2.1 W.1 (nI c), W.2.2)).1, ((W.1, upd W.2.1 W.1 (nI c), W.2.2)).2.1, upd (((W.1, upd W.2.1 W.1 (nI c), W.2.2)).2.2) (((W.1, upd W.2.1 W.1 (nI c), W.2.2)).1) (nI v)))).K0) rfl (by decide) inX11 tyX11_ok nmX11 wg_1262 rfl rfl ?_
    refine ww_hp (h2 := mrS (mwS h m (((((((W.1, upd W.2.1 W.1 (nI c), W.2.2)).1, ((W.1, upd W.2.1 W.1 (nI c), W.2.2)).2.1, upd (((W.1, upd W.2.1 W.1 (nI c), W.2.2)).2.2) (((W.1, upd W.2.1 W.1 (nI c), W.2.2)).1) (nI v))).1) + 1, ((((W.1, upd W.2.1 W.1 (nI c), W.2.2)).1, ((W.1, upd W.2.1 W.1 (nI c), W.2.2)).2.1, upd (((W.1, upd W.2.1 W.1 (nI c), W.2.2)).2.2) (((W.1, upd W.2.1 W.1 (nI c), W.2.2)).1) (nI v))).2.1, ((((W.1, upd W.2.1 W.1 (nI c), W.2.2)).1, ((W.1, upd W.2.1 W.1 (nI c), W.2.2)).2.1, upd (((W.1, upd W.2.1 W.1 (nI c), W.2.2)).2.2) (((W.1, upd W.2.1 W.1 (nI c), W.2.2)).1) (nI v))).2.2))) m n a (-1) bk op) (mw_s22 _ _ _ _ _ _ _ _ _) ?_
    exact ww_vret dX11_emit_38 rfl ⟨rfl, rfl⟩
  · exact absurd c4 (by decide)
set_option maxHeartbeats 4000000 in
set_option maxRecDepth 100000 in
theorem c_Mw_emit_f {l : Launch} {Z : EE} (hst : l.stackTraces = false) {h : PH} {m : Nat} (hM : ModS h m) {tf : Nat → Int32} (htf : hp_I h (m + 2) = tf) {T : Nat → Nat} (hB : BT tf T) {n : Nat} (hn : n ≤ 600) (W : LWt) (a : Nat) (bk : Int32) (op : Nat) (q : Nat) (hq : q < 2 ^ 31) (c v : Int32) : CC l Z m_X11_emit 1 0 0 [.ref m, .int c, .int v] (mrS (mwS h m W) m n a (nI q) bk op) (RT none (mrS (mwS h m W) m n a (nI q) bk op)) := by
  refine ee_entry hst (by decide +kernel) rfl rfl (by simp [Value.category]) (Nat.le_of_ble_eq_true rfl) ?_
  refine ww_lv (lv2 := [.ref m, .int c, .int v]) rfl ?_
  refine ww_aload_n dX11_emit_0 rfl rfl ?_
  refine ww_cVr (M := m_X11_emit) (pc := 1) (v := .int (nI 0)) (h1 := mrS (mwS h m W) m n a (nI q) bk op) (st := []) (d := 1) (bc := 0) (bs := 0) (c_MR_fine_f hst (mwS_M hM W) (mwS_t (W := W) htf) hB hn a bk op q (by omega)) vv_X11_fine dX11_emit_1 wg_1421 ((mwS_M hM W).K0) rfl rfl rfl rfl (Nat.le_of_ble_eq_true rfl) (Nat.le_of_ble_eq_true rfl) (Nat.le_of_ble_eq_true rfl) (Nat.le_of_ble_eq_true rfl) ?_
  refine ww_if_neN (tgt := 8) dX11_emit_4 (by decide) (by omega) (fun c4 => ?_) (fun c4 => ?_)
  · exact absurd c4 (by decide)
  · exact ww_vret dX11_emit_7 rfl ⟨rfl, rfl⟩
set_option maxHeartbeats 4000000 in
set_option maxRecDepth 100000 in
theorem c_Mw_unit_f {l : Launch} {Z : EE} (hst : l.stackTraces = false) {h : PH} {m : Nat} (hM : ModS h m) {tf : Nat → Int32} (htf : hp_I h (m + 2) = tf) {T : Nat → Nat} (hB : BT tf T) {n : Nat} (hn : n ≤ 600) (W : LWt) (a : Nat) (bk : Int32) (op : Nat) (q : Nat) (hq : q < 2 ^ 31) : CC l Z m_X11_readUnit 1 0 0 [.ref m] (mrS (mwS h m W) m n a (nI q) bk op) (RT none (mrS (mwS h m W) m n a (nI q) bk op)) := by
  refine ee_entry hst (by decide +kernel) rfl rfl (by simp [Value.category]) (Nat.le_of_ble_eq_true rfl) ?_
  refine ww_lv (lv2 := [.ref m, UU]) rfl ?_
  refine ww_aload_n dX11_readUnit_0 rfl rfl ?_
  refine ww_cVr (M := m_X11_readUnit) (pc := 1) (v := .int (nI 0)) (h1 := mrS (mwS h m W) m n a (nI q) bk op) (st := []) (d := 1) (bc := 0) (bs := 0) (c_MR_fine_f hst (mwS_M hM W) (mwS_t (W := W) htf) hB hn a bk op q (by omega)) vv_X11_fine dX11_readUnit_1 wg_1421 ((mwS_M hM W).K0) rfl rfl rfl rfl (Nat.le_of_ble_eq_true rfl) (Nat.le_of_ble_eq_true rfl) (Nat.le_of_ble_eq_true rfl) (Nat.le_of_ble_eq_true rfl) ?_
  refine ww_if_neN (tgt := 8) dX11_readUnit_4 (by decide) (by omega) (fun c4 => ?_) (fun c4 => ?_)
  · exact absurd c4 (by decide)
  · exact ww_vret dX11_readUnit_7 rfl ⟨rfl, rfl⟩
set_option maxHeartbeats 4000000 in
set_option maxRecDepth 100000 in
theorem c_Mw_prod_f {l : Launch} {Z : EE} (hst : l.stackTraces = false) {h : PH} {m : Nat} (hM : ModS h m) {tf : Nat → Int32} (htf : hp_I h (m + 2) = tf) {T : Nat → Nat} (hB : BT tf T) {n : Nat} (hn : n ≤ 600) (W : LWt) (a : Nat) (bk : Int32) (op : Nat) (q : Nat) (hq : q < 2 ^ 31) : CC l Z m_X11_readProduct 2 0 0 [.ref m] (mrS (mwS h m W) m n a (nI q) bk op) (RT none (mrS (mwS h m W) m n a (nI q) bk op)) := by
  refine ee_entry hst (by decide +kernel) rfl rfl (by simp [Value.category]) (Nat.le_of_ble_eq_true rfl) ?_
  refine ww_lv (lv2 := [.ref m, UU]) rfl ?_
  refine ww_aload_n dX11_readProduct_0 rfl rfl ?_
  refine ww_cV0 (M := m_X11_readProduct) (pc := 1) (h1 := mrS (mwS h m W) m n a (nI q) bk op) (st := []) (d := 2) (bc := 0) (bs := 0) (c_Mw_unit_f hst hM htf hB hn W a bk op q hq) vv_X11_readUnit dX11_readProduct_1 wg_1487 ((mwS_M hM W).K0) rfl rfl rfl rfl (Nat.le_of_ble_eq_true rfl) (Nat.le_of_ble_eq_true rfl) (Nat.le_of_ble_eq_true rfl) (Nat.le_of_ble_eq_true rfl) ?_
  refine ww_aload_n dX11_readProduct_4 rfl rfl ?_
  refine ww_cVr (M := m_X11_readProduct) (pc := 5) (v := .int (nI 0)) (h1 := mrS (mwS h m W) m n a (nI q) bk op) (st := []) (d := 2) (bc := 0) (bs := 0) (c_MR_fine_f hst (mwS_M hM W) (mwS_t (W := W) htf) hB hn a bk op q (by omega)) vv_X11_fine dX11_readProduct_5 wg_1421 ((mwS_M hM W).K0) rfl rfl rfl rfl (Nat.le_of_ble_eq_true rfl) (Nat.le_of_ble_eq_true rfl) (Nat.le_of_ble_eq_true rfl) (Nat.le_of_ble_eq_true rfl) ?_
  refine ww_if_eqN (tgt := 90) dX11_readProduct_8 (by decide) (by omega) (fun c8 => ?_) (fun c8 => ?_)
  · exact ww_vret dX11_readProduct_90 rfl ⟨rfl, rfl⟩
  · exact absurd c8 (by decide)
set_option maxHeartbeats 4000000 in
set_option maxRecDepth 100000 in
theorem c_Mw_sum_f {l : Launch} {Z : EE} (hst : l.stackTraces = false) {h : PH} {m : Nat} (hM : ModS h m) {tf : Nat → Int32} (htf : hp_I h (m + 2) = tf) {T : Nat → Nat} (hB : BT tf T) {n : Nat} (hn : n ≤ 600) (W : LWt) (a : Nat) (bk : Int32) (op : Nat) (q : Nat) (hq : q < 2 ^ 31) : CC l Z m_X11_readSum 3 0 0 [.ref m] (mrS (mwS h m W) m n a (nI q) bk op) (RT none (mrS (mwS h m W) m n a (nI q) bk op)) := by
  refine ee_entry hst (by decide +kernel) rfl rfl (by simp [Value.category]) (Nat.le_of_ble_eq_true rfl) ?_
  refine ww_lv (lv2 := [.ref m, UU]) rfl ?_
  refine ww_aload_n dX11_readSum_0 rfl rfl ?_
  refine ww_cV0 (M := m_X11_readSum) (pc := 1) (h1 := mrS (mwS h m W) m n a (nI q) bk op) (st := []) (d := 3) (bc := 0) (bs := 0) (c_Mw_prod_f hst hM htf hB hn W a bk op q hq) vv_X11_readProduct dX11_readSum_1 wg_1483 ((mwS_M hM W).K0) rfl rfl rfl rfl (Nat.le_of_ble_eq_true rfl) (Nat.le_of_ble_eq_true rfl) (Nat.le_of_ble_eq_true rfl) (Nat.le_of_ble_eq_true rfl) ?_
  refine ww_aload_n dX11_readSum_4 rfl rfl ?_
  refine ww_cVr (M := m_X11_readSum) (pc := 5) (v := .int (nI 0)) (h1 := mrS (mwS h m W) m n a (nI q) bk op) (st := []) (d := 3) (bc := 0) (bs := 0) (c_MR_fine_f hst (mwS_M hM W) (mwS_t (W := W) htf) hB hn a bk op q (by omega)) vv_X11_fine dX11_readSum_5 wg_1421 ((mwS_M hM W).K0) rfl rfl rfl rfl (Nat.le_of_ble_eq_true rfl) (Nat.le_of_ble_eq_true rfl) (Nat.le_of_ble_eq_true rfl) (Nat.le_of_ble_eq_true rfl) ?_
  refine ww_if_eqN (tgt := 67) dX11_readSum_8 (by decide) (by omega) (fun c8 => ?_) (fun c8 => ?_)
  · exact ww_vret dX11_readSum_67 rfl ⟨rfl, rfl⟩
  · exact absurd c8 (by decide)
set_option maxHeartbeats 4000000 in
set_option maxRecDepth 100000 in
theorem c_Mw_fact0 {l : Launch} {Z : EE} (hst : l.stackTraces = false) {h : PH} {m : Nat} (hM : ModS h m) {tf : Nat → Int32} (htf : hp_I h (m + 2) = tf) {T : Nat → Nat} (hB : BT tf T) {n : Nat} (hn : n ≤ 600) (W : LWt) (a : Nat) (bd bk : Int32) (op : Nat) (ha : a ≤ n) (hi : sk T n a = a) (hx : wdA T n a = 492210354) : CC l Z m_X11_factHere 5 0 0 [.ref m] (mrS (mwS h m W) m n a bd bk op) (RT (some (.int (nI 0))) (mrS (mwS h m W) m n a bd bk op)) := by
  refine ee_entry hst (by decide +kernel) rfl rfl (by simp [Value.category]) (Nat.le_of_ble_eq_true rfl) ?_
  refine ww_lv (lv2 := [.ref m, UU]) rfl ?_
  refine ww_aload_n dX11_factHere_0 rfl rfl ?_
  refine ww_cVr (M := m_X11_factHere) (pc := 1) (v := .int (nI 492210354)) (h1 := mrS (mwS h m W) m n a bd bk op) (st := []) (d := 5) (bc := 0) (bs := 0) (c_MR_word_i hst (mwS_M hM W) (mwS_t (W := W) htf) hB hn bd bk op a ha hi hx) vv_X11_word dX11_factHere_1 wg_1433 ((mwS_M hM W).K0) rfl rfl rfl rfl (Nat.le_of_ble_eq_true rfl) (Nat.le_of_ble_eq_true rfl) (Nat.le_of_ble_eq_true rfl) (Nat.le_of_ble_eq_true rfl) ?_
  refine ww_sti_n (lv2 := [.ref m, .int (nI 492210354)]) dX11_factHere_4 rfl rfl (by decide) rfl ?_
  refine ww_iload_n dX11_factHere_5 rfl rfl ?_
  refine ww_ldcS (i := 11) dX11_factHere_6 rfl ?_
  refine ww_cSr (M := m_X11_factHere) (pc := 8) (v := .int (nI 492210354)) (h1 := mrS (mwS h m W) m n a bd bk op) (st := [.int (nI 492210354)]) (d := 5) (bc := 0) (bs := 0) (c_of_11 hst (mrS (mwS h m W) m n a bd bk op)) vv_X11_of dX11_factHere_8 wg_1441 rfl rfl rfl (Nat.le_of_ble_eq_true rfl) (Nat.le_of_ble_eq_true rfl) (Nat.le_of_ble_eq_true rfl) (Nat.le_of_ble_eq_true rfl) ?_
  refine ww_icmp_neN (tgt := 18) dX11_factHere_11 (by decide) (by omega) (by omega) (fun c11 => ?_) (fun c11 => ?_)
  · exact absurd c11 (by decide)
  · refine ww_iconst (v := nI 0) dX11_factHere_14 (by decide) ?_
    refine ww_goto (tgt := 98) dX11_factHere_15 (by decide) ?_
    exact ww_iret dX11_factHere_98 rfl ⟨rfl, rfl⟩
set_option maxHeartbeats 4000000 in
set_option maxRecDepth 100000 in
theorem c_Mw_fact1 {l : Launch} {Z : EE} (hst : l.stackTraces = false) {h : PH} {m : Nat} (hM : ModS h m) {tf : Nat → Int32} (htf : hp_I h (m + 2) = tf) {T : Nat → Nat} (hB : BT tf T) {n : Nat} (hn : n ≤ 600) (W : LWt) (a : Nat) (bd bk : Int32) (op : Nat) (ha : a ≤ n) (hi : sk T n a = a) (hx : wdA T n a = 595412) : CC l Z m_X11_factHere 5 0 0 [.ref m] (mrS (mwS h m W) m n a bd bk op) (RT (some (.int (nI 1))) (mrS (mwS h m W) m n a bd bk op)) := by
  refine ee_entry hst (by decide +kernel) rfl rfl (by simp [Value.category]) (Nat.le_of_ble_eq_true rfl) ?_
  refine ww_lv (lv2 := [.ref m, UU]) rfl ?_
  refine ww_aload_n dX11_factHere_0 rfl rfl ?_
  refine ww_cVr (M := m_X11_factHere) (pc := 1) (v := .int (nI 595412)) (h1 := mrS (mwS h m W) m n a bd bk op) (st := []) (d := 5) (bc := 0) (bs := 0) (c_MR_word_i hst (mwS_M hM W) (mwS_t (W := W) htf) hB hn bd bk op a ha hi hx) vv_X11_word dX11_factHere_1 wg_1433 ((mwS_M hM W).K0) rfl rfl rfl rfl (Nat.le_of_ble_eq_true rfl) (Nat.le_of_ble_eq_true rfl) (Nat.le_of_ble_eq_true rfl) (Nat.le_of_ble_eq_true rfl) ?_
  refine ww_sti_n (lv2 := [.ref m, .int (nI 595412)]) dX11_factHere_4 rfl rfl (by decide) rfl ?_
  refine ww_iload_n dX11_factHere_5 rfl rfl ?_
  refine ww_ldcS (i := 11) dX11_factHere_6 rfl ?_
  refine ww_cSr (M := m_X11_factHere) (pc := 8) (v := .int (nI 492210354)) (h1 := mrS (mwS h m W) m n a bd bk op) (st := [.int (nI 595412)]) (d := 5) (bc := 0) (bs := 0) (c_of_11 hst (mrS (mwS h m W) m n a bd bk op)) vv_X11_of dX11_factHere_8 wg_1441 rfl rfl rfl (Nat.le_of_ble_eq_true rfl) (Nat.le_of_ble_eq_true rfl) (Nat.le_of_ble_eq_true rfl) (Nat.le_of_ble_eq_true rfl) ?_
  refine ww_icmp_neN (tgt := 18) dX11_factHere_11 (by decide) (by omega) (by omega) (fun c11 => ?_) (fun c11 => ?_)
  · refine ww_iload_n dX11_factHere_18 rfl rfl ?_
    refine ww_ldcS (i := 12) dX11_factHere_19 rfl ?_
    refine ww_cSr (M := m_X11_factHere) (pc := 21) (v := .int (nI 595412)) (h1 := mrS (mwS h m W) m n a bd bk op) (st := [.int (nI 595412)]) (d := 5) (bc := 0) (bs := 0) (c_of_12 hst (mrS (mwS h m W) m n a bd bk op)) vv_X11_of dX11_factHere_21 wg_1441 rfl rfl rfl (Nat.le_of_ble_eq_true rfl) (Nat.le_of_ble_eq_true rfl) (Nat.le_of_ble_eq_true rfl) (Nat.le_of_ble_eq_true rfl) ?_
    refine ww_icmp_neN (tgt := 31) dX11_factHere_24 (by decide) (by omega) (by omega) (fun c24 => ?_) (fun c24 => ?_)
    · exact absurd c24 (by decide)
    · refine ww_iconst (v := nI 1) dX11_factHere_27 (by decide) ?_
      refine ww_goto (tgt := 98) dX11_factHere_28 (by decide) ?_
      exact ww_iret dX11_factHere_98 rfl ⟨rfl, rfl⟩
  · exact absurd c11 (by decide)
set_option maxHeartbeats 4000000 in
set_option maxRecDepth 100000 in
theorem c_Mw_fact2 {l : Launch} {Z : EE} (hst : l.stackTraces = false) {h : PH} {m : Nat} (hM : ModS h m) {tf : Nat → Int32} (htf : hp_I h (m + 2) = tf) {T : Nat → Nat} (hB : BT tf T) {n : Nat} (hn : n ≤ 600) (W : LWt) (a : Nat) (bd bk : Int32) (op : Nat) (ha : a ≤ n) (hi : sk T n a = a) (hx : wdA T n a = 23609) : CC l Z m_X11_factHere 5 0 0 [.ref m] (mrS (mwS h m W) m n a bd bk op) (RT (some (.int (nI 2))) (mrS (mwS h m W) m n a bd bk op)) := by
  refine ee_entry hst (by decide +kernel) rfl rfl (by simp [Value.category]) (Nat.le_of_ble_eq_true rfl) ?_
  refine ww_lv (lv2 := [.ref m, UU]) rfl ?_
  refine ww_aload_n dX11_factHere_0 rfl rfl ?_
  refine ww_cVr (M := m_X11_factHere) (pc := 1) (v := .int (nI 23609)) (h1 := mrS (mwS h m W) m n a bd bk op) (st := []) (d := 5) (bc := 0) (bs := 0) (c_MR_word_i hst (mwS_M hM W) (mwS_t (W := W) htf) hB hn bd bk op a ha hi hx) vv_X11_word dX11_factHere_1 wg_1433 ((mwS_M hM W).K0) rfl rfl rfl rfl (Nat.le_of_ble_eq_true rfl) (Nat.le_of_ble_eq_true rfl) (Nat.le_of_ble_eq_true rfl) (Nat.le_of_ble_eq_true rfl) ?_
  refine ww_sti_n (lv2 := [.ref m, .int (nI 23609)]) dX11_factHere_4 rfl rfl (by decide) rfl ?_
  refine ww_iload_n dX11_factHere_5 rfl rfl ?_
  refine ww_ldcS (i := 11) dX11_factHere_6 rfl ?_
  refine ww_cSr (M := m_X11_factHere) (pc := 8) (v := .int (nI 492210354)) (h1 := mrS (mwS h m W) m n a bd bk op) (st := [.int (nI 23609)]) (d := 5) (bc := 0) (bs := 0) (c_of_11 hst (mrS (mwS h m W) m n a bd bk op)) vv_X11_of dX11_factHere_8 wg_1441 rfl rfl rfl (Nat.le_of_ble_eq_true rfl) (Nat.le_of_ble_eq_true rfl) (Nat.le_of_ble_eq_true rfl) (Nat.le_of_ble_eq_true rfl) ?_
  refine ww_icmp_neN (tgt := 18) dX11_factHere_11 (by decide) (by omega) (by omega) (fun c11 => ?_) (fun c11 => ?_)
  · refine ww_iload_n dX11_factHere_18 rfl rfl ?_
    refine ww_ldcS (i := 12) dX11_factHere_19 rfl ?_
    refine ww_cSr (M := m_X11_factHere) (pc := 21) (v := .int (nI 595412)) (h1 := mrS (mwS h m W) m n a bd bk op) (st := [.int (nI 23609)]) (d := 5) (bc := 0) (bs := 0) (c_of_12 hst (mrS (mwS h m W) m n a bd bk op)) vv_X11_of dX11_factHere_21 wg_1441 rfl rfl rfl (Nat.le_of_ble_eq_true rfl) (Nat.le_of_ble_eq_true rfl) (Nat.le_of_ble_eq_true rfl) (Nat.le_of_ble_eq_true rfl) ?_
    refine ww_icmp_neN (tgt := 31) dX11_factHere_24 (by decide) (by omega) (by omega) (fun c24 => ?_) (fun c24 => ?_)
    · refine ww_iload_n dX11_factHere_31 rfl rfl ?_
      refine ww_ldcS (i := 13) dX11_factHere_32 rfl ?_
      refine ww_cSr (M := m_X11_factHere) (pc := 34) (v := .int (nI 23609)) (h1 := mrS (mwS h m W) m n a bd bk op) (st := [.int (nI 23609)]) (d := 5) (bc := 0) (bs := 0) (c_of_13 hst (mrS (mwS h m W) m n a bd bk op)) vv_X11_of dX11_factHere_34 wg_1441 rfl rfl rfl (Nat.le_of_ble_eq_true rfl) (Nat.le_of_ble_eq_true rfl) (Nat.le_of_ble_eq_true rfl) (Nat.le_of_ble_eq_true rfl) ?_
      refine ww_icmp_neN (tgt := 44) dX11_factHere_37 (by decide) (by omega) (by omega) (fun c37 => ?_) (fun c37 => ?_)
      · exact absurd c37 (by decide)
      · refine ww_iconst (v := nI 2) dX11_factHere_40 (by decide) ?_
        refine ww_goto (tgt := 98) dX11_factHere_41 (by decide) ?_
        exact ww_iret dX11_factHere_98 rfl ⟨rfl, rfl⟩
    · exact absurd c24 (by decide)
  · exact absurd c11 (by decide)
set_option maxHeartbeats 4000000 in
set_option maxRecDepth 100000 in
theorem c_Mw_fact3 {l : Launch} {Z : EE} (hst : l.stackTraces = false) {h : PH} {m : Nat} (hM : ModS h m) {tf : Nat → Int32} (htf : hp_I h (m + 2) = tf) {T : Nat → Nat} (hB : BT tf T) {n : Nat} (hn : n ≤ 600) (W : LWt) (a : Nat) (bd bk : Int32) (op : Nat) (ha : a ≤ n) (hi : sk T n a = a) (hx : wdA T n a = 16496818) : CC l Z m_X11_factHere 5 0 0 [.ref m] (mrS (mwS h m W) m n a bd bk op) (RT (some (.int (nI 3))) (mrS (mwS h m W) m n a bd bk op)) := by
  refine ee_entry hst (by decide +kernel) rfl rfl (by simp [Value.category]) (Nat.le_of_ble_eq_true rfl) ?_
  refine ww_lv (lv2 := [.ref m, UU]) rfl ?_
  refine ww_aload_n dX11_factHere_0 rfl rfl ?_
  refine ww_cVr (M := m_X11_factHere) (pc := 1) (v := .int (nI 16496818)) (h1 := mrS (mwS h m W) m n a bd bk op) (st := []) (d := 5) (bc := 0) (bs := 0) (c_MR_word_i hst (mwS_M hM W) (mwS_t (W := W) htf) hB hn bd bk op a ha hi hx) vv_X11_word dX11_factHere_1 wg_1433 ((mwS_M hM W).K0) rfl rfl rfl rfl (Nat.le_of_ble_eq_true rfl) (Nat.le_of_ble_eq_true rfl) (Nat.le_of_ble_eq_true rfl) (Nat.le_of_ble_eq_true rfl) ?_
  refine ww_sti_n (lv2 := [.ref m, .int (nI 16496818)]) dX11_factHere_4 rfl rfl (by decide) rfl ?_
  refine ww_iload_n dX11_factHere_5 rfl rfl ?_
  refine ww_ldcS (i := 11) dX11_factHere_6 rfl ?_
  refine ww_cSr (M := m_X11_factHere) (pc := 8) (v := .int (nI 492210354)) (h1 := mrS (mwS h m W) m n a bd bk op) (st := [.int (nI 16496818)]) (d := 5) (bc := 0) (bs := 0) (c_of_11 hst (mrS (mwS h m W) m n a bd bk op)) vv_X11_of dX11_factHere_8 wg_1441 rfl rfl rfl (Nat.le_of_ble_eq_true rfl) (Nat.le_of_ble_eq_true rfl) (Nat.le_of_ble_eq_true rfl) (Nat.le_of_ble_eq_true rfl) ?_
  refine ww_icmp_neN (tgt := 18) dX11_factHere_11 (by decide) (by omega) (by omega) (fun c11 => ?_) (fun c11 => ?_)
  · refine ww_iload_n dX11_factHere_18 rfl rfl ?_
    refine ww_ldcS (i := 12) dX11_factHere_19 rfl ?_
    refine ww_cSr (M := m_X11_factHere) (pc := 21) (v := .int (nI 595412)) (h1 := mrS (mwS h m W) m n a bd bk op) (st := [.int (nI 16496818)]) (d := 5) (bc := 0) (bs := 0) (c_of_12 hst (mrS (mwS h m W) m n a bd bk op)) vv_X11_of dX11_factHere_21 wg_1441 rfl rfl rfl (Nat.le_of_ble_eq_true rfl) (Nat.le_of_ble_eq_true rfl) (Nat.le_of_ble_eq_true rfl) (Nat.le_of_ble_eq_true rfl) ?_
    refine ww_icmp_neN (tgt := 31) dX11_factHere_24 (by decide) (by omega) (by omega) (fun c24 => ?_) (fun c24 => ?_)
    · refine ww_iload_n dX11_factHere_31 rfl rfl ?_
      refine ww_ldcS (i := 13) dX11_factHere_32 rfl ?_
      refine ww_cSr (M := m_X11_factHere) (pc := 34) (v := .int (nI 23609)) (h1 := mrS (mwS h m W) m n a bd bk op) (st := [.int (nI 16496818)]) (d := 5) (bc := 0) (bs := 0) (c_of_13 hst (mrS (mwS h m W) m n a bd bk op)) vv_X11_of dX11_factHere_34 wg_1441 rfl rfl rfl (Nat.le_of_ble_eq_true rfl) (Nat.le_of_ble_eq_true rfl) (Nat.le_of_ble_eq_true rfl) (Nat.le_of_ble_eq_true rfl) ?_
      refine ww_icmp_neN (tgt := 44) dX11_factHere_37 (by decide) (by omega) (by omega) (fun c37 => ?_) (fun c37 => ?_)
      · refine ww_iload_n dX11_factHere_44 rfl rfl ?_
        refine ww_ldcS (i := 14) dX11_factHere_45 rfl ?_
        refine ww_cSr (M := m_X11_factHere) (pc := 47) (v := .int (nI 16496818)) (h1 := mrS (mwS h m W) m n a bd bk op) (st := [.int (nI 16496818)]) (d := 5) (bc := 0) (bs := 0) (c_of_14 hst (mrS (mwS h m W) m n a bd bk op)) vv_X11_of dX11_factHere_47 wg_1441 rfl rfl rfl (Nat.le_of_ble_eq_true rfl) (Nat.le_of_ble_eq_true rfl) (Nat.le_of_ble_eq_true rfl) (Nat.le_of_ble_eq_true rfl) ?_
        refine ww_icmp_neN (tgt := 57) dX11_factHere_50 (by decide) (by omega) (by omega) (fun c50 => ?_) (fun c50 => ?_)
        · exact absurd c50 (by decide)
        · refine ww_iconst (v := nI 3) dX11_factHere_53 (by decide) ?_
          refine ww_goto (tgt := 98) dX11_factHere_54 (by decide) ?_
          exact ww_iret dX11_factHere_98 rfl ⟨rfl, rfl⟩
      · exact absurd c37 (by decide)
    · exact absurd c24 (by decide)
  · exact absurd c11 (by decide)
set_option maxHeartbeats 4000000 in
set_option maxRecDepth 100000 in
theorem c_Mw_fact4 {l : Launch} {Z : EE} (hst : l.stackTraces = false) {h : PH} {m : Nat} (hM : ModS h m) {tf : Nat → Int32} (htf : hp_I h (m + 2) = tf) {T : Nat → Nat} (hB : BT tf T) {n : Nat} (hn : n ≤ 600) (W : LWt) (a : Nat) (bd bk : Int32) (op : Nat) (ha : a ≤ n) (hi : sk T n a = a) (hx : wdA T n a = 16829075) : CC l Z m_X11_factHere 5 0 0 [.ref m] (mrS (mwS h m W) m n a bd bk op) (RT (some (.int (nI 4))) (mrS (mwS h m W) m n a bd bk op)) := by
  refine ee_entry hst (by decide +kernel) rfl rfl (by simp [Value.category]) (Nat.le_of_ble_eq_true rfl) ?_
  refine ww_lv (lv2 := [.ref m, UU]) rfl ?_
  refine ww_aload_n dX11_factHere_0 rfl rfl ?_
  refine ww_cVr (M := m_X11_factHere) (pc := 1) (v := .int (nI 16829075)) (h1 := mrS (mwS h m W) m n a bd bk op) (st := []) (d := 5) (bc := 0) (bs := 0) (c_MR_word_i hst (mwS_M hM W) (mwS_t (W := W) htf) hB hn bd bk op a ha hi hx) vv_X11_word dX11_factHere_1 wg_1433 ((mwS_M hM W).K0) rfl rfl rfl rfl (Nat.le_of_ble_eq_true rfl) (Nat.le_of_ble_eq_true rfl) (Nat.le_of_ble_eq_true rfl) (Nat.le_of_ble_eq_true rfl) ?_
  refine ww_sti_n (lv2 := [.ref m, .int (nI 16829075)]) dX11_factHere_4 rfl rfl (by decide) rfl ?_
  refine ww_iload_n dX11_factHere_5 rfl rfl ?_
  refine ww_ldcS (i := 11) dX11_factHere_6 rfl ?_
  refine ww_cSr (M := m_X11_factHere) (pc := 8) (v := .int (nI 492210354)) (h1 := mrS (mwS h m W) m n a bd bk op) (st := [.int (nI 16829075)]) (d := 5) (bc := 0) (bs := 0) (c_of_11 hst (mrS (mwS h m W) m n a bd bk op)) vv_X11_of dX11_factHere_8 wg_1441 rfl rfl rfl (Nat.le_of_ble_eq_true rfl) (Nat.le_of_ble_eq_true rfl) (Nat.le_of_ble_eq_true rfl) (Nat.le_of_ble_eq_true rfl) ?_
  refine ww_icmp_neN (tgt := 18) dX11_factHere_11 (by decide) (by omega) (by omega) (fun c11 => ?_) (fun c11 => ?_)
  · refine ww_iload_n dX11_factHere_18 rfl rfl ?_
    refine ww_ldcS (i := 12) dX11_factHere_19 rfl ?_
    refine ww_cSr (M := m_X11_factHere) (pc := 21) (v := .int (nI 595412)) (h1 := mrS (mwS h m W) m n a bd bk op) (st := [.int (nI 16829075)]) (d := 5) (bc := 0) (bs := 0) (c_of_12 hst (mrS (mwS h m W) m n a bd bk op)) vv_X11_of dX11_factHere_21 wg_1441 rfl rfl rfl (Nat.le_of_ble_eq_true rfl) (Nat.le_of_ble_eq_true rfl) (Nat.le_of_ble_eq_true rfl) (Nat.le_of_ble_eq_true rfl) ?_
    refine ww_icmp_neN (tgt := 31) dX11_factHere_24 (by decide) (by omega) (by omega) (fun c24 => ?_) (fun c24 => ?_)
    · refine ww_iload_n dX11_factHere_31 rfl rfl ?_
      refine ww_ldcS (i := 13) dX11_factHere_32 rfl ?_
      refine ww_cSr (M := m_X11_factHere) (pc := 34) (v := .int (nI 23609)) (h1 := mrS (mwS h m W) m n a bd bk op) (st := [.int (nI 16829075)]) (d := 5) (bc := 0) (bs := 0) (c_of_13 hst (mrS (mwS h m W) m n a bd bk op)) vv_X11_of dX11_factHere_34 wg_1441 rfl rfl rfl (Nat.le_of_ble_eq_true rfl) (Nat.le_of_ble_eq_true rfl) (Nat.le_of_ble_eq_true rfl) (Nat.le_of_ble_eq_true rfl) ?_
      refine ww_icmp_neN (tgt := 44) dX11_factHere_37 (by decide) (by omega) (by omega) (fun c37 => ?_) (fun c37 => ?_)
      · refine ww_iload_n dX11_factHere_44 rfl rfl ?_
        refine ww_ldcS (i := 14) dX11_factHere_45 rfl ?_
        refine ww_cSr (M := m_X11_factHere) (pc := 47) (v := .int (nI 16496818)) (h1 := mrS (mwS h m W) m n a bd bk op) (st := [.int (nI 16829075)]) (d := 5) (bc := 0) (bs := 0) (c_of_14 hst (mrS (mwS h m W) m n a bd bk op)) vv_X11_of dX11_factHere_47 wg_1441 rfl rfl rfl (Nat.le_of_ble_eq_true rfl) (Nat.le_of_ble_eq_true rfl) (Nat.le_of_ble_eq_true rfl) (Nat.le_of_ble_eq_true rfl) ?_
        refine ww_icmp_neN (tgt := 57) dX11_factHere_50 (by decide) (by omega) (by omega) (fun c50 => ?_) (fun c50 => ?_)
        · refine ww_iload_n dX11_factHere_57 rfl rfl ?_
          refine ww_ldcS (i := 15) dX11_factHere_58 rfl ?_
          refine ww_cSr (M := m_X11_factHere) (pc := 60) (v := .int (nI 16829075)) (h1 := mrS (mwS h m W) m n a bd bk op) (st := [.int (nI 16829075)]) (d := 5) (bc := 0) (bs := 0) (c_of_15 hst (mrS (mwS h m W) m n a bd bk op)) vv_X11_of dX11_factHere_60 wg_1441 rfl rfl rfl (Nat.le_of_ble_eq_true rfl) (Nat.le_of_ble_eq_true rfl) (Nat.le_of_ble_eq_true rfl) (Nat.le_of_ble_eq_true rfl) ?_
          refine ww_icmp_neN (tgt := 70) dX11_factHere_63 (by decide) (by omega) (by omega) (fun c63 => ?_) (fun c63 => ?_)
          · exact absurd c63 (by decide)
          · refine ww_iconst (v := nI 4) dX11_factHere_66 (by decide) ?_
            refine ww_goto (tgt := 98) dX11_factHere_67 (by decide) ?_
            exact ww_iret dX11_factHere_98 rfl ⟨rfl, rfl⟩
        · exact absurd c50 (by decide)
      · exact absurd c37 (by decide)
    · exact absurd c24 (by decide)
  · exact absurd c11 (by decide)
set_option maxHeartbeats 4000000 in
set_option maxRecDepth 100000 in
theorem c_Mw_fact5 {l : Launch} {Z : EE} (hst : l.stackTraces = false) {h : PH} {m : Nat} (hM : ModS h m) {tf : Nat → Int32} (htf : hp_I h (m + 2) = tf) {T : Nat → Nat} (hB : BT tf T) {n : Nat} (hn : n ≤ 600) (W : LWt) (a : Nat) (bd bk : Int32) (op : Nat) (ha : a ≤ n) (hi : sk T n a = a) (hx : wdA T n a = 707748) : CC l Z m_X11_factHere 5 0 0 [.ref m] (mrS (mwS h m W) m n a bd bk op) (RT (some (.int (nI 5))) (mrS (mwS h m W) m n a bd bk op)) := by
  refine ee_entry hst (by decide +kernel) rfl rfl (by simp [Value.category]) (Nat.le_of_ble_eq_true rfl) ?_
  refine ww_lv (lv2 := [.ref m, UU]) rfl ?_
  refine ww_aload_n dX11_factHere_0 rfl rfl ?_
  refine ww_cVr (M := m_X11_factHere) (pc := 1) (v := .int (nI 707748)) (h1 := mrS (mwS h m W) m n a bd bk op) (st := []) (d := 5) (bc := 0) (bs := 0) (c_MR_word_i hst (mwS_M hM W) (mwS_t (W := W) htf) hB hn bd bk op a ha hi hx) vv_X11_word dX11_factHere_1 wg_1433 ((mwS_M hM W).K0) rfl rfl rfl rfl (Nat.le_of_ble_eq_true rfl) (Nat.le_of_ble_eq_true rfl) (Nat.le_of_ble_eq_true rfl) (Nat.le_of_ble_eq_true rfl) ?_
  refine ww_sti_n (lv2 := [.ref m, .int (nI 707748)]) dX11_factHere_4 rfl rfl (by decide) rfl ?_
  refine ww_iload_n dX11_factHere_5 rfl rfl ?_
  refine ww_ldcS (i := 11) dX11_factHere_6 rfl ?_
  refine ww_cSr (M := m_X11_factHere) (pc := 8) (v := .int (nI 492210354)) (h1 := mrS (mwS h m W) m n a bd bk op) (st := [.int (nI 707748)]) (d := 5) (bc := 0) (bs := 0) (c_of_11 hst (mrS (mwS h m W) m n a bd bk op)) vv_X11_of dX11_factHere_8 wg_1441 rfl rfl rfl (Nat.le_of_ble_eq_true rfl) (Nat.le_of_ble_eq_true rfl) (Nat.le_of_ble_eq_true rfl) (Nat.le_of_ble_eq_true rfl) ?_
  refine ww_icmp_neN (tgt := 18) dX11_factHere_11 (by decide) (by omega) (by omega) (fun c11 => ?_) (fun c11 => ?_)
  · refine ww_iload_n dX11_factHere_18 rfl rfl ?_
    refine ww_ldcS (i := 12) dX11_factHere_19 rfl ?_
    refine ww_cSr (M := m_X11_factHere) (pc := 21) (v := .int (nI 595412)) (h1 := mrS (mwS h m W) m n a bd bk op) (st := [.int (nI 707748)]) (d := 5) (bc := 0) (bs := 0) (c_of_12 hst (mrS (mwS h m W) m n a bd bk op)) vv_X11_of dX11_factHere_21 wg_1441 rfl rfl rfl (Nat.le_of_ble_eq_true rfl) (Nat.le_of_ble_eq_true rfl) (Nat.le_of_ble_eq_true rfl) (Nat.le_of_ble_eq_true rfl) ?_
    refine ww_icmp_neN (tgt := 31) dX11_factHere_24 (by decide) (by omega) (by omega) (fun c24 => ?_) (fun c24 => ?_)
    · refine ww_iload_n dX11_factHere_31 rfl rfl ?_
      refine ww_ldcS (i := 13) dX11_factHere_32 rfl ?_
      refine ww_cSr (M := m_X11_factHere) (pc := 34) (v := .int (nI 23609)) (h1 := mrS (mwS h m W) m n a bd bk op) (st := [.int (nI 707748)]) (d := 5) (bc := 0) (bs := 0) (c_of_13 hst (mrS (mwS h m W) m n a bd bk op)) vv_X11_of dX11_factHere_34 wg_1441 rfl rfl rfl (Nat.le_of_ble_eq_true rfl) (Nat.le_of_ble_eq_true rfl) (Nat.le_of_ble_eq_true rfl) (Nat.le_of_ble_eq_true rfl) ?_
      refine ww_icmp_neN (tgt := 44) dX11_factHere_37 (by decide) (by omega) (by omega) (fun c37 => ?_) (fun c37 => ?_)
      · refine ww_iload_n dX11_factHere_44 rfl rfl ?_
        refine ww_ldcS (i := 14) dX11_factHere_45 rfl ?_
        refine ww_cSr (M := m_X11_factHere) (pc := 47) (v := .int (nI 16496818)) (h1 := mrS (mwS h m W) m n a bd bk op) (st := [.int (nI 707748)]) (d := 5) (bc := 0) (bs := 0) (c_of_14 hst (mrS (mwS h m W) m n a bd bk op)) vv_X11_of dX11_factHere_47 wg_1441 rfl rfl rfl (Nat.le_of_ble_eq_true rfl) (Nat.le_of_ble_eq_true rfl) (Nat.le_of_ble_eq_true rfl) (Nat.le_of_ble_eq_true rfl) ?_
        refine ww_icmp_neN (tgt := 57) dX11_factHere_50 (by decide) (by omega) (by omega) (fun c50 => ?_) (fun c50 => ?_)
        · refine ww_iload_n dX11_factHere_57 rfl rfl ?_
          refine ww_ldcS (i := 15) dX11_factHere_58 rfl ?_
          refine ww_cSr (M := m_X11_factHere) (pc := 60) (v := .int (nI 16829075)) (h1 := mrS (mwS h m W) m n a bd bk op) (st := [.int (nI 707748)]) (d := 5) (bc := 0) (bs := 0) (c_of_15 hst (mrS (mwS h m W) m n a bd bk op)) vv_X11_of dX11_factHere_60 wg_1441 rfl rfl rfl (Nat.le_of_ble_eq_true rfl) (Nat.le_of_ble_eq_true rfl) (Nat.le_of_ble_eq_true rfl) (Nat.le_of_ble_eq_true rfl) ?_
          refine ww_icmp_neN (tgt := 70) dX11_factHere_63 (by decide) (by omega) (by omega) (fun c63 => ?_) (fun c63 => ?_)
          · refine ww_iload_n dX11_factHere_70 rfl rfl ?_
            refine ww_ldcS (i := 16) dX11_factHere_71 rfl ?_
            refine ww_cSr (M := m_X11_factHere) (pc := 73) (v := .int (nI 707748)) (h1 := mrS (mwS h m W) m n a bd bk op) (st := [.int (nI 707748)]) (d := 5) (bc := 0) (bs := 0) (c_of_16 hst (mrS (mwS h m W) m n a bd bk op)) vv_X11_of dX11_factHere_73 wg_1441 rfl rfl rfl (Nat.le_of_ble_eq_true rfl) (Nat.le_of_ble_eq_true rfl) (Nat.le_of_ble_eq_true rfl) (Nat.le_of_ble_eq_true rfl) ?_
            refine ww_icmp_neN (tgt := 83) dX11_factHere_76 (by decide) (by omega) (by omega) (fun c76 => ?_) (fun c76 => ?_)
            · exact absurd c76 (by decide)
            · refine ww_iconst (v := nI 5) dX11_factHere_79 (by decide) ?_
              refine ww_goto (tgt := 98) dX11_factHere_80 (by decide) ?_
              exact ww_iret dX11_factHere_98 rfl ⟨rfl, rfl⟩
          · exact absurd c63 (by decide)
        · exact absurd c50 (by decide)
      · exact absurd c37 (by decide)
    · exact absurd c24 (by decide)
  · exact absurd c11 (by decide)
set_option maxHeartbeats 4000000 in
set_option maxRecDepth 100000 in
theorem c_Mw_fact6 {l : Launch} {Z : EE} (hst : l.stackTraces = false) {h : PH} {m : Nat} (hM : ModS h m) {tf : Nat → Int32} (htf : hp_I h (m + 2) = tf) {T : Nat → Nat} (hB : BT tf T) {n : Nat} (hn : n ≤ 600) (W : LWt) (a : Nat) (bd bk : Int32) (op : Nat) (ha : a ≤ n) (hi : sk T n a = a) (hx : wdA T n a = 4153) : CC l Z m_X11_factHere 5 0 0 [.ref m] (mrS (mwS h m W) m n a bd bk op) (RT (some (.int (nI 6))) (mrS (mwS h m W) m n a bd bk op)) := by
  refine ee_entry hst (by decide +kernel) rfl rfl (by simp [Value.category]) (Nat.le_of_ble_eq_true rfl) ?_
  refine ww_lv (lv2 := [.ref m, UU]) rfl ?_
  refine ww_aload_n dX11_factHere_0 rfl rfl ?_
  refine ww_cVr (M := m_X11_factHere) (pc := 1) (v := .int (nI 4153)) (h1 := mrS (mwS h m W) m n a bd bk op) (st := []) (d := 5) (bc := 0) (bs := 0) (c_MR_word_i hst (mwS_M hM W) (mwS_t (W := W) htf) hB hn bd bk op a ha hi hx) vv_X11_word dX11_factHere_1 wg_1433 ((mwS_M hM W).K0) rfl rfl rfl rfl (Nat.le_of_ble_eq_true rfl) (Nat.le_of_ble_eq_true rfl) (Nat.le_of_ble_eq_true rfl) (Nat.le_of_ble_eq_true rfl) ?_
  refine ww_sti_n (lv2 := [.ref m, .int (nI 4153)]) dX11_factHere_4 rfl rfl (by decide) rfl ?_
  refine ww_iload_n dX11_factHere_5 rfl rfl ?_
  refine ww_ldcS (i := 11) dX11_factHere_6 rfl ?_
  refine ww_cSr (M := m_X11_factHere) (pc := 8) (v := .int (nI 492210354)) (h1 := mrS (mwS h m W) m n a bd bk op) (st := [.int (nI 4153)]) (d := 5) (bc := 0) (bs := 0) (c_of_11 hst (mrS (mwS h m W) m n a bd bk op)) vv_X11_of dX11_factHere_8 wg_1441 rfl rfl rfl (Nat.le_of_ble_eq_true rfl) (Nat.le_of_ble_eq_true rfl) (Nat.le_of_ble_eq_true rfl) (Nat.le_of_ble_eq_true rfl) ?_
  refine ww_icmp_neN (tgt := 18) dX11_factHere_11 (by decide) (by omega) (by omega) (fun c11 => ?_) (fun c11 => ?_)
  · refine ww_iload_n dX11_factHere_18 rfl rfl ?_
    refine ww_ldcS (i := 12) dX11_factHere_19 rfl ?_
    refine ww_cSr (M := m_X11_factHere) (pc := 21) (v := .int (nI 595412)) (h1 := mrS (mwS h m W) m n a bd bk op) (st := [.int (nI 4153)]) (d := 5) (bc := 0) (bs := 0) (c_of_12 hst (mrS (mwS h m W) m n a bd bk op)) vv_X11_of dX11_factHere_21 wg_1441 rfl rfl rfl (Nat.le_of_ble_eq_true rfl) (Nat.le_of_ble_eq_true rfl) (Nat.le_of_ble_eq_true rfl) (Nat.le_of_ble_eq_true rfl) ?_
    refine ww_icmp_neN (tgt := 31) dX11_factHere_24 (by decide) (by omega) (by omega) (fun c24 => ?_) (fun c24 => ?_)
    · refine ww_iload_n dX11_factHere_31 rfl rfl ?_
      refine ww_ldcS (i := 13) dX11_factHere_32 rfl ?_
      refine ww_cSr (M := m_X11_factHere) (pc := 34) (v := .int (nI 23609)) (h1 := mrS (mwS h m W) m n a bd bk op) (st := [.int (nI 4153)]) (d := 5) (bc := 0) (bs := 0) (c_of_13 hst (mrS (mwS h m W) m n a bd bk op)) vv_X11_of dX11_factHere_34 wg_1441 rfl rfl rfl (Nat.le_of_ble_eq_true rfl) (Nat.le_of_ble_eq_true rfl) (Nat.le_of_ble_eq_true rfl) (Nat.le_of_ble_eq_true rfl) ?_
      refine ww_icmp_neN (tgt := 44) dX11_factHere_37 (by decide) (by omega) (by omega) (fun c37 => ?_) (fun c37 => ?_)
      · refine ww_iload_n dX11_factHere_44 rfl rfl ?_
        refine ww_ldcS (i := 14) dX11_factHere_45 rfl ?_
        refine ww_cSr (M := m_X11_factHere) (pc := 47) (v := .int (nI 16496818)) (h1 := mrS (mwS h m W) m n a bd bk op) (st := [.int (nI 4153)]) (d := 5) (bc := 0) (bs := 0) (c_of_14 hst (mrS (mwS h m W) m n a bd bk op)) vv_X11_of dX11_factHere_47 wg_1441 rfl rfl rfl (Nat.le_of_ble_eq_true rfl) (Nat.le_of_ble_eq_true rfl) (Nat.le_of_ble_eq_true rfl) (Nat.le_of_ble_eq_true rfl) ?_
        refine ww_icmp_neN (tgt := 57) dX11_factHere_50 (by decide) (by omega) (by omega) (fun c50 => ?_) (fun c50 => ?_)
        · refine ww_iload_n dX11_factHere_57 rfl rfl ?_
          refine ww_ldcS (i := 15) dX11_factHere_58 rfl ?_
          refine ww_cSr (M := m_X11_factHere) (pc := 60) (v := .int (nI 16829075)) (h1 := mrS (mwS h m W) m n a bd bk op) (st := [.int (nI 4153)]) (d := 5) (bc := 0) (bs := 0) (c_of_15 hst (mrS (mwS h m W) m n a bd bk op)) vv_X11_of dX11_factHere_60 wg_1441 rfl rfl rfl (Nat.le_of_ble_eq_true rfl) (Nat.le_of_ble_eq_true rfl) (Nat.le_of_ble_eq_true rfl) (Nat.le_of_ble_eq_true rfl) ?_
          refine ww_icmp_neN (tgt := 70) dX11_factHere_63 (by decide) (by omega) (by omega) (fun c63 => ?_) (fun c63 => ?_)
          · refine ww_iload_n dX11_factHere_70 rfl rfl ?_
            refine ww_ldcS (i := 16) dX11_factHere_71 rfl ?_
            refine ww_cSr (M := m_X11_factHere) (pc := 73) (v := .int (nI 707748)) (h1 := mrS (mwS h m W) m n a bd bk op) (st := [.int (nI 4153)]) (d := 5) (bc := 0) (bs := 0) (c_of_16 hst (mrS (mwS h m W) m n a bd bk op)) vv_X11_of dX11_factHere_73 wg_1441 rfl rfl rfl (Nat.le_of_ble_eq_true rfl) (Nat.le_of_ble_eq_true rfl) (Nat.le_of_ble_eq_true rfl) (Nat.le_of_ble_eq_true rfl) ?_
            refine ww_icmp_neN (tgt := 83) dX11_factHere_76 (by decide) (by omega) (by omega) (fun c76 => ?_) (fun c76 => ?_)
            · refine ww_iload_n dX11_factHere_83 rfl rfl ?_
              refine ww_ldcS (i := 17) dX11_factHere_84 rfl ?_
              refine ww_cSr (M := m_X11_factHere) (pc := 86) (v := .int (nI 4153)) (h1 := mrS (mwS h m W) m n a bd bk op) (st := [.int (nI 4153)]) (d := 5) (bc := 0) (bs := 0) (c_of_17 hst (mrS (mwS h m W) m n a bd bk op)) vv_X11_of dX11_factHere_86 wg_1441 rfl rfl rfl (Nat.le_of_ble_eq_true rfl) (Nat.le_of_ble_eq_true rfl) (Nat.le_of_ble_eq_true rfl) (Nat.le_of_ble_eq_true rfl) ?_
              refine ww_icmp_neN (tgt := 97) dX11_factHere_89 (by decide) (by omega) (by omega) (fun c89 => ?_) (fun c89 => ?_)
              · exact absurd c89 (by decide)
              · refine ww_bipush (v := nI 6) dX11_factHere_92 (by decide) ?_
                refine ww_goto (tgt := 98) dX11_factHere_94 (by decide) ?_
                exact ww_iret dX11_factHere_98 rfl ⟨rfl, rfl⟩
            · exact absurd c76 (by decide)
          · exact absurd c63 (by decide)
        · exact absurd c50 (by decide)
      · exact absurd c37 (by decide)
    · exact absurd c24 (by decide)
  · exact absurd c11 (by decide)
set_option maxHeartbeats 4000000 in
set_option maxRecDepth 100000 in
theorem c_Mw_factN {l : Launch} {Z : EE} (hst : l.stackTraces = false) {h : PH} {m : Nat} (hM : ModS h m) {tf : Nat → Int32} (htf : hp_I h (m + 2) = tf) {T : Nat → Nat} (hB : BT tf T) {n : Nat} (hn : n ≤ 600) (W : LWt) (a : Nat) (bd bk : Int32) (op : Nat) (ha : a ≤ n) (hi : sk T n a = a) (h0 : ¬ wdA T n a = 492210354) (h1 : ¬ wdA T n a = 595412) (h2 : ¬ wdA T n a = 23609) (h3 : ¬ wdA T n a = 16496818) (h4 : ¬ wdA T n a = 16829075) (h5 : ¬ wdA T n a = 707748) (h6 : ¬ wdA T n a = 4153) : CC l Z m_X11_factHere 5 0 0 [.ref m] (mrS (mwS h m W) m n a bd bk op) (RT (some (.int (-1))) (mrS (mwS h m W) m n a bd bk op)) := by
  refine ee_entry hst (by decide +kernel) rfl rfl (by simp [Value.category]) (Nat.le_of_ble_eq_true rfl) ?_
  refine ww_lv (lv2 := [.ref m, UU]) rfl ?_
  have hwl := wdA_lt (T := T) ha
  refine ww_aload_n dX11_factHere_0 rfl rfl ?_
  refine ww_cVr (M := m_X11_factHere) (pc := 1) (v := .int (nI (wdA T n a))) (h1 := mrS (mwS h m W) m n a bd bk op) (st := []) (d := 5) (bc := 0) (bs := 0) (c_MR_word_i hst (mwS_M hM W) (mwS_t (W := W) htf) hB hn bd bk op a ha hi rfl) vv_X11_word dX11_factHere_1 wg_1433 ((mwS_M hM W).K0) rfl rfl rfl rfl (Nat.le_of_ble_eq_true rfl) (Nat.le_of_ble_eq_true rfl) (Nat.le_of_ble_eq_true rfl) (Nat.le_of_ble_eq_true rfl) ?_
  refine ww_sti_n (lv2 := [.ref m, .int (nI (wdA T n a))]) dX11_factHere_4 rfl rfl (by decide) rfl ?_
  refine ww_iload_n dX11_factHere_5 rfl rfl ?_
  refine ww_ldcS (i := 11) dX11_factHere_6 rfl ?_
  refine ww_cSr (M := m_X11_factHere) (pc := 8) (v := .int (nI 492210354)) (h1 := mrS (mwS h m W) m n a bd bk op) (st := [.int (nI (wdA T n a))]) (d := 5) (bc := 0) (bs := 0) (c_of_11 hst (mrS (mwS h m W) m n a bd bk op)) vv_X11_of dX11_factHere_8 wg_1441 rfl rfl rfl (Nat.le_of_ble_eq_true rfl) (Nat.le_of_ble_eq_true rfl) (Nat.le_of_ble_eq_true rfl) (Nat.le_of_ble_eq_true rfl) ?_
  refine ww_icmp_neN (tgt := 18) dX11_factHere_11 (by decide) (by omega) (by omega) (fun c11 => ?_) (fun c11 => ?_)
  · refine ww_iload_n dX11_factHere_18 rfl rfl ?_
    refine ww_ldcS (i := 12) dX11_factHere_19 rfl ?_
    refine ww_cSr (M := m_X11_factHere) (pc := 21) (v := .int (nI 595412)) (h1 := mrS (mwS h m W) m n a bd bk op) (st := [.int (nI (wdA T n a))]) (d := 5) (bc := 0) (bs := 0) (c_of_12 hst (mrS (mwS h m W) m n a bd bk op)) vv_X11_of dX11_factHere_21 wg_1441 rfl rfl rfl (Nat.le_of_ble_eq_true rfl) (Nat.le_of_ble_eq_true rfl) (Nat.le_of_ble_eq_true rfl) (Nat.le_of_ble_eq_true rfl) ?_
    refine ww_icmp_neN (tgt := 31) dX11_factHere_24 (by decide) (by omega) (by omega) (fun c24 => ?_) (fun c24 => ?_)
    · refine ww_iload_n dX11_factHere_31 rfl rfl ?_
      refine ww_ldcS (i := 13) dX11_factHere_32 rfl ?_
      refine ww_cSr (M := m_X11_factHere) (pc := 34) (v := .int (nI 23609)) (h1 := mrS (mwS h m W) m n a bd bk op) (st := [.int (nI (wdA T n a))]) (d := 5) (bc := 0) (bs := 0) (c_of_13 hst (mrS (mwS h m W) m n a bd bk op)) vv_X11_of dX11_factHere_34 wg_1441 rfl rfl rfl (Nat.le_of_ble_eq_true rfl) (Nat.le_of_ble_eq_true rfl) (Nat.le_of_ble_eq_true rfl) (Nat.le_of_ble_eq_true rfl) ?_
      refine ww_icmp_neN (tgt := 44) dX11_factHere_37 (by decide) (by omega) (by omega) (fun c37 => ?_) (fun c37 => ?_)
      · refine ww_iload_n dX11_factHere_44 rfl rfl ?_
        refine ww_ldcS (i := 14) dX11_factHere_45 rfl ?_
        refine ww_cSr (M := m_X11_factHere) (pc := 47) (v := .int (nI 16496818)) (h1 := mrS (mwS h m W) m n a bd bk op) (st := [.int (nI (wdA T n a))]) (d := 5) (bc := 0) (bs := 0) (c_of_14 hst (mrS (mwS h m W) m n a bd bk op)) vv_X11_of dX11_factHere_47 wg_1441 rfl rfl rfl (Nat.le_of_ble_eq_true rfl) (Nat.le_of_ble_eq_true rfl) (Nat.le_of_ble_eq_true rfl) (Nat.le_of_ble_eq_true rfl) ?_
        refine ww_icmp_neN (tgt := 57) dX11_factHere_50 (by decide) (by omega) (by omega) (fun c50 => ?_) (fun c50 => ?_)
        · refine ww_iload_n dX11_factHere_57 rfl rfl ?_
          refine ww_ldcS (i := 15) dX11_factHere_58 rfl ?_
          refine ww_cSr (M := m_X11_factHere) (pc := 60) (v := .int (nI 16829075)) (h1 := mrS (mwS h m W) m n a bd bk op) (st := [.int (nI (wdA T n a))]) (d := 5) (bc := 0) (bs := 0) (c_of_15 hst (mrS (mwS h m W) m n a bd bk op)) vv_X11_of dX11_factHere_60 wg_1441 rfl rfl rfl (Nat.le_of_ble_eq_true rfl) (Nat.le_of_ble_eq_true rfl) (Nat.le_of_ble_eq_true rfl) (Nat.le_of_ble_eq_true rfl) ?_
          refine ww_icmp_neN (tgt := 70) dX11_factHere_63 (by decide) (by omega) (by omega) (fun c63 => ?_) (fun c63 => ?_)
          · refine ww_iload_n dX11_factHere_70 rfl rfl ?_
            refine ww_ldcS (i := 16) dX11_factHere_71 rfl ?_
            refine ww_cSr (M := m_X11_factHere) (pc := 73) (v := .int (nI 707748)) (h1 := mrS (mwS h m W) m n a bd bk op) (st := [.int (nI (wdA T n a))]) (d := 5) (bc := 0) (bs := 0) (c_of_16 hst (mrS (mwS h m W) m n a bd bk op)) vv_X11_of dX11_factHere_73 wg_1441 rfl rfl rfl (Nat.le_of_ble_eq_true rfl) (Nat.le_of_ble_eq_true rfl) (Nat.le_of_ble_eq_true rfl) (Nat.le_of_ble_eq_true rfl) ?_
            refine ww_icmp_neN (tgt := 83) dX11_factHere_76 (by decide) (by omega) (by omega) (fun c76 => ?_) (fun c76 => ?_)
            · refine ww_iload_n dX11_factHere_83 rfl rfl ?_
              refine ww_ldcS (i := 17) dX11_factHere_84 rfl ?_
              refine ww_cSr (M := m_X11_factHere) (pc := 86) (v := .int (nI 4153)) (h1 := mrS (mwS h m W) m n a bd bk op) (st := [.int (nI (wdA T n a))]) (d := 5) (bc := 0) (bs := 0) (c_of_17 hst (mrS (mwS h m W) m n a bd bk op)) vv_X11_of dX11_factHere_86 wg_1441 rfl rfl rfl (Nat.le_of_ble_eq_true rfl) (Nat.le_of_ble_eq_true rfl) (Nat.le_of_ble_eq_true rfl) (Nat.le_of_ble_eq_true rfl) ?_
              refine ww_icmp_neN (tgt := 97) dX11_factHere_89 (by decide) (by omega) (by omega) (fun c89 => ?_) (fun c89 => ?_)
              · refine ww_iconst (v := -1) dX11_factHere_97 (by decide) ?_
                exact ww_iret dX11_factHere_98 rfl ⟨rfl, rfl⟩
              · exfalso; omega
            · exfalso; omega
          · exfalso; omega
        · exfalso; omega
      · exfalso; omega
    · exfalso; omega
  · exfalso; omega
