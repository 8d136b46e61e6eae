/-! ===== the reference reads the land ===== -/
theorem fdM_none {w : Nat} : ∀ (is : List Nat) (k : Nat), fdM w is k = none → ∀ i ∈ is, w ≠ ofN i
  | [], _, _, i, hi => by cases hi
  | j :: is, k, h, i, hi => by
    unfold fdM at h
    split at h
    · cases h
    · rename_i hne
      rcases List.mem_cons.mp hi with e | e
      · rw [e]; exact hne
      · exact fdM_none is (k + 1) h i e
theorem fdM_some {w : Nat} : ∀ (is : List Nat) (k j : Nat), fdM w is k = some j → k ≤ j ∧ ∃ i, is[j - k]? = some i ∧ w = ofN i
  | [], _, _, h => by cases h
  | x :: is, k, j, h => by
    unfold fdM at h
    split at h
    · rename_i he
      cases h
      exact ⟨Nat.le_refl _, x, by rw [Nat.sub_self]; rfl, he⟩
    · obtain ⟨h1, i, h2, h3⟩ := fdM_some is (k + 1) j h
      refine ⟨by omega, i, ?_, h3⟩
      rw [show j - k = (j - (k + 1)) + 1 by omega, List.getElem?_cons_succ]; exact h2
theorem wM_l {T : Nat → Nat} {n a k q : Nat} (ha : a ≤ n) {W : List (List Nat)} {is : List Nat} (hW : W = is.map wx) (his : ∀ i ∈ is, 6 ≤ i ∧ i < 21) (h : wrdS W T n a = .inl (k, q)) : ∀ i ∈ is, wdA T n a ≠ ofN i := by
  rw [wrdS_M ha hW his] at h
  rcases hf : fdM (wdA T n a) is 0 with _ | j
  · exact fdM_none is 0 hf
  · rw [hf] at h; cases h
theorem wM_r {T : Nat → Nat} {n a b v : Nat} (ha : a ≤ n) {W : List (List Nat)} {is : List Nat} (hW : W = is.map wx) (his : ∀ i ∈ is, 6 ≤ i ∧ i < 21) (h : wrdS W T n a = .inr (b, v)) : ∃ i, is[v]? = some i ∧ wdA T n a = ofN i := by
  rw [wrdS_M ha hW his] at h
  rcases hf : fdM (wdA T n a) is 0 with _ | j
  · rw [hf] at h; cases h
  · rw [hf] at h; cases h
    exact (fdM_some is 0 v hf).2
theorem wdA_lt {T : Nat → Nat} {n a : Nat} (ha : a ≤ n) : wdA T n a < 1073741824 := by
  have hs := sk_le (T := T) ha
  unfold wdA wdM
  split
  · decide
  · exact pkW_sm (fun i hi => (sc_let hs _ (by omega) (by omega)).2) (by omega)
theorem c_MR_word_e {l : Launch} {Z : EE} (hst : l.stackTraces = false) {h : PH} {m : Nat} (hM : ModS h m) {tf : Nat → Int32} (htf : hp_I h (m + 2) = tf) {T : Nat → Nat} (hB : BT tf T) {n : Nat} (hn : n ≤ 600) (bd bk : Int32) (op : Nat) (a : Nat) (ha : a ≤ n) {x : Nat} (hx : wdA T n a = x) : CC l Z m_X11_word 1 0 0 [.ref m] (mrS h m n a bd bk op) (RT (some (.int (nI x))) (mrS h m n (sk T n a) bd bk op)) := by
  subst hx
  exact c_MR_word hst hM htf hB hn bd bk op a ha
/-- the land as the reference has read it so far -/
def mlS (h : PH) (m np du : Nat) (nc no nr : Nat → Int32) : PH := hp_sF (hp_sF (hp_sI (hp_sI (hp_sI h (m + 3) nc) (m + 4) no) (m + 5) nr) m 13 (.int (nI np))) m 14 (.int (nI du))
theorem mlS_F (h : PH) (m np du : Nat) (nc no nr : Nat → Int32) (b j : Nat) : hp_F (mlS h m np du nc no nr) b j = if b = m ∧ j = 14 then .int (nI du) else if b = m ∧ j = 13 then .int (nI np) else hp_F h b j := rfl
theorem mlS_13 (h : PH) (m np du : Nat) (nc no nr : Nat → Int32) : hp_F (mlS h m np du nc no nr) m 13 = .int (nI np) := by rw [mlS_F, if_neg (by omega), if_pos ⟨rfl, rfl⟩]
theorem mlS_14 (h : PH) (m np du : Nat) (nc no nr : Nat → Int32) : hp_F (mlS h m np du nc no nr) m 14 = .int (nI du) := by rw [mlS_F, if_pos ⟨rfl, rfl⟩]
theorem mlS_I (h : PH) (m np du : Nat) (nc no nr : Nat → Int32) (b : Nat) : hp_I (mlS h m np du nc no nr) b = if b = m + 5 then nr else if b = m + 4 then no else if b = m + 3 then nc else hp_I h b := rfl
theorem mlS_3 (h : PH) (m np du : Nat) (nc no nr : Nat → Int32) : hp_I (mlS h m np du nc no nr) (m + 3) = nc := by rw [mlS_I, if_neg (by omega), if_neg (by omega), if_pos rfl]
theorem mlS_4 (h : PH) (m np du : Nat) (nc no nr : Nat → Int32) : hp_I (mlS h m np du nc no nr) (m + 4) = no := by rw [mlS_I, if_neg (by omega), if_pos rfl]
theorem mlS_5 (h : PH) (m np du : Nat) (nc no nr : Nat → Int32) : hp_I (mlS h m np du nc no nr) (m + 5) = nr := by rw [mlS_I, if_pos rfl]
theorem mlS_M {h : PH} {m : Nat} (hM : ModS h m) (np du : Nat) (nc no nr : Nat → Int32) : ModS (mlS h m np du nc no nr) m := by
  unfold mlS
  exact ((((hM.sI).sI).sI).sF (by decide)).sF (by decide)
theorem mlS_t {h : PH} {m np du : Nat} {nc no nr tf : Nat → Int32} (htf : hp_I h (m + 2) = tf) : hp_I (mlS h m np du nc no nr) (m + 2) = tf := by rw [mlS_I, if_neg (by omega), if_neg (by omega), if_neg (by omega)]; exact htf
theorem ml_s3 (h : PH) (m np du : Nat) (nc no nr : Nat → Int32) (n a : Nat) (bd bk : Int32) (op : Nat) (g : Nat → Int32) : hp_sI (mrS (mlS h m np du nc no nr) m n a bd bk op) (m + 3) g = mrS (mlS h m np du g no nr) m n a bd bk op := by
  refine hp_ext rfl (fun _ => rfl) (fun _ _ => rfl) (fun x => ?_) (fun _ => rfl)
  show (if x = m + 3 then g else hp_I (mlS h m np du nc no nr) x) = hp_I (mlS h m np du g no nr) x
  rw [mlS_I, mlS_I]
  by_cases e : x = m + 3
  · rw [if_pos e, if_neg (by omega), if_neg (by omega), if_pos e]
  · rw [if_neg e, if_neg e, if_neg e]
theorem ml_s4 (h : PH) (m np du : Nat) (nc no nr : Nat → Int32) (n a : Nat) (bd bk : Int32) (op : Nat) (g : Nat → Int32) : hp_sI (mrS (mlS h m np du nc no nr) m n a bd bk op) (m + 4) g = mrS (mlS h m np du nc g nr) m n a bd bk op := by
  refine hp_ext rfl (fun _ => rfl) (fun _ _ => rfl) (fun x => ?_) (fun _ => rfl)
  show (if x = m + 4 then g else hp_I (mlS h m np du nc no nr) x) = hp_I (mlS h m np du nc g nr) x
  rw [mlS_I, mlS_I]
  by_cases e : x = m + 4
  · rw [if_pos e, if_neg (by omega), if_pos e]
  · rw [if_neg e, if_neg e, if_neg e]
theorem ml_s5 (h : PH) (m np du : Nat) (nc no nr : Nat → Int32) (n a : Nat) (bd bk : Int32) (op : Nat) (g : Nat → Int32) : hp_sI (mrS (mlS h m np du nc no nr) m n a bd bk op) (m + 5) g = mrS (mlS h m np du nc no g) m n a bd bk op := by
  refine hp_ext rfl (fun _ => rfl) (fun _ _ => rfl) (fun x => ?_) (fun _ => rfl)
  show (if x = m + 5 then g else hp_I (mlS h m np du nc no nr) x) = hp_I (mlS h m np du nc no g) x
  rw [mlS_I, mlS_I]
  by_cases e : x = m + 5
  · rw [if_pos e, if_pos e]
  · rw [if_neg e, if_neg e, if_neg e]
theorem ml_s13 (h : PH) (m np du : Nat) (nc no nr : Nat → Int32) (n a : Nat) (bd bk : Int32) (op v : Nat) : hp_sF (mrS (mlS h m np du nc no nr) m n a bd bk op) m 13 (.int (nI v)) = mrS (mlS h m v du nc no nr) m n a bd bk op := by
  refine hp_ext rfl (fun _ => rfl) (fun x j => ?_) (fun _ => rfl) (fun _ => rfl)
  show (if x = m ∧ j = 13 then _ else hp_F (mrS (mlS h m np du nc no nr) m n a bd bk op) x j) = _
  rw [mrS_F, mrS_F, mlS_F, mlS_F]
  by_cases e : x = m ∧ j = 13
  · rw [if_pos e, if_neg (by omega), if_neg (by omega), if_neg (by omega), if_neg (by omega), if_neg (by omega), if_neg (by omega), if_pos e]
  · rw [if_neg e, if_neg e, if_neg e]
theorem ml_s14 (h : PH) (m np du : Nat) (nc no nr : Nat → Int32) (n a : Nat) (bd bk : Int32) (op v : Nat) : hp_sF (mrS (mlS h m np du nc no nr) m n a bd bk op) m 14 (.int (nI v)) = mrS (mlS h m np v nc no nr) m n a bd bk op := by
  refine hp_ext rfl (fun _ => rfl) (fun x j => ?_) (fun _ => rfl) (fun _ => rfl)
  show (if x = m ∧ j = 14 then _ else hp_F (mrS (mlS h m np du nc no nr) m n a bd bk op) x j) = _
  rw [mrS_F, mrS_F, mlS_F, mlS_F]
  by_cases e : x = m ∧ j = 14
  · rw [if_pos e, if_neg (by omega), if_neg (by omega), if_neg (by omega), if_neg (by omega), if_neg (by omega), if_pos e]
  · rw [if_neg e, if_neg e, if_neg e]
/-- the rows told so far -/
def MlR (s : LSt) (nc no nr : Nat → Int32) : Prop := (∀ i, i < 61 → no i = s.2.2 i) ∧ (∀ i, i < 61 → nr i = s.2.2 (61 + i)) ∧ ∀ p, p < s.1 → nc p = s.2.2 (183 + p)
/-- how the reference's reading of the land ends -/
def MlO (h : PH) (m n : Nat) (bk : Int32) (op : Nat) (r : PR LSt) (h9 : PH) : Prop := match r with
  | .inl e => ∃ a np du nc no nr, a ≤ n ∧ np ≤ 6 ∧ du ≤ 20 ∧ h9 = mrS (mlS h m np du nc no nr) m n a (nI e.2) (nI e.1) op
  | .inr x => ∃ nc no nr, MlR x.2 nc no nr ∧ h9 = mrS (mlS h m x.2.1 x.2.2.1 nc no nr) m n x.1 (-1) bk op
/-- what a row tells, its word read -/
def rwS (T : Nat → Nat) (n w : Nat) (s : LSt) (a1 : Nat) : PR LSt :=
  if w = 0 then bS (figS T n 0 1000 a1) (fun a2 v => .inr (a2, (s.1 + 1, s.2.1, upd s.2.2 (183 + s.1) (nI v))))
  else if w = 1 then owS T n s a1
  else bS (figS T n 0 21 a1) (fun a2 v => .inr (a2, (s.1, v, s.2.2)))
theorem rwS_k {T : Nat → Nat} {n w : Nat} {s : LSt} {a k q : Nat} (h : rwS T n w s a = .inl (k, q)) : 0 < k ∧ k < 10 := by
  unfold rwS at h
  split at h
  · rcases h2 : figS T n 0 1000 a with ⟨k2, q2⟩ | ⟨a2, v2⟩
    · rw [h2, bS_l] at h; cases h; have := (figS_l h2).1; omega
    · rw [h2, bS_r] at h; cases h
  · split at h
    · exact owS_k h
    · rcases h2 : figS T n 0 21 a with ⟨k2, q2⟩ | ⟨a2, v2⟩
      · rw [h2, bS_l] at h; cases h; have := (figS_l h2).1; omega
      · rw [h2, bS_r] at h; cases h
theorem clS_rw {T : Nat → Nat} {n t : Nat} {s : LSt} {a a1 w : Nat} (h : wrdS wLand T n a = .inr (a1, w)) (ht : t < 60) (hw : w = 0 → s.1 < 6) : clS T n t s a = bS (rwS T n w s a1) (fun a4 s4 => bS (sgnS T n 59 a4) (fun a5 _ => .inr (a5, s4))) := by
  have hw3 : w < 3 := by
    have h9 := (fdW_k wLand 0 w (wrdS_r h).2).2.1
    exact h9
  by_cases e0 : w = 0
  · subst e0
    rw [clS_0 h ht (hw rfl)]
    unfold rwS
    rw [if_pos rfl]
    rcases figS T n 0 1000 a1 with e | ⟨a2, v2⟩
    · rfl
    · rw [bS_r, bS_r, bS_r]
  · by_cases e1 : w = 1
    · subst e1
      rw [clS_ow h (by omega)]
      unfold rwS
      rw [if_neg (by omega), if_pos rfl]
    · have e2 : w = 2 := by omega
      subst e2
      rw [clS_2 h ht]
      unfold rwS
      rw [if_neg (by omega), if_neg (by omega)]
      rcases figS T n 0 21 a1 with e | ⟨a2, v2⟩
      · rfl
      · rw [bS_r, bS_r, bS_r]
theorem figS_lq {T : Nat → Nat} {n lo hx a k q : Nat} (ha : a ≤ n) (h : figS T n lo hx a = .inl (k, q)) : q ≤ n := by rw [(figS_l h).2]; exact sk_le ha
theorem sgnS_lq {T : Nat → Nat} {n c a k q : Nat} (ha : a ≤ n) (h : sgnS T n c a = .inl (k, q)) : q ≤ n := by rw [(sgnS_l h).2.1]; exact sk_le ha
theorem wrdS_lq {W : List (List Nat)} {T : Nat → Nat} {n a k q : Nat} (ha : a ≤ n) (h : wrdS W T n a = .inl (k, q)) : q ≤ n := by rw [(wrdS_l h).2.1]; exact sk_le ha
theorem c_of_6 {l : Launch} {Z : EE} (hst : l.stackTraces = false) (h : PH) : CC l Z m_X11_of 4 0 0 [.ref (1000000 + (1 + 6))] h (RT (some (.int (nI 542723566))) h) := c_MR_of hst 6 (by decide) (by decide) h
theorem c_of_7 {l : Launch} {Z : EE} (hst : l.stackTraces = false) (h : PH) : CC l Z m_X11_of 4 0 0 [.ref (1000000 + (1 + 7))] h (RT (some (.int (nI 16110))) h) := c_MR_of hst 7 (by decide) (by decide) h
theorem c_of_8 {l : Launch} {Z : EE} (hst : l.stackTraces = false) (h : PH) : CC l Z m_X11_of 4 0 0 [.ref (1000000 + (1 + 8))] h (RT (some (.int (nI 153241))) h) := c_MR_of hst 8 (by decide) (by decide) h
theorem c_of_9 {l : Launch} {Z : EE} (hst : l.stackTraces = false) (h : PH) : CC l Z m_X11_of 4 0 0 [.ref (1000000 + (1 + 9))] h (RT (some (.int (nI 12748404))) h) := c_MR_of hst 9 (by decide) (by decide) h
theorem c_of_10 {l : Launch} {Z : EE} (hst : l.stackTraces = false) (h : PH) : CC l Z m_X11_of 4 0 0 [.ref (1000000 + (1 + 10))] h (RT (some (.int (nI 441972))) h) := c_MR_of hst 10 (by decide) (by decide) h
theorem c_of_11 {l : Launch} {Z : EE} (hst : l.stackTraces = false) (h : PH) : CC l Z m_X11_of 4 0 0 [.ref (1000000 + (1 + 11))] h (RT (some (.int (nI 492210354))) h) := c_MR_of hst 11 (by decide) (by decide) h
theorem c_of_12 {l : Launch} {Z : EE} (hst : l.stackTraces = false) (h : PH) : CC l Z m_X11_of 4 0 0 [.ref (1000000 + (1 + 12))] h (RT (some (.int (nI 595412))) h) := c_MR_of hst 12 (by decide) (by decide) h
theorem c_of_13 {l : Launch} {Z : EE} (hst : l.stackTraces = false) (h : PH) : CC l Z m_X11_of 4 0 0 [.ref (1000000 + (1 + 13))] h (RT (some (.int (nI 23609))) h) := c_MR_of hst 13 (by decide) (by decide) h
theorem c_of_14 {l : Launch} {Z : EE} (hst : l.stackTraces = false) (h : PH) : CC l Z m_X11_of 4 0 0 [.ref (1000000 + (1 + 14))] h (RT (some (.int (nI 16496818))) h) := c_MR_of hst 14 (by decide) (by decide) h
theorem c_of_15 {l : Launch} {Z : EE} (hst : l.stackTraces = false) (h : PH) : CC l Z m_X11_of 4 0 0 [.ref (1000000 + (1 + 15))] h (RT (some (.int (nI 16829075))) h) := c_MR_of hst 15 (by decide) (by decide) h
theorem c_of_16 {l : Launch} {Z : EE} (hst : l.stackTraces = false) (h : PH) : CC l Z m_X11_of 4 0 0 [.ref (1000000 + (1 + 16))] h (RT (some (.int (nI 707748))) h) := c_MR_of hst 16 (by decide) (by decide) h
theorem c_of_17 {l : Launch} {Z : EE} (hst : l.stackTraces = false) (h : PH) : CC l Z m_X11_of 4 0 0 [.ref (1000000 + (1 + 17))] h (RT (some (.int (nI 4153))) h) := c_MR_of hst 17 (by decide) (by decide) h
theorem c_of_18 {l : Launch} {Z : EE} (hst : l.stackTraces = false) (h : PH) : CC l Z m_X11_of 4 0 0 [.ref (1000000 + (1 + 18))] h (RT (some (.int (nI 22117))) h) := c_MR_of hst 18 (by decide) (by decide) h
theorem c_of_19 {l : Launch} {Z : EE} (hst : l.stackTraces = false) (h : PH) : CC l Z m_X11_of 4 0 0 [.ref (1000000 + (1 + 19))] h (RT (some (.int (nI 628108))) h) := c_MR_of hst 19 (by decide) (by decide) h
theorem c_of_20 {l : Launch} {Z : EE} (hst : l.stackTraces = false) (h : PH) : CC l Z m_X11_of 4 0 0 [.ref (1000000 + (1 + 20))] h (RT (some (.int (nI 1279278))) h) := c_MR_of hst 20 (by decide) (by decide) h
set_option maxHeartbeats 4000000 in
set_option maxRecDepth 100000 in
theorem c_ML_row0 {l : Launch} {Z : EE} (hst : l.stackTraces = false) {h : PH} {m : Nat} (hM : ModS h m) {tf : Nat → Int32} (htf : hp_I h (m + 2) = tf) {T : Nat → Nat} (hB : BT tf T) {n : Nat} (hn : n ≤ 600) (bk : Int32) (op : Nat) (a : Nat) (ha : a ≤ n) {s : LSt} (hs : LsI s) {nc no nr : Nat → Int32} (hr0 : MlR s nc no nr) (h6 : s.1 < 6) : CC l Z m_X11_readRow 5 0 0 [.ref m, .int (nI 542723566)] (mrS (mlS h m s.1 s.2.1 nc no nr) m n a (-1) bk op) (RQ none (MlO h m n bk op (rwS T n 0 s a))) := by
  refine ee_entry hst (by decide +kernel) rfl rfl (by simp [Value.category]) (Nat.le_of_ble_eq_true rfl) ?_
  refine ww_lv (lv2 := [.ref m, .int (nI 542723566), UU, UU, UU]) rfl ?_
  obtain ⟨hs1, hs2, hs3⟩ := hs
  obtain ⟨g1, g2, g3⟩ := hr0
  refine ww_iload_n dX11_readRow_0 rfl rfl ?_
  refine ww_ldcS (i := 6) dX11_readRow_1 rfl ?_
  refine ww_cSr (M := m_X11_readRow) (pc := 3) (v := .int (nI 542723566)) (h1 := mrS (mlS h m s.1 s.2.1 nc no nr) m n a (-1) bk op) (st := [.int (nI 542723566)]) (d := 5) (bc := 0) (bs := 0) (c_of_6 hst (mrS (mlS h m s.1 s.2.1 nc no nr) m n a (-1) bk op)) vv_X11_of dX11_readRow_3 wg_1441 rfl rfl rfl (Nat.le_of_ble_eq_true rfl) (Nat.le_of_ble_eq_true rfl) (Nat.le_of_ble_eq_true rfl) (Nat.le_of_ble_eq_true rfl) ?_
  refine ww_icmp_neN (tgt := 39) dX11_readRow_6 (by decide) (by omega) (by omega) (fun c6 => ?_) (fun c6 => ?_)
  · exact absurd c6 (by decide)
  · refine ww_aload_n dX11_readRow_9 rfl rfl ?_
    refine ww_get 10 dX11_readRow_10 ((mlS_M hM s.1 s.2.1 nc no nr).K0) rfl (by decide) inX11 wg_1250 (mrS_j _ _ _ _ _ (by decide) (mlS_M hM s.1 s.2.1 nc no nr).F3) ?_
    refine ww_aload_n dX11_readRow_13 rfl rfl ?_
    refine ww_get 13 dX11_readRow_14 ((mlS_M hM s.1 s.2.1 nc no nr).K0) rfl (by decide) inX11 wg_1253 (mrS_j _ _ _ _ _ (by decide) (mlS_13 _ _ _ _ _ _ _)) ?_
    refine ww_aload_n dX11_readRow_17 rfl rfl ?_
    refine ww_iconst (v := nI 0) dX11_readRow_18 (by decide) ?_
    refine ww_sipush (v := nI 999) dX11_readRow_19 (by decide) ?_
    rcases hr5001 : figS T n 0 1000 a with ⟨k5001, q5001⟩ | ⟨a5001, v5001⟩
    · have hf5001 := (figS_l hr5001).1
      have hq5001 := figS_lq (by omega) hr5001
      refine ww_cVq (M := m_X11_readRow) (pc := 22) (v := .int (nI 0)) (st := [.int (nI s.1), .ref (m + 3)]) (d := 5) (bc := 0) (bs := 0) (c_MR_num_l hst (mlS_M hM s.1 s.2.1 nc no nr) (mlS_t (np := s.1) (du := s.2.1) (nc := nc) (no := no) (nr := nr) htf) hB hn a bk op (by omega) 0 1000 (nI 999) (by omega) (by omega) (hi_c 999 (by decide)) hr5001) vv_X11_readNumber dX11_readRow_22 wg_1460 ((mlS_M hM s.1 s.2.1 nc no nr).K0) rfl rfl rfl rfl (Nat.le_of_ble_eq_true rfl) (Nat.le_of_ble_eq_true rfl) (Nat.le_of_ble_eq_true rfl) (Nat.le_of_ble_eq_true rfl) (fun hx5001h qx5001 => ?_)
      obtain ⟨x5001, hx5001, rfl⟩ := qx5001
      refine ww_iastF dX11_readRow_25 ((mlS_M hM s.1 s.2.1 nc no nr).K3) (mlS_3 h m s.1 s.2.1 nc no nr) (by omega) (by omega) ?_
      refine ww_hp (h2 := mrS (mlS h m s.1 s.2.1 (upd nc s.1 (nI 0)) no nr) m n x5001 (nI q5001) (nI k5001) op) (ml_s3 _ _ _ _ _ _ _ _ _ _ _ _ _) ?_
      refine ww_aload_n dX11_readRow_26 rfl rfl ?_
      refine ww_dup dX11_readRow_27 rfl ?_
      refine ww_get 13 dX11_readRow_28 ((mlS_M hM s.1 s.2.1 (upd nc s.1 (nI 0)) no nr).K0) rfl (by decide) inX11 wg_1253 (mrS_j _ _ _ _ _ (by decide) (mlS_13 _ _ _ _ _ _ _)) ?_
      refine ww_iconst (v := nI 1) dX11_readRow_31 (by decide) ?_
      refine ww_iaddN dX11_readRow_32 ?_
      refine ww_pfI tyX11 13 dX11_readRow_33 ((mlS_M hM s.1 s.2.1 (upd nc s.1 (nI 0)) no nr).K0) rfl (by decide) inX11 tyX11_ok nmX11 wg_1253 rfl rfl ?_
      refine ww_hp (h2 := mrS (mlS h m (s.1 + 1) s.2.1 (upd nc s.1 (nI 0)) no nr) m n x5001 (nI q5001) (nI k5001) op) (ml_s13 _ _ _ _ _ _ _ _ _ _ _ _ _) ?_
      refine ww_goto (tgt := 114) dX11_readRow_36 (by decide) ?_
      exact ww_vret dX11_readRow_114 rfl ⟨rfl, (by unfold rwS; rw [if_pos rfl]; rw [hr5001, bS_l]; exact ⟨x5001, s.1 + 1, s.2.1, upd nc s.1 (nI 0), no, nr, by omega, by omega, by omega, rfl⟩)⟩
    · have hf5001 := figS_r (by omega) hr5001
      have hg5001 := sk_ge (T := T) (show a ≤ n by omega)
      refine ww_cVr (M := m_X11_readRow) (pc := 22) (v := .int (nI v5001)) (h1 := mrS (mlS h m s.1 s.2.1 nc no nr) m n a5001 (-1) bk op) (st := [.int (nI s.1), .ref (m + 3)]) (d := 5) (bc := 0) (bs := 0) (c_MR_num_r hst (mlS_M hM s.1 s.2.1 nc no nr) (mlS_t (np := s.1) (du := s.2.1) (nc := nc) (no := no) (nr := nr) htf) hB hn a bk op (by omega) 0 1000 (nI 999) (by omega) (by omega) (hi_c 999 (by decide)) hr5001) vv_X11_readNumber dX11_readRow_22 wg_1460 ((mlS_M hM s.1 s.2.1 nc no nr).K0) rfl rfl rfl rfl (Nat.le_of_ble_eq_true rfl) (Nat.le_of_ble_eq_true rfl) (Nat.le_of_ble_eq_true rfl) (Nat.le_of_ble_eq_true rfl) ?_
      refine ww_iastF dX11_readRow_25 ((mlS_M hM s.1 s.2.1 nc no nr).K3) (mlS_3 h m s.1 s.2.1 nc no nr) (by omega) (by omega) ?_
      refine ww_hp (h2 := mrS (mlS h m s.1 s.2.1 (upd nc s.1 (nI v5001)) no nr) m n a5001 (-1) bk op) (ml_s3 _ _ _ _ _ _ _ _ _ _ _ _ _) ?_
      refine ww_aload_n dX11_readRow_26 rfl rfl ?_
      refine ww_dup dX11_readRow_27 rfl ?_
      refine ww_get 13 dX11_readRow_28 ((mlS_M hM s.1 s.2.1 (upd nc s.1 (nI v5001)) no nr).K0) rfl (by decide) inX11 wg_1253 (mrS_j _ _ _ _ _ (by decide) (mlS_13 _ _ _ _ _ _ _)) ?_
      refine ww_iconst (v := nI 1) dX11_readRow_31 (by decide) ?_
      refine ww_iaddN dX11_readRow_32 ?_
      refine ww_pfI tyX11 13 dX11_readRow_33 ((mlS_M hM s.1 s.2.1 (upd nc s.1 (nI v5001)) no nr).K0) rfl (by decide) inX11 tyX11_ok nmX11 wg_1253 rfl rfl ?_
      refine ww_hp (h2 := mrS (mlS h m (s.1 + 1) s.2.1 (upd nc s.1 (nI v5001)) no nr) m n a5001 (-1) bk op) (ml_s13 _ _ _ _ _ _ _ _ _ _ _ _ _) ?_
      refine ww_goto (tgt := 114) dX11_readRow_36 (by decide) ?_
      exact ww_vret dX11_readRow_114 rfl ⟨rfl, (by unfold rwS; rw [if_pos rfl]; rw [hr5001, bS_r]; exact ⟨_, _, _, ⟨fun i hi => by show _ = upd s.2.2 _ _ i; rw [pk_un (by omega)]; exact g1 i hi, fun i hi => by show _ = upd s.2.2 _ _ (61 + i); rw [pk_un (by omega)]; exact g2 i hi, fun q hq => by show upd nc s.1 _ q = upd s.2.2 (183 + s.1) _ (183 + q); by_cases e : q = s.1; rw [e, pk_us, pk_us]; rw [pk_un e, pk_un (by omega)]; exact g3 q (by have hq2 : q < s.1 + 1 := hq; omega)⟩, rfl⟩)⟩
set_option maxHeartbeats 4000000 in
set_option maxRecDepth 100000 in
theorem c_ML_row1 {l : Launch} {Z : EE} (hst : l.stackTraces = false) {h : PH} {m : Nat} (hM : ModS h m) {tf : Nat → Int32} (htf : hp_I h (m + 2) = tf) {T : Nat → Nat} (hB : BT tf T) {n : Nat} (hn : n ≤ 600) (bk : Int32) (op : Nat) (a : Nat) (ha : a ≤ n) {s : LSt} (hs : LsI s) {nc no nr : Nat → Int32} (hr0 : MlR s nc no nr) : CC l Z m_X11_readRow 5 0 0 [.ref m, .int (nI 16110)] (mrS (mlS h m s.1 s.2.1 nc no nr) m n a (-1) bk op) (RQ none (MlO h m n bk op (rwS T n 1 s a))) := by
  refine ee_entry hst (by decide +kernel) rfl rfl (by simp [Value.category]) (Nat.le_of_ble_eq_true rfl) ?_
  refine ww_lv (lv2 := [.ref m, .int (nI 16110), UU, UU, UU]) rfl ?_
  obtain ⟨hs1, hs2, hs3⟩ := hs
  obtain ⟨g1, g2, g3⟩ := hr0
  refine ww_iload_n dX11_readRow_0 rfl rfl ?_
  refine ww_ldcS (i := 6) dX11_readRow_1 rfl ?_
  refine ww_cSr (M := m_X11_readRow) (pc := 3) (v := .int (nI 542723566)) (h1 := mrS (mlS h m s.1 s.2.1 nc no nr) m n a (-1) bk op) (st := [.int (nI 16110)]) (d := 5) (bc := 0) (bs := 0) (c_of_6 hst (mrS (mlS h m s.1 s.2.1 nc no nr) m n a (-1) bk op)) vv_X11_of dX11_readRow_3 wg_1441 rfl rfl rfl (Nat.le_of_ble_eq_true rfl) (Nat.le_of_ble_eq_true rfl) (Nat.le_of_ble_eq_true rfl) (Nat.le_of_ble_eq_true rfl) ?_
  refine ww_icmp_neN (tgt := 39) dX11_readRow_6 (by decide) (by omega) (by omega) (fun c6 => ?_) (fun c6 => ?_)
  · refine ww_iload_n dX11_readRow_39 rfl rfl ?_
    refine ww_ldcS (i := 7) dX11_readRow_40 rfl ?_
    refine ww_cSr (M := m_X11_readRow) (pc := 42) (v := .int (nI 16110)) (h1 := mrS (mlS h m s.1 s.2.1 nc no nr) m n a (-1) bk op) (st := [.int (nI 16110)]) (d := 5) (bc := 0) (bs := 0) (c_of_7 hst (mrS (mlS h m s.1 s.2.1 nc no nr) m n a (-1) bk op)) vv_X11_of dX11_readRow_42 wg_1441 rfl rfl rfl (Nat.le_of_ble_eq_true rfl) (Nat.le_of_ble_eq_true rfl) (Nat.le_of_ble_eq_true rfl) (Nat.le_of_ble_eq_true rfl) ?_
    refine ww_icmp_neN (tgt := 103) dX11_readRow_45 (by decide) (by omega) (by omega) (fun c45 => ?_) (fun c45 => ?_)
    · exact absurd c45 (by decide)
    · refine ww_aload_n dX11_readRow_48 rfl rfl ?_
      refine ww_iconst (v := nI 0) dX11_readRow_49 (by decide) ?_
      refine ww_bipush (v := nI 60) dX11_readRow_50 (by decide) ?_
      rcases hr5002 : figS T n 0 61 a with ⟨k5002, q5002⟩ | ⟨a5002, v5002⟩
      · have hf5002 := (figS_l hr5002).1
        have hq5002 := figS_lq (by omega) hr5002
        refine ww_cVq (M := m_X11_readRow) (pc := 52) (v := .int (nI 0)) (st := []) (d := 5) (bc := 0) (bs := 0) (c_MR_num_l hst (mlS_M hM s.1 s.2.1 nc no nr) (mlS_t (np := s.1) (du := s.2.1) (nc := nc) (no := no) (nr := nr) htf) hB hn a bk op (by omega) 0 61 (nI 60) (by omega) (by omega) (hi_c 60 (by decide)) hr5002) vv_X11_readNumber dX11_readRow_52 wg_1460 ((mlS_M hM s.1 s.2.1 nc no nr).K0) rfl rfl rfl rfl (Nat.le_of_ble_eq_true rfl) (Nat.le_of_ble_eq_true rfl) (Nat.le_of_ble_eq_true rfl) (Nat.le_of_ble_eq_true rfl) (fun hx5002h qx5002 => ?_)
        obtain ⟨x5002, hx5002, rfl⟩ := qx5002
        refine ww_sti_n (lv2 := [.ref m, .int (nI 16110), .int (nI 0), UU, UU]) dX11_readRow_55 rfl rfl (by decide) rfl ?_
        refine ww_aload_n dX11_readRow_56 rfl rfl ?_
        refine ww_iconst (v := nI 0) dX11_readRow_57 (by decide) ?_
        refine ww_aload_n dX11_readRow_58 rfl rfl ?_
        refine ww_get 13 dX11_readRow_59 ((mlS_M hM s.1 s.2.1 nc no nr).K0) rfl (by decide) inX11 wg_1253 (mrS_j _ _ _ _ _ (by decide) (mlS_13 _ _ _ _ _ _ _)) ?_
        refine ww_iconst (v := nI 1) dX11_readRow_62 (by decide) ?_
        refine ww_isub dX11_readRow_63 ?_
        refine ww_cVr (M := m_X11_readRow) (pc := 64) (v := .int (nI 0)) (h1 := mrS (mlS h m s.1 s.2.1 nc no nr) m n x5002 (nI q5002) (nI k5002) op) (st := []) (d := 5) (bc := 0) (bs := 0) (c_MR_num_f hst (mlS_M hM s.1 s.2.1 nc no nr) (mlS_t (np := s.1) (du := s.2.1) (nc := nc) (no := no) (nr := nr) htf) hB hn x5002 (nI k5002) op q5002 (by omega) 0 ((nI s.1) - (nI 1))) vv_X11_readNumber dX11_readRow_64 wg_1460 ((mlS_M hM s.1 s.2.1 nc no nr).K0) rfl rfl rfl rfl (Nat.le_of_ble_eq_true rfl) (Nat.le_of_ble_eq_true rfl) (Nat.le_of_ble_eq_true rfl) (Nat.le_of_ble_eq_true rfl) ?_
        refine ww_sti_n (lv2 := [.ref m, .int (nI 16110), .int (nI 0), .int (nI 0), UU]) dX11_readRow_67 rfl rfl (by decide) rfl ?_
        refine ww_aload_n dX11_readRow_68 rfl rfl ?_
        refine ww_iconst (v := nI 0) dX11_readRow_69 (by decide) ?_
        refine ww_bipush (v := nI 40) dX11_readRow_70 (by decide) ?_
        refine ww_cVr (M := m_X11_readRow) (pc := 72) (v := .int (nI 0)) (h1 := mrS (mlS h m s.1 s.2.1 nc no nr) m n x5002 (nI q5002) (nI k5002) op) (st := []) (d := 5) (bc := 0) (bs := 0) (c_MR_num_f hst (mlS_M hM s.1 s.2.1 nc no nr) (mlS_t (np := s.1) (du := s.2.1) (nc := nc) (no := no) (nr := nr) htf) hB hn x5002 (nI k5002) op q5002 (by omega) 0 (nI 40)) vv_X11_readNumber dX11_readRow_72 wg_1460 ((mlS_M hM s.1 s.2.1 nc no nr).K0) rfl rfl rfl rfl (Nat.le_of_ble_eq_true rfl) (Nat.le_of_ble_eq_true rfl) (Nat.le_of_ble_eq_true rfl) (Nat.le_of_ble_eq_true rfl) ?_
        refine ww_sti (lv2 := [.ref m, .int (nI 16110), .int (nI 0), .int (nI 0), .int (nI 0)]) dX11_readRow_75 rfl (by decide) rfl ?_
        refine ww_aload_n dX11_readRow_77 rfl rfl ?_
        refine ww_cVr (M := m_X11_readRow) (pc := 78) (v := .int (nI 0)) (h1 := mrS (mlS h m s.1 s.2.1 nc no nr) m n x5002 (nI q5002) (nI k5002) op) (st := []) (d := 5) (bc := 0) (bs := 0) (c_MR_fine_f hst (mlS_M hM s.1 s.2.1 nc no nr) (mlS_t (np := s.1) (du := s.2.1) (nc := nc) (no := no) (nr := nr) htf) hB hn x5002 (nI k5002) op q5002 (by omega)) vv_X11_fine dX11_readRow_78 wg_1421 ((mlS_M hM s.1 s.2.1 nc no nr).K0) rfl rfl rfl rfl (Nat.le_of_ble_eq_true rfl) (Nat.le_of_ble_eq_true rfl) (Nat.le_of_ble_eq_true rfl) (Nat.le_of_ble_eq_true rfl) ?_
        refine ww_if_neN (tgt := 85) dX11_readRow_81 (by decide) (by omega) (fun c81 => ?_) (fun c81 => ?_)
        · exact absurd c81 (by decide)
        · exact ww_vret dX11_readRow_84 rfl ⟨rfl, (by unfold rwS; rw [if_neg (by omega), if_pos rfl]; unfold owS; rw [hr5002, bS_l]; exact ⟨x5002, s.1, s.2.1, nc, no, nr, by omega, by omega, by omega, rfl⟩)⟩
      · have hf5002 := figS_r (by omega) hr5002
        have hg5002 := sk_ge (T := T) (show a ≤ n by omega)
        refine ww_cVr (M := m_X11_readRow) (pc := 52) (v := .int (nI v5002)) (h1 := mrS (mlS h m s.1 s.2.1 nc no nr) m n a5002 (-1) bk op) (st := []) (d := 5) (bc := 0) (bs := 0) (c_MR_num_r hst (mlS_M hM s.1 s.2.1 nc no nr) (mlS_t (np := s.1) (du := s.2.1) (nc := nc) (no := no) (nr := nr) htf) hB hn a bk op (by omega) 0 61 (nI 60) (by omega) (by omega) (hi_c 60 (by decide)) hr5002) vv_X11_readNumber dX11_readRow_52 wg_1460 ((mlS_M hM s.1 s.2.1 nc no nr).K0) rfl rfl rfl rfl (Nat.le_of_ble_eq_true rfl) (Nat.le_of_ble_eq_true rfl) (Nat.le_of_ble_eq_true rfl) (Nat.le_of_ble_eq_true rfl) ?_
        refine ww_sti_n (lv2 := [.ref m, .int (nI 16110), .int (nI v5002), UU, UU]) dX11_readRow_55 rfl rfl (by decide) rfl ?_
        refine ww_aload_n dX11_readRow_56 rfl rfl ?_
        refine ww_iconst (v := nI 0) dX11_readRow_57 (by decide) ?_
        refine ww_aload_n dX11_readRow_58 rfl rfl ?_
        refine ww_get 13 dX11_readRow_59 ((mlS_M hM s.1 s.2.1 nc no nr).K0) rfl (by decide) inX11 wg_1253 (mrS_j _ _ _ _ _ (by decide) (mlS_13 _ _ _ _ _ _ _)) ?_
        refine ww_iconst (v := nI 1) dX11_readRow_62 (by decide) ?_
        refine ww_isub dX11_readRow_63 ?_
        rcases hr5003 : figS T n 0 s.1 a5002 with ⟨k5003, q5003⟩ | ⟨a5003, v5003⟩
        · have hf5003 := (figS_l hr5003).1
          have hq5003 := figS_lq (by omega) hr5003
          refine ww_cVq (M := m_X11_readRow) (pc := 64) (v := .int (nI 0)) (st := []) (d := 5) (bc := 0) (bs := 0) (c_MR_num_l hst (mlS_M hM s.1 s.2.1 nc no nr) (mlS_t (np := s.1) (du := s.2.1) (nc := nc) (no := no) (nr := nr) htf) hB hn a5002 bk op (by omega) 0 s.1 ((nI s.1) - (nI 1)) (by omega) (by omega) (hi_np (by omega)) hr5003) vv_X11_readNumber dX11_readRow_64 wg_1460 ((mlS_M hM s.1 s.2.1 nc no nr).K0) rfl rfl rfl rfl (Nat.le_of_ble_eq_true rfl) (Nat.le_of_ble_eq_true rfl) (Nat.le_of_ble_eq_true rfl) (Nat.le_of_ble_eq_true rfl) (fun hx5003h qx5003 => ?_)
          obtain ⟨x5003, hx5003, rfl⟩ := qx5003
          refine ww_sti_n (lv2 := [.ref m, .int (nI 16110), .int (nI v5002), .int (nI 0), UU]) dX11_readRow_67 rfl rfl (by decide) rfl ?_
          refine ww_aload_n dX11_readRow_68 rfl rfl ?_
          refine ww_iconst (v := nI 0) dX11_readRow_69 (by decide) ?_
          refine ww_bipush (v := nI 40) dX11_readRow_70 (by decide) ?_
          refine ww_cVr (M := m_X11_readRow) (pc := 72) (v := .int (nI 0)) (h1 := mrS (mlS h m s.1 s.2.1 nc no nr) m n x5003 (nI q5003) (nI k5003) op) (st := []) (d := 5) (bc := 0) (bs := 0) (c_MR_num_f hst (mlS_M hM s.1 s.2.1 nc no nr) (mlS_t (np := s.1) (du := s.2.1) (nc := nc) (no := no) (nr := nr) htf) hB hn x5003 (nI k5003) op q5003 (by omega) 0 (nI 40)) vv_X11_readNumber dX11_readRow_72 wg_1460 ((mlS_M hM s.1 s.2.1 nc no nr).K0) rfl rfl rfl rfl (Nat.le_of_ble_eq_true rfl) (Nat.le_of_ble_eq_true rfl) (Nat.le_of_ble_eq_true rfl) (Nat.le_of_ble_eq_true rfl) ?_
          refine ww_sti (lv2 := [.ref m, .int (nI 16110), .int (nI v5002), .int (nI 0), .int (nI 0)]) dX11_readRow_75 rfl (by decide) rfl ?_
          refine ww_aload_n dX11_readRow_77 rfl rfl ?_
          refine ww_cVr (M := m_X11_readRow) (pc := 78) (v := .int (nI 0)) (h1 := mrS (mlS h m s.1 s.2.1 nc no nr) m n x5003 (nI q5003) (nI k5003) op) (st := []) (d := 5) (bc := 0) (bs := 0) (c_MR_fine_f hst (mlS_M hM s.1 s.2.1 nc no nr) (mlS_t (np := s.1) (du := s.2.1) (nc := nc) (no := no) (nr := nr) htf) hB hn x5003 (nI k5003) op q5003 (by omega)) vv_X11_fine dX11_readRow_78 wg_1421 ((mlS_M hM s.1 s.2.1 nc no nr).K0) rfl rfl rfl rfl (Nat.le_of_ble_eq_true rfl) (Nat.le_of_ble_eq_true rfl) (Nat.le_of_ble_eq_true rfl) (Nat.le_of_ble_eq_true rfl) ?_
          refine ww_if_neN (tgt := 85) dX11_readRow_81 (by decide) (by omega) (fun c81 => ?_) (fun c81 => ?_)
          · exact absurd c81 (by decide)
          · exact ww_vret dX11_readRow_84 rfl ⟨rfl, (by unfold rwS; rw [if_neg (by omega), if_pos rfl]; unfold owS; rw [hr5002, bS_r, hr5003, bS_l]; exact ⟨x5003, s.1, s.2.1, nc, no, nr, by omega, by omega, by omega, rfl⟩)⟩
        · have hf5003 := figS_r (by omega) hr5003
          have hg5003 := sk_ge (T := T) (show a5002 ≤ n by omega)
          refine ww_cVr (M := m_X11_readRow) (pc := 64) (v := .int (nI v5003)) (h1 := mrS (mlS h m s.1 s.2.1 nc no nr) m n a5003 (-1) bk op) (st := []) (d := 5) (bc := 0) (bs := 0) (c_MR_num_r hst (mlS_M hM s.1 s.2.1 nc no nr) (mlS_t (np := s.1) (du := s.2.1) (nc := nc) (no := no) (nr := nr) htf) hB hn a5002 bk op (by omega) 0 s.1 ((nI s.1) - (nI 1)) (by omega) (by omega) (hi_np (by omega)) hr5003) vv_X11_readNumber dX11_readRow_64 wg_1460 ((mlS_M hM s.1 s.2.1 nc no nr).K0) rfl rfl rfl rfl (Nat.le_of_ble_eq_true rfl) (Nat.le_of_ble_eq_true rfl) (Nat.le_of_ble_eq_true rfl) (Nat.le_of_ble_eq_true rfl) ?_
          refine ww_sti_n (lv2 := [.ref m, .int (nI 16110), .int (nI v5002), .int (nI v5003), UU]) dX11_readRow_67 rfl rfl (by decide) rfl ?_
          refine ww_aload_n dX11_readRow_68 rfl rfl ?_
          refine ww_iconst (v := nI 0) dX11_readRow_69 (by decide) ?_
          refine ww_bipush (v := nI 40) dX11_readRow_70 (by decide) ?_
          rcases hr5004 : figS T n 0 41 a5003 with ⟨k5004, q5004⟩ | ⟨a5004, v5004⟩
          · have hf5004 := (figS_l hr5004).1
            have hq5004 := figS_lq (by omega) hr5004
            refine ww_cVq (M := m_X11_readRow) (pc := 72) (v := .int (nI 0)) (st := []) (d := 5) (bc := 0) (bs := 0) (c_MR_num_l hst (mlS_M hM s.1 s.2.1 nc no nr) (mlS_t (np := s.1) (du := s.2.1) (nc := nc) (no := no) (nr := nr) htf) hB hn a5003 bk op (by omega) 0 41 (nI 40) (by omega) (by omega) (hi_c 40 (by decide)) hr5004) vv_X11_readNumber dX11_readRow_72 wg_1460 ((mlS_M hM s.1 s.2.1 nc no nr).K0) rfl rfl rfl rfl (Nat.le_of_ble_eq_true rfl) (Nat.le_of_ble_eq_true rfl) (Nat.le_of_ble_eq_true rfl) (Nat.le_of_ble_eq_true rfl) (fun hx5004h qx5004 => ?_)
            obtain ⟨x5004, hx5004, rfl⟩ := qx5004
            refine ww_sti (lv2 := [.ref m, .int (nI 16110), .int (nI v5002), .int (nI v5003), .int (nI 0)]) dX11_readRow_75 rfl (by decide) rfl ?_
            refine ww_aload_n dX11_readRow_77 rfl rfl ?_
            refine ww_cVr (M := m_X11_readRow) (pc := 78) (v := .int (nI 0)) (h1 := mrS (mlS h m s.1 s.2.1 nc no nr) m n x5004 (nI q5004) (nI k5004) op) (st := []) (d := 5) (bc := 0) (bs := 0) (c_MR_fine_f hst (mlS_M hM s.1 s.2.1 nc no nr) (mlS_t (np := s.1) (du := s.2.1) (nc := nc) (no := no) (nr := nr) htf) hB hn x5004 (nI k5004) op q5004 (by omega)) vv_X11_fine dX11_readRow_78 wg_1421 ((mlS_M hM s.1 s.2.1 nc no nr).K0) rfl rfl rfl rfl (Nat.le_of_ble_eq_true rfl) (Nat.le_of_ble_eq_true rfl) (Nat.le_of_ble_eq_true rfl) (Nat.le_of_ble_eq_true rfl) ?_
            refine ww_if_neN (tgt := 85) dX11_readRow_81 (by decide) (by omega) (fun c81 => ?_) (fun c81 => ?_)
            · exact absurd c81 (by decide)
            · exact ww_vret dX11_readRow_84 rfl ⟨rfl, (by unfold rwS; rw [if_neg (by omega), if_pos rfl]; unfold owS; rw [hr5002, bS_r, hr5003, bS_r, hr5004, bS_l]; exact ⟨x5004, s.1, s.2.1, nc, no, nr, by omega, by omega, by omega, rfl⟩)⟩
          · have hf5004 := figS_r (by omega) hr5004
            have hg5004 := sk_ge (T := T) (show a5003 ≤ n by omega)
            refine ww_cVr (M := m_X11_readRow) (pc := 72) (v := .int (nI v5004)) (h1 := mrS (mlS h m s.1 s.2.1 nc no nr) m n a5004 (-1) bk op) (st := []) (d := 5) (bc := 0) (bs := 0) (c_MR_num_r hst (mlS_M hM s.1 s.2.1 nc no nr) (mlS_t (np := s.1) (du := s.2.1) (nc := nc) (no := no) (nr := nr) htf) hB hn a5003 bk op (by omega) 0 41 (nI 40) (by omega) (by omega) (hi_c 40 (by decide)) hr5004) vv_X11_readNumber dX11_readRow_72 wg_1460 ((mlS_M hM s.1 s.2.1 nc no nr).K0) rfl rfl rfl rfl (Nat.le_of_ble_eq_true rfl) (Nat.le_of_ble_eq_true rfl) (Nat.le_of_ble_eq_true rfl) (Nat.le_of_ble_eq_true rfl) ?_
            refine ww_sti (lv2 := [.ref m, .int (nI 16110), .int (nI v5002), .int (nI v5003), .int (nI v5004)]) dX11_readRow_75 rfl (by decide) rfl ?_
            refine ww_aload_n dX11_readRow_77 rfl rfl ?_
            refine ww_cVr (M := m_X11_readRow) (pc := 78) (v := .int (nI 1)) (h1 := mrS (mlS h m s.1 s.2.1 nc no nr) m n a5004 (-1) bk op) (st := []) (d := 5) (bc := 0) (bs := 0) (c_MR_fine_t hst (mlS_M hM s.1 s.2.1 nc no nr) (mlS_t (np := s.1) (du := s.2.1) (nc := nc) (no := no) (nr := nr) htf) hB hn a5004 bk op) vv_X11_fine dX11_readRow_78 wg_1421 ((mlS_M hM s.1 s.2.1 nc no nr).K0) rfl rfl rfl rfl (Nat.le_of_ble_eq_true rfl) (Nat.le_of_ble_eq_true rfl) (Nat.le_of_ble_eq_true rfl) (Nat.le_of_ble_eq_true rfl) ?_
            refine ww_if_neN (tgt := 85) dX11_readRow_81 (by decide) (by omega) (fun c81 => ?_) (fun c81 => ?_)
            · refine ww_aload_n dX11_readRow_85 rfl rfl ?_
              refine ww_get 11 dX11_readRow_86 ((mlS_M hM s.1 s.2.1 nc no nr).K0) rfl (by decide) inX11 wg_1251 (mrS_j _ _ _ _ _ (by decide) (mlS_M hM s.1 s.2.1 nc no nr).F4) ?_
              refine ww_iload_n dX11_readRow_89 rfl rfl ?_
              refine ww_iload_n dX11_readRow_90 rfl rfl ?_
              refine ww_iastF dX11_readRow_91 ((mlS_M hM s.1 s.2.1 nc no nr).K4) (mlS_4 h m s.1 s.2.1 nc no nr) (by omega) (by omega) ?_
              refine ww_hp (h2 := mrS (mlS h m s.1 s.2.1 nc (upd no v5002 (nI v5003)) nr) m n a5004 (-1) bk op) (ml_s4 _ _ _ _ _ _ _ _ _ _ _ _ _) ?_
              refine ww_aload_n dX11_readRow_92 rfl rfl ?_
              refine ww_get 12 dX11_readRow_93 ((mlS_M hM s.1 s.2.1 nc (upd no v5002 (nI v5003)) nr).K0) rfl (by decide) inX11 wg_1252 (mrS_j _ _ _ _ _ (by decide) (mlS_M hM s.1 s.2.1 nc (upd no v5002 (nI v5003)) nr).F5) ?_
              refine ww_iload_n dX11_readRow_96 rfl rfl ?_
              refine ww_iload dX11_readRow_97 rfl ?_
              refine ww_iastF dX11_readRow_99 ((mlS_M hM s.1 s.2.1 nc (upd no v5002 (nI v5003)) nr).K5) (mlS_5 h m s.1 s.2.1 nc (upd no v5002 (nI v5003)) nr) (by omega) (by omega) ?_
              refine ww_hp (h2 := mrS (mlS h m s.1 s.2.1 nc (upd no v5002 (nI v5003)) (upd nr v5002 (nI v5004))) m n a5004 (-1) bk op) (ml_s5 _ _ _ _ _ _ _ _ _ _ _ _ _) ?_
              refine ww_goto (tgt := 114) dX11_readRow_100 (by decide) ?_
              exact ww_vret dX11_readRow_114 rfl ⟨rfl, (by unfold rwS; rw [if_neg (by omega), if_pos rfl]; unfold owS; rw [hr5002, bS_r, hr5003, bS_r, hr5004, bS_r]; exact ⟨_, _, _, ⟨fun i hi => by show upd no v5002 _ i = upd (upd s.2.2 v5002 _) (61 + v5002) _ i; rw [pk_un (f := upd s.2.2 _ _) (by omega)]; by_cases e : i = v5002; rw [e, pk_us, pk_us]; rw [pk_un e, pk_un e]; exact g1 i hi, fun i hi => by show upd nr v5002 _ i = upd (upd s.2.2 v5002 _) (61 + v5002) _ (61 + i); by_cases e : i = v5002; rw [e, pk_us, pk_us]; rw [pk_un e, pk_un (by omega), pk_un (by omega)]; exact g2 i hi, fun q hq => by show nc q = upd (upd s.2.2 v5002 _) (61 + v5002) _ (183 + q); rw [pk_un (by omega), pk_un (by omega)]; exact g3 q hq⟩, rfl⟩)⟩
            · exact absurd c81 (by decide)
  · exact absurd c6 (by decide)
set_option maxHeartbeats 4000000 in
set_option maxRecDepth 100000 in
theorem c_ML_row2 {l : Launch} {Z : EE} (hst : l.stackTraces = false) {h : PH} {m : Nat} (hM : ModS h m) {tf : Nat → Int32} (htf : hp_I h (m + 2) = tf) {T : Nat → Nat} (hB : BT tf T) {n : Nat} (hn : n ≤ 600) (bk : Int32) (op : Nat) (a : Nat) (ha : a ≤ n) {s : LSt} (hs : LsI s) {nc no nr : Nat → Int32} (hr0 : MlR s nc no nr) : CC l Z m_X11_readRow 5 0 0 [.ref m, .int (nI 153241)] (mrS (mlS h m s.1 s.2.1 nc no nr) m n a (-1) bk op) (RQ none (MlO h m n bk op (rwS T n 2 s a))) := by
  refine ee_entry hst (by decide +kernel) rfl rfl (by simp [Value.category]) (Nat.le_of_ble_eq_true rfl) ?_
  refine ww_lv (lv2 := [.ref m, .int (nI 153241), UU, UU, UU]) rfl ?_
  obtain ⟨hs1, hs2, hs3⟩ := hs
  obtain ⟨g1, g2, g3⟩ := hr0
  refine ww_iload_n dX11_readRow_0 rfl rfl ?_
  refine ww_ldcS (i := 6) dX11_readRow_1 rfl ?_
  refine ww_cSr (M := m_X11_readRow) (pc := 3) (v := .int (nI 542723566)) (h1 := mrS (mlS h m s.1 s.2.1 nc no nr) m n a (-1) bk op) (st := [.int (nI 153241)]) (d := 5) (bc := 0) (bs := 0) (c_of_6 hst (mrS (mlS h m s.1 s.2.1 nc no nr) m n a (-1) bk op)) vv_X11_of dX11_readRow_3 wg_1441 rfl rfl rfl (Nat.le_of_ble_eq_true rfl) (Nat.le_of_ble_eq_true rfl) (Nat.le_of_ble_eq_true rfl) (Nat.le_of_ble_eq_true rfl) ?_
  refine ww_icmp_neN (tgt := 39) dX11_readRow_6 (by decide) (by omega) (by omega) (fun c6 => ?_) (fun c6 => ?_)
  · refine ww_iload_n dX11_readRow_39 rfl rfl ?_
    refine ww_ldcS (i := 7) dX11_readRow_40 rfl ?_
    refine ww_cSr (M := m_X11_readRow) (pc := 42) (v := .int (nI 16110)) (h1 := mrS (mlS h m s.1 s.2.1 nc no nr) m n a (-1) bk op) (st := [.int (nI 153241)]) (d := 5) (bc := 0) (bs := 0) (c_of_7 hst (mrS (mlS h m s.1 s.2.1 nc no nr) m n a (-1) bk op)) vv_X11_of dX11_readRow_42 wg_1441 rfl rfl rfl (Nat.le_of_ble_eq_true rfl) (Nat.le_of_ble_eq_true rfl) (Nat.le_of_ble_eq_true rfl) (Nat.le_of_ble_eq_true rfl) ?_
    refine ww_icmp_neN (tgt := 103) dX11_readRow_45 (by decide) (by omega) (by omega) (fun c45 => ?_) (fun c45 => ?_)
    · refine ww_aload_n dX11_readRow_103 rfl rfl ?_
      refine ww_aload_n dX11_readRow_104 rfl rfl ?_
      refine ww_iconst (v := nI 0) dX11_readRow_105 (by decide) ?_
      refine ww_bipush (v := nI 20) dX11_readRow_106 (by decide) ?_
      rcases hr5005 : figS T n 0 21 a with ⟨k5005, q5005⟩ | ⟨a5005, v5005⟩
      · have hf5005 := (figS_l hr5005).1
        have hq5005 := figS_lq (by omega) hr5005
        refine ww_cVq (M := m_X11_readRow) (pc := 108) (v := .int (nI 0)) (st := [.ref m]) (d := 5) (bc := 0) (bs := 0) (c_MR_num_l hst (mlS_M hM s.1 s.2.1 nc no nr) (mlS_t (np := s.1) (du := s.2.1) (nc := nc) (no := no) (nr := nr) htf) hB hn a bk op (by omega) 0 21 (nI 20) (by omega) (by omega) (hi_c 20 (by decide)) hr5005) vv_X11_readNumber dX11_readRow_108 wg_1460 ((mlS_M hM s.1 s.2.1 nc no nr).K0) rfl rfl rfl rfl (Nat.le_of_ble_eq_true rfl) (Nat.le_of_ble_eq_true rfl) (Nat.le_of_ble_eq_true rfl) (Nat.le_of_ble_eq_true rfl) (fun hx5005h qx5005 => ?_)
        obtain ⟨x5005, hx5005, rfl⟩ := qx5005
        refine ww_pfI tyX11 14 dX11_readRow_111 ((mlS_M hM s.1 s.2.1 nc no nr).K0) rfl (by decide) inX11 tyX11_ok nmX11 wg_1254 rfl rfl ?_
        refine ww_hp (h2 := mrS (mlS h m s.1 0 nc no nr) m n x5005 (nI q5005) (nI k5005) op) (ml_s14 _ _ _ _ _ _ _ _ _ _ _ _ _) ?_
        exact ww_vret dX11_readRow_114 rfl ⟨rfl, (by unfold rwS; rw [if_neg (by omega), if_neg (by omega)]; rw [hr5005, bS_l]; exact ⟨x5005, s.1, 0, nc, no, nr, by omega, by omega, by omega, rfl⟩)⟩
      · have hf5005 := figS_r (by omega) hr5005
        have hg5005 := sk_ge (T := T) (show a ≤ n by omega)
        refine ww_cVr (M := m_X11_readRow) (pc := 108) (v := .int (nI v5005)) (h1 := mrS (mlS h m s.1 s.2.1 nc no nr) m n a5005 (-1) bk op) (st := [.ref m]) (d := 5) (bc := 0) (bs := 0) (c_MR_num_r hst (mlS_M hM s.1 s.2.1 nc no nr) (mlS_t (np := s.1) (du := s.2.1) (nc := nc) (no := no) (nr := nr) htf) hB hn a bk op (by omega) 0 21 (nI 20) (by omega) (by omega) (hi_c 20 (by decide)) hr5005) vv_X11_readNumber dX11_readRow_108 wg_1460 ((mlS_M hM s.1 s.2.1 nc no nr).K0) rfl rfl rfl rfl (Nat.le_of_ble_eq_true rfl) (Nat.le_of_ble_eq_true rfl) (Nat.le_of_ble_eq_true rfl) (Nat.le_of_ble_eq_true rfl) ?_
        refine ww_pfI tyX11 14 dX11_readRow_111 ((mlS_M hM s.1 s.2.1 nc no nr).K0) rfl (by decide) inX11 tyX11_ok nmX11 wg_1254 rfl rfl ?_
        refine ww_hp (h2 := mrS (mlS h m s.1 v5005 nc no nr) m n a5005 (-1) bk op) (ml_s14 _ _ _ _ _ _ _ _ _ _ _ _ _) ?_
        exact ww_vret dX11_readRow_114 rfl ⟨rfl, (by unfold rwS; rw [if_neg (by omega), if_neg (by omega)]; rw [hr5005, bS_r]; exact ⟨_, _, _, ⟨g1, g2, g3⟩, rfl⟩)⟩
    · exact absurd c45 (by decide)
  · exact absurd c6 (by decide)
