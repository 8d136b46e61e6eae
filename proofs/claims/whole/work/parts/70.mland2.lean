/-! ===== land, as the reference answers it ===== -/
theorem c_MR_more_t {l : Launch} {Z : EE} (hst : l.stackTraces = false) {h : PH} {m : Nat} (hM : ModS h m) {tf : Nat → Int32} (htf : hp_I h (m + 2) = tf) {T : Nat → Nat} (hB : BT tf T) {n : Nat} (hn : n ≤ 600) (bd bk : Int32) (op : Nat) (a : Nat) (ha : a ≤ n) (hl : sk T n a < n) : CC l Z m_X11_isMore 1 0 0 [.ref m] (mrS h m n a bd bk op) (RT (some (.int (nI 1))) (mrS h m n (sk T n a) bd bk op)) := by
  have h9 := c_MR_more (Z := Z) hst hM htf hB hn bd bk op a ha
  rw [decide_eq_true hl] at h9
  exact h9
theorem c_MR_more_f {l : Launch} {Z : EE} (hst : l.stackTraces = false) {h : PH} {m : Nat} (hM : ModS h m) {tf : Nat → Int32} (htf : hp_I h (m + 2) = tf) {T : Nat → Nat} (hB : BT tf T) {n : Nat} (hn : n ≤ 600) (bd bk : Int32) (op : Nat) (a : Nat) (ha : a ≤ n) (hl : ¬ sk T n a < n) : CC l Z m_X11_isMore 1 0 0 [.ref m] (mrS h m n a bd bk op) (RT (some (.int (nI 0))) (mrS h m n n bd bk op)) := by
  have h9 := c_MR_more (Z := Z) hst hM htf hB hn bd bk op a ha
  have h8 := sk_le (T := T) ha
  rw [decide_eq_false hl, show sk T n a = n by omega] at h9
  exact h9
theorem c_MR_pass_e {l : Launch} {Z : EE} (hst : l.stackTraces = false) {h : PH} {m : Nat} (hM : ModS h m) {tf : Nat → Int32} (htf : hp_I h (m + 2) = tf) {T : Nat → Nat} (hB : BT tf T) {n : Nat} (hn : n ≤ 600) (bd bk : Int32) (op : Nat) (a : Nat) (ha : a ≤ n) {b : Nat} (hb : b = sc (leB T) n a) : CC l Z m_X11_pass 1 0 0 [.ref m] (mrS h m n a bd bk op) (RT none (mrS h m n b bd bk op)) := by
  subst hb
  exact c_MR_pass hst hM htf hB hn bd bk op a ha
theorem clS_rl {T : Nat → Nat} {n t : Nat} {s : LSt} {a a1 w : Nat} {e : Nat × Nat} (h : wrdS wLand T n a = .inr (a1, w)) (ht : t < 60) (hw : w = 0 → s.1 < 6) (h2 : rwS T n w s a1 = .inl e) : clS T n t s a = .inl e := by rw [clS_rw h ht hw, h2, bS_l]
theorem clS_rr {T : Nat → Nat} {n t : Nat} {s s2 : LSt} {a a1 a2 w : Nat} (h : wrdS wLand T n a = .inr (a1, w)) (ht : t < 60) (hw : w = 0 → s.1 < 6) (h2 : rwS T n w s a1 = .inr (a2, s2)) : clS T n t s a = bS (sgnS T n 59 a2) (fun a5 _ => .inr (a5, s2)) := by rw [clS_rw h ht hw, h2, bS_r]
theorem rwS_r {T : Nat → Nat} {n w : Nat} {s s2 : LSt} {a b : Nat} (ha : a ≤ n) (hs : LsI s) (hw : w = 0 → s.1 < 6) (h : rwS T n w s a = .inr (b, s2)) : b ≤ n ∧ s2.1 ≤ 6 ∧ s2.2.1 ≤ 20 := by
  have g1 := hs.1
  have g2 := hs.2.1
  unfold rwS at h
  split at h
  · rename_i hw0
    have hw1 := hw hw0
    rcases h2 : figS T n 0 1000 a with ⟨k2, q2⟩ | ⟨a2, v2⟩
    · rw [h2, bS_l] at h; cases h
    · rw [h2, bS_r] at h; cases h; exact ⟨(figS_r ha h2).2.1, by show s.1 + 1 ≤ 6; omega, g2⟩
  · split at h
    · have h3 := owS_r ha h
      exact ⟨h3.1, by omega, by omega⟩
    · rcases h2 : figS T n 0 21 a with ⟨k2, q2⟩ | ⟨a2, v2⟩
      · rw [h2, bS_l] at h; cases h
      · rw [h2, bS_r] at h; cases h; have h4 := figS_r ha h2; exact ⟨h4.2.1, g1, by show v2 ≤ 20; omega⟩
theorem rwS_q {T : Nat → Nat} {n w : Nat} {s : LSt} {a k q : Nat} (ha : a ≤ n) (h : rwS T n w s a = .inl (k, q)) : q ≤ n := by
  unfold rwS at h
  split at h
  · rcases h2 : figS T n 0 1000 a with ⟨k2, q2⟩ | ⟨a2, v2⟩
    · rw [h2, bS_l] at h; cases h; exact figS_lq ha h2
    · rw [h2, bS_r] at h; cases h
  · split at h
    · unfold owS at h
      rcases h2 : figS T n 0 61 a with ⟨k2, q2⟩ | ⟨a2, v2⟩
      · rw [h2, bS_l] at h; cases h; exact figS_lq ha h2
      · rw [h2, bS_r] at h
        have e2 := figS_r ha h2
        rcases h3 : figS T n 0 s.1 a2 with ⟨k3, q3⟩ | ⟨a3, v3⟩
        · rw [h3, bS_l] at h; cases h; exact figS_lq (by omega) h3
        · rw [h3, bS_r] at h
          have e3 := figS_r (by omega) h3
          rcases h4 : figS T n 0 41 a3 with ⟨k4, q4⟩ | ⟨a4, v4⟩
          · rw [h4, bS_l] at h; cases h; exact figS_lq (by omega) h4
          · rw [h4, bS_r] at h; cases h
    · rcases h2 : figS T n 0 21 a with ⟨k2, q2⟩ | ⟨a2, v2⟩
      · rw [h2, bS_l] at h; cases h; exact figS_lq ha h2
      · rw [h2, bS_r] at h; cases h
def fcF (g f : Nat → Int32) (k : Nat) : Nat → Int32 := fun i => if i < k then g i else f i
theorem fcF_0 (g f : Nat → Int32) : fcF g f 0 = f := funext fun i => if_neg (by omega)
theorem fcF_s (g f : Nat → Int32) (k : Nat) : upd (fcF g f k) k (g k) = fcF g f (k + 1) := by
  funext i
  by_cases e : i = k
  · rw [e, pk_us]; show _ = if k < k + 1 then g k else f k; rw [if_pos (by omega)]
  · rw [pk_un e]
    show (if i < k then g i else f i) = if i < k + 1 then g i else f i
    by_cases h : i < k
    · rw [if_pos h, if_pos (by omega)]
    · rw [if_neg h, if_neg (by omega)]
theorem fcF_in {g f : Nat → Int32} {k i : Nat} (h : i < k) : fcF g f k i = g i := if_pos h
theorem fcF_out {g f : Nat → Int32} {k i : Nat} (h : ¬ i < k) : fcF g f k i = f i := if_neg h
set_option maxHeartbeats 4000000 in
set_option maxRecDepth 100000 in
theorem l_ML_clears {l : Launch} {Z : EE} (hst : l.stackTraces = false) {h : PH} {m : Nat} (hM : ModS h m) {tf : Nat → Int32} (htf : hp_I h (m + 2) = tf) {T : Nat → Nat} (hB : BT tf T) {n : Nat} (hn : n ≤ 600) (nc no nr : Nat → Int32) (a : Nat) (bd bk : Int32) (op : Nat) {Post : Res → PH → Prop} : ∀ (j i : Nat), i + j = 61 → WW l Z m_X11_clears 0 0 0 38 [.ref m, .int (nI 61)] [] (mrS (mlS h m 0 2 nc (fcF (fun _ => -1) no 61) (fcF (fun _ => 0) nr 61)) m n a bd bk op) Post → WW l Z m_X11_clears 0 0 0 12 [.ref m, .int (nI i)] [] (mrS (mlS h m 0 2 nc (fcF (fun _ => -1) no i) (fcF (fun _ => 0) nr i)) m n a bd bk op) Post := by
  intro j
  induction j with
  | zero =>
    intro i hi hexit
    have hi0 : i = 61 := by omega
    subst hi0
    refine ww_iload_n dX11_clears_12 rfl rfl ?_
    refine ww_bipush (v := nI 61) dX11_clears_13 (by decide) ?_
    refine ww_icmp_geN (tgt := 38) dX11_clears_15 (by decide) (by omega) (by omega) (fun c15 => ?_) (fun c15 => ?_)
    · exact hexit
    · exfalso; omega
  | succ j ih =>
    intro i hi hexit
    refine ww_iload_n dX11_clears_12 rfl rfl ?_
    refine ww_bipush (v := nI 61) dX11_clears_13 (by decide) ?_
    refine ww_icmp_geN (tgt := 38) dX11_clears_15 (by decide) (by omega) (by omega) (fun c15 => ?_) (fun c15 => ?_)
    · exfalso; omega
    · refine ww_aload_n dX11_clears_18 rfl rfl ?_
      refine ww_get 11 dX11_clears_19 ((mlS_M hM 0 2 nc (fcF (fun _ => -1) no i) (fcF (fun _ => 0) nr i)).K0) rfl (by decide) inX11 wg_1251 (mrS_j _ _ _ _ _ (by decide) (mlS_M hM 0 2 nc (fcF (fun _ => -1) no i) (fcF (fun _ => 0) nr i)).F4) ?_
      refine ww_iload_n dX11_clears_22 rfl rfl ?_
      refine ww_iconst (v := -1) dX11_clears_23 (by decide) ?_
      refine ww_iastF dX11_clears_24 ((mlS_M hM 0 2 nc (fcF (fun _ => -1) no i) (fcF (fun _ => 0) nr i)).K4) (mlS_4 h m 0 2 nc (fcF (fun _ => -1) no i) (fcF (fun _ => 0) nr i)) (by omega) (by omega) ?_
      refine ww_hp (h2 := mrS (mlS h m 0 2 nc (upd (fcF (fun _ => -1) no i) i (-1)) (fcF (fun _ => 0) nr i)) m n a bd bk op) (ml_s4 _ _ _ _ _ _ _ _ _ _ _ _ _) ?_
      refine ww_aload_n dX11_clears_25 rfl rfl ?_
      refine ww_get 12 dX11_clears_26 ((mlS_M hM 0 2 nc (upd (fcF (fun _ => -1) no i) i (-1)) (fcF (fun _ => 0) nr i)).K0) rfl (by decide) inX11 wg_1252 (mrS_j _ _ _ _ _ (by decide) (mlS_M hM 0 2 nc (upd (fcF (fun _ => -1) no i) i (-1)) (fcF (fun _ => 0) nr i)).F5) ?_
      refine ww_iload_n dX11_clears_29 rfl rfl ?_
      refine ww_iconst (v := nI 0) dX11_clears_30 (by decide) ?_
      refine ww_iastF dX11_clears_31 ((mlS_M hM 0 2 nc (upd (fcF (fun _ => -1) no i) i (-1)) (fcF (fun _ => 0) nr i)).K5) (mlS_5 h m 0 2 nc (upd (fcF (fun _ => -1) no i) i (-1)) (fcF (fun _ => 0) nr i)) (by omega) (by omega) ?_
      refine ww_hp (h2 := mrS (mlS h m 0 2 nc (upd (fcF (fun _ => -1) no i) i (-1)) (upd (fcF (fun _ => 0) nr i) i (nI 0))) m n a bd bk op) (ml_s5 _ _ _ _ _ _ _ _ _ _ _ _ _) ?_
      refine ww_incN (c := 1) (lv2 := [.ref m, .int (nI (i + 1))]) dX11_clears_32 rfl rfl rfl (by decide) rfl ?_
      refine ww_goto (tgt := 12) dX11_clears_35 (by decide) ?_
      refine ww_hp (h2 := mrS (mlS h m 0 2 nc (fcF (fun _ => -1) no (i + 1)) (fcF (fun _ => 0) nr (i + 1))) m n a bd bk op) (by rw [← fcF_s (fun _ => -1) no i, ← fcF_s (fun _ => 0) nr i]; rfl) ?_
      exact ih (i + 1) (by omega) hexit
set_option maxHeartbeats 4000000 in
set_option maxRecDepth 100000 in
theorem c_ML_clears {l : Launch} {Z : EE} (hst : l.stackTraces = false) {h : PH} {m : Nat} (hM : ModS h m) {tf : Nat → Int32} (htf : hp_I h (m + 2) = tf) {T : Nat → Nat} (hB : BT tf T) {n : Nat} (hn : n ≤ 600) (nc no nr : Nat → Int32) (a : Nat) (bd bk : Int32) (op : Nat) (np du : Nat) : CC l Z m_X11_clears 0 0 0 [.ref m] (mrS (mlS h m np du nc no nr) m n a bd bk op) (RT none (mrS (mlS h m 0 2 nc (fcF (fun _ => -1) no 61) (fcF (fun _ => 0) nr 61)) m n a bd bk op)) := by
  refine ee_entry hst (by decide +kernel) rfl rfl (by simp [Value.category]) (Nat.le_of_ble_eq_true rfl) ?_
  refine ww_lv (lv2 := [.ref m, UU]) rfl ?_
  refine ww_aload_n dX11_clears_0 rfl rfl ?_
  refine ww_iconst (v := nI 0) dX11_clears_1 (by decide) ?_
  refine ww_pfI tyX11 13 dX11_clears_2 ((mlS_M hM np du nc no nr).K0) rfl (by decide) inX11 tyX11_ok nmX11 wg_1253 rfl rfl ?_
  refine ww_hp (h2 := mrS (mlS h m 0 du nc no nr) m n a bd bk op) (ml_s13 _ _ _ _ _ _ _ _ _ _ _ _ _) ?_
  refine ww_aload_n dX11_clears_5 rfl rfl ?_
  refine ww_iconst (v := nI 2) dX11_clears_6 (by decide) ?_
  refine ww_pfI tyX11 14 dX11_clears_7 ((mlS_M hM 0 du nc no nr).K0) rfl (by decide) inX11 tyX11_ok nmX11 wg_1254 rfl rfl ?_
  refine ww_hp (h2 := mrS (mlS h m 0 2 nc no nr) m n a bd bk op) (ml_s14 _ _ _ _ _ _ _ _ _ _ _ _ _) ?_
  refine ww_iconst (v := nI 0) dX11_clears_10 (by decide) ?_
  refine ww_sti_n (lv2 := [.ref m, .int (nI 0)]) dX11_clears_11 rfl rfl (by decide) rfl ?_
  refine ww_hp (h2 := mrS (mlS h m 0 2 nc (fcF (fun _ => -1) no 0) (fcF (fun _ => 0) nr 0)) m n a bd bk op) (by rw [fcF_0, fcF_0]) ?_
  refine l_ML_clears hst hM htf hB hn nc no nr a bd bk op 61 0 (by omega) ?_
  exact ww_vret dX11_clears_38 rfl ⟨rfl, rfl⟩
set_option maxHeartbeats 4000000 in
set_option maxRecDepth 100000 in
theorem l_ML_land_r {l : Launch} {Z : EE} (hst : l.stackTraces = false) {h : PH} {m : Nat} (hM : ModS h m) {tf : Nat → Int32} (htf : hp_I h (m + 2) = tf) {T : Nat → Nat} (hB : BT tf T) {n : Nat} (hn : n ≤ 600) (bk : Int32) {a9 : Nat} {s9 : LSt} {Post : Res → PH → Prop} : ∀ (c t : Nat) (s : LSt) (a : Nat) (nc no nr : Nat → Int32), t + c = 61 → LsG s → a ≤ n → t ≤ 60 → MlR s nc no nr → ldS T n c t s a = .inr (a9, s9) → (∀ nc no nr, MlR s9 nc no nr → WW l Z m_X11_land 6 0 0 166 [.ref m, .int (nI n), UU, UU] [] (mrS (mlS h m s9.1 s9.2.1 nc no nr) m n n (-1) bk 0) Post) → WW l Z m_X11_land 6 0 0 44 [.ref m, .int (nI n), .int (nI t), UU] [] (mrS (mlS h m s.1 s.2.1 nc no nr) m n a (-1) bk 0) Post := by
  intro c
  induction c with
  | zero =>
    intro t s a nc no nr ht hs ha htt hm0 hr hexit
    omega
  | succ c ih =>
    intro t s a nc no nr ht hs ha htt hm0 hr hexit
    have hs1 : s.1 ≤ 6 := hs.1.1
    have hs2 : s.2.1 ≤ 20 := hs.1.2.1
    refine ww_aload_n dX11_land_44 rfl rfl ?_
    refine ww_cVr (M := m_X11_land) (pc := 45) (v := .int (nI 1)) (h1 := mrS (mlS h m s.1 s.2.1 nc no nr) m n a (-1) bk 0) (st := []) (d := 6) (bc := 0) (bs := 0) (c_MR_fine_t hst (mlS_M hM s.1 s.2.1 nc no nr) (mlS_t (np := s.1) (du := s.2.1) (nc := nc) (no := no) (nr := nr) htf) hB hn a bk 0) vv_X11_fine dX11_land_45 wg_1421 ((mlS_M hM s.1 s.2.1 nc no nr).K0) rfl rfl rfl rfl (Nat.le_of_ble_eq_true rfl) (Nat.le_of_ble_eq_true rfl) (Nat.le_of_ble_eq_true rfl) (Nat.le_of_ble_eq_true rfl) ?_
    refine ww_if_eqN (tgt := 166) dX11_land_48 (by decide) (by omega) (fun c48 => ?_) (fun c48 => ?_)
    · exact absurd c48 (by decide)
    · refine ww_aload_n dX11_land_51 rfl rfl ?_
      have hsl5001 := sk_le (T := T) (show a ≤ n by omega)
      have hsg5001 := sk_ge (T := T) (show a ≤ n by omega)
      by_cases hl5001 : sk T n a < n
      · refine ww_cVr (M := m_X11_land) (pc := 52) (v := .int (nI 1)) (h1 := mrS (mlS h m s.1 s.2.1 nc no nr) m n (sk T n a) (-1) bk 0) (st := []) (d := 6) (bc := 0) (bs := 0) (c_MR_more_t hst (mlS_M hM s.1 s.2.1 nc no nr) (mlS_t (np := s.1) (du := s.2.1) (nc := nc) (no := no) (nr := nr) htf) hB hn (-1) bk 0 a (by omega) hl5001) vv_X11_isMore dX11_land_52 wg_1425 ((mlS_M hM s.1 s.2.1 nc no nr).K0) rfl rfl rfl rfl (Nat.le_of_ble_eq_true rfl) (Nat.le_of_ble_eq_true rfl) (Nat.le_of_ble_eq_true rfl) (Nat.le_of_ble_eq_true rfl) ?_
        refine ww_if_eqN (tgt := 166) dX11_land_55 (by decide) (by omega) (fun c55 => ?_) (fun c55 => ?_)
        · exact absurd c55 (by decide)
        · refine ww_aload_n dX11_land_58 rfl rfl ?_
          have hsl5002 := sk_le (T := T) (show sk T n a ≤ n by omega)
          have hsg5002 := sk_ge (T := T) (show sk T n a ≤ n by omega)
          rcases hr5002 : wrdS wLand T n (sk T n a) with ⟨k5002, q5002⟩ | ⟨a5002, v5002⟩
          · have hq5002 := wrdS_lq (by omega) hr5002
            have hk5002 := (wrdS_l hr5002).1
            have hno5002 := wM_l (by omega) wLand_x (by decide) hr5002
            have hn5002_6 : ¬ wdA T n (sk T n a) = 542723566 := fun e => hno5002 6 (by decide) (e.trans (by decide +kernel))
            have hn5002_7 : ¬ wdA T n (sk T n a) = 16110 := fun e => hno5002 7 (by decide) (e.trans (by decide +kernel))
            have hn5002_8 : ¬ wdA T n (sk T n a) = 153241 := fun e => hno5002 8 (by decide) (e.trans (by decide +kernel))
            have hwl5002 := wdA_lt (T := T) (show sk T n a ≤ n by omega)
            refine ww_cVr (M := m_X11_land) (pc := 59) (v := .int (nI (wdA T n (sk T n a)))) (h1 := mrS (mlS h m s.1 s.2.1 nc no nr) m n (sk T n (sk T n a)) (-1) bk 0) (st := []) (d := 6) (bc := 0) (bs := 0) (c_MR_word hst (mlS_M hM s.1 s.2.1 nc no nr) (mlS_t (np := s.1) (du := s.2.1) (nc := nc) (no := no) (nr := nr) htf) hB hn (-1) bk 0 (sk T n a) (by omega)) vv_X11_word dX11_land_59 wg_1433 ((mlS_M hM s.1 s.2.1 nc no nr).K0) rfl rfl rfl rfl (Nat.le_of_ble_eq_true rfl) (Nat.le_of_ble_eq_true rfl) (Nat.le_of_ble_eq_true rfl) (Nat.le_of_ble_eq_true rfl) ?_
            refine ww_sti_n (lv2 := [.ref m, .int (nI n), .int (nI t), .int (nI (wdA T n (sk T n a)))]) dX11_land_62 rfl rfl (by decide) rfl ?_
            refine ww_iload_n dX11_land_63 rfl rfl ?_
            refine ww_ldcS (i := 6) dX11_land_64 rfl ?_
            refine ww_cSr (M := m_X11_land) (pc := 66) (v := .int (nI 542723566)) (h1 := mrS (mlS h m s.1 s.2.1 nc no nr) m n (sk T n (sk T n a)) (-1) bk 0) (st := [.int (nI (wdA T n (sk T n a)))]) (d := 6) (bc := 0) (bs := 0) (c_of_6 hst (mrS (mlS h m s.1 s.2.1 nc no nr) m n (sk T n (sk T n a)) (-1) bk 0)) vv_X11_of dX11_land_66 wg_1441 rfl rfl rfl (Nat.le_of_ble_eq_true rfl) (Nat.le_of_ble_eq_true rfl) (Nat.le_of_ble_eq_true rfl) (Nat.le_of_ble_eq_true rfl) ?_
            refine ww_icmp_eqN (tgt := 102) dX11_land_69 (by decide) (by omega) (by omega) (fun c69 => ?_) (fun c69 => ?_)
            · exfalso; omega
            · refine ww_iload_n dX11_land_72 rfl rfl ?_
              refine ww_ldcS (i := 7) dX11_land_73 rfl ?_
              refine ww_cSr (M := m_X11_land) (pc := 75) (v := .int (nI 16110)) (h1 := mrS (mlS h m s.1 s.2.1 nc no nr) m n (sk T n (sk T n a)) (-1) bk 0) (st := [.int (nI (wdA T n (sk T n a)))]) (d := 6) (bc := 0) (bs := 0) (c_of_7 hst (mrS (mlS h m s.1 s.2.1 nc no nr) m n (sk T n (sk T n a)) (-1) bk 0)) vv_X11_of dX11_land_75 wg_1441 rfl rfl rfl (Nat.le_of_ble_eq_true rfl) (Nat.le_of_ble_eq_true rfl) (Nat.le_of_ble_eq_true rfl) (Nat.le_of_ble_eq_true rfl) ?_
              refine ww_icmp_eqN (tgt := 102) dX11_land_78 (by decide) (by omega) (by omega) (fun c78 => ?_) (fun c78 => ?_)
              · exfalso; omega
              · refine ww_iload_n dX11_land_81 rfl rfl ?_
                refine ww_ldcS (i := 8) dX11_land_82 rfl ?_
                refine ww_cSr (M := m_X11_land) (pc := 84) (v := .int (nI 153241)) (h1 := mrS (mlS h m s.1 s.2.1 nc no nr) m n (sk T n (sk T n a)) (-1) bk 0) (st := [.int (nI (wdA T n (sk T n a)))]) (d := 6) (bc := 0) (bs := 0) (c_of_8 hst (mrS (mlS h m s.1 s.2.1 nc no nr) m n (sk T n (sk T n a)) (-1) bk 0)) vv_X11_of dX11_land_84 wg_1441 rfl rfl rfl (Nat.le_of_ble_eq_true rfl) (Nat.le_of_ble_eq_true rfl) (Nat.le_of_ble_eq_true rfl) (Nat.le_of_ble_eq_true rfl) ?_
                refine ww_icmp_eqN (tgt := 102) dX11_land_87 (by decide) (by omega) (by omega) (fun c87 => ?_) (fun c87 => ?_)
                · exfalso; omega
                · refine ww_aload_n dX11_land_90 rfl rfl ?_
                  refine ww_iconst (v := nI 1) dX11_land_91 (by decide) ?_
                  refine ww_aload_n dX11_land_92 rfl rfl ?_
                  refine ww_get 4 dX11_land_93 ((mlS_M hM s.1 s.2.1 nc no nr).K0) rfl (by decide) inX11 wg_1244 (mrS_4 _ _ _ _ _ _ _) ?_
                  refine ww_cV0 (M := m_X11_land) (pc := 96) (h1 := mrS (mlS h m s.1 s.2.1 nc no nr) m n (sk T n (sk T n a)) (nI (sk T n (sk T n a))) (nI 1) 0) (st := []) (d := 6) (bc := 0) (bs := 0) (c_MR_wrong_t hst (mlS_M hM s.1 s.2.1 nc no nr) (mlS_t (np := s.1) (du := s.2.1) (nc := nc) (no := no) (nr := nr) htf) hB hn (sk T n (sk T n a)) bk 0 (nI 1) (nI (sk T n (sk T n a)))) vv_X11_wrong dX11_land_96 wg_1448 ((mlS_M hM s.1 s.2.1 nc no nr).K0) rfl rfl rfl rfl (Nat.le_of_ble_eq_true rfl) (Nat.le_of_ble_eq_true rfl) (Nat.le_of_ble_eq_true rfl) (Nat.le_of_ble_eq_true rfl) ?_
                  refine ww_goto (tgt := 135) dX11_land_99 (by decide) ?_
                  refine ww_aload_n dX11_land_135 rfl rfl ?_
                  refine ww_cVr (M := m_X11_land) (pc := 136) (v := .int (nI 0)) (h1 := mrS (mlS h m s.1 s.2.1 nc no nr) m n (sk T n (sk T n a)) (nI (sk T n (sk T n a))) (nI 1) 0) (st := []) (d := 6) (bc := 0) (bs := 0) (c_MR_fine_f hst (mlS_M hM s.1 s.2.1 nc no nr) (mlS_t (np := s.1) (du := s.2.1) (nc := nc) (no := no) (nr := nr) htf) hB hn (sk T n (sk T n a)) (nI 1) 0 (sk T n (sk T n a)) (by omega)) vv_X11_fine dX11_land_136 wg_1421 ((mlS_M hM s.1 s.2.1 nc no nr).K0) rfl rfl rfl rfl (Nat.le_of_ble_eq_true rfl) (Nat.le_of_ble_eq_true rfl) (Nat.le_of_ble_eq_true rfl) (Nat.le_of_ble_eq_true rfl) ?_
                  refine ww_if_neN (tgt := 145) dX11_land_139 (by decide) (by omega) (fun c139 => ?_) (fun c139 => ?_)
                  · exact absurd c139 (by decide)
                  · refine ww_goto (tgt := 166) dX11_land_142 (by decide) ?_
                    exfalso
                    have hcl : clS T n t s (sk T n a) = .inl (k5002, q5002) := (clS_l hr5002)
                    rw [ldS_i (by assumption), hcl, bS_l] at hr
                    cases hr
          · have hf5002 := wrdS_lt wLand_ne (by omega) hr5002
            have hz5002 := (wrdS_r hr5002).1
            rcases (show v5002 = 0 ∨ v5002 = 1 ∨ v5002 = 2 by have h9 := hf5002.2.2; simp only [wLand, List.length_cons, List.length_nil] at h9; omega) with rfl | rfl | rfl
            · have hw5002 : wdA T n (sk T n a) = 542723566 := by
                obtain ⟨i, hi, hw⟩ := wM_r (by omega) wLand_x (by decide) hr5002
                have e := Option.some.inj (show some 6 = some i from hi)
                rw [← e] at hw
                exact hw.trans (by decide +kernel)
              refine ww_cVr (M := m_X11_land) (pc := 59) (v := .int (nI 542723566)) (h1 := mrS (mlS h m s.1 s.2.1 nc no nr) m n (sk T n (sk T n a)) (-1) bk 0) (st := []) (d := 6) (bc := 0) (bs := 0) (c_MR_word_e hst (mlS_M hM s.1 s.2.1 nc no nr) (mlS_t (np := s.1) (du := s.2.1) (nc := nc) (no := no) (nr := nr) htf) hB hn (-1) bk 0 (sk T n a) (by omega) hw5002) vv_X11_word dX11_land_59 wg_1433 ((mlS_M hM s.1 s.2.1 nc no nr).K0) rfl rfl rfl rfl (Nat.le_of_ble_eq_true rfl) (Nat.le_of_ble_eq_true rfl) (Nat.le_of_ble_eq_true rfl) (Nat.le_of_ble_eq_true rfl) ?_
              refine ww_sti_n (lv2 := [.ref m, .int (nI n), .int (nI t), .int (nI 542723566)]) dX11_land_62 rfl rfl (by decide) rfl ?_
              refine ww_iload_n dX11_land_63 rfl rfl ?_
              refine ww_ldcS (i := 6) dX11_land_64 rfl ?_
              refine ww_cSr (M := m_X11_land) (pc := 66) (v := .int (nI 542723566)) (h1 := mrS (mlS h m s.1 s.2.1 nc no nr) m n (sk T n (sk T n a)) (-1) bk 0) (st := [.int (nI 542723566)]) (d := 6) (bc := 0) (bs := 0) (c_of_6 hst (mrS (mlS h m s.1 s.2.1 nc no nr) m n (sk T n (sk T n a)) (-1) bk 0)) vv_X11_of dX11_land_66 wg_1441 rfl rfl rfl (Nat.le_of_ble_eq_true rfl) (Nat.le_of_ble_eq_true rfl) (Nat.le_of_ble_eq_true rfl) (Nat.le_of_ble_eq_true rfl) ?_
              refine ww_icmp_eqN (tgt := 102) dX11_land_69 (by decide) (by omega) (by omega) (fun c69 => ?_) (fun c69 => ?_)
              · refine ww_iload_n dX11_land_102 rfl rfl ?_
                refine ww_bipush (v := nI 60) dX11_land_103 (by decide) ?_
                refine ww_icmp_eqN (tgt := 126) dX11_land_105 (by decide) (by omega) (by omega) (fun c105 => ?_) (fun c105 => ?_)
                · refine ww_aload_n dX11_land_126 rfl rfl ?_
                  refine ww_iconst (v := nI 3) dX11_land_127 (by decide) ?_
                  refine ww_aload_n dX11_land_128 rfl rfl ?_
                  refine ww_get 4 dX11_land_129 ((mlS_M hM s.1 s.2.1 nc no nr).K0) rfl (by decide) inX11 wg_1244 (mrS_4 _ _ _ _ _ _ _) ?_
                  refine ww_cV0 (M := m_X11_land) (pc := 132) (h1 := mrS (mlS h m s.1 s.2.1 nc no nr) m n (sk T n (sk T n a)) (nI (sk T n (sk T n a))) (nI 3) 0) (st := []) (d := 6) (bc := 0) (bs := 0) (c_MR_wrong_t hst (mlS_M hM s.1 s.2.1 nc no nr) (mlS_t (np := s.1) (du := s.2.1) (nc := nc) (no := no) (nr := nr) htf) hB hn (sk T n (sk T n a)) bk 0 (nI 3) (nI (sk T n (sk T n a)))) vv_X11_wrong dX11_land_132 wg_1448 ((mlS_M hM s.1 s.2.1 nc no nr).K0) rfl rfl rfl rfl (Nat.le_of_ble_eq_true rfl) (Nat.le_of_ble_eq_true rfl) (Nat.le_of_ble_eq_true rfl) (Nat.le_of_ble_eq_true rfl) ?_
                  refine ww_aload_n dX11_land_135 rfl rfl ?_
                  refine ww_cVr (M := m_X11_land) (pc := 136) (v := .int (nI 0)) (h1 := mrS (mlS h m s.1 s.2.1 nc no nr) m n (sk T n (sk T n a)) (nI (sk T n (sk T n a))) (nI 3) 0) (st := []) (d := 6) (bc := 0) (bs := 0) (c_MR_fine_f hst (mlS_M hM s.1 s.2.1 nc no nr) (mlS_t (np := s.1) (du := s.2.1) (nc := nc) (no := no) (nr := nr) htf) hB hn (sk T n (sk T n a)) (nI 3) 0 (sk T n (sk T n a)) (by omega)) vv_X11_fine dX11_land_136 wg_1421 ((mlS_M hM s.1 s.2.1 nc no nr).K0) rfl rfl rfl rfl (Nat.le_of_ble_eq_true rfl) (Nat.le_of_ble_eq_true rfl) (Nat.le_of_ble_eq_true rfl) (Nat.le_of_ble_eq_true rfl) ?_
                  refine ww_if_neN (tgt := 145) dX11_land_139 (by decide) (by omega) (fun c139 => ?_) (fun c139 => ?_)
                  · exact absurd c139 (by decide)
                  · refine ww_goto (tgt := 166) dX11_land_142 (by decide) ?_
                    exfalso
                    have hcl : clS T n t s (sk T n a) = .inl (3, (sk T n (sk T n a))) := (clS_x hr5002 (by omega))
                    rw [ldS_i (by assumption), hcl, bS_l] at hr
                    cases hr
                · refine ww_iload_n dX11_land_108 rfl rfl ?_
                  refine ww_ldcS (i := 6) dX11_land_109 rfl ?_
                  refine ww_cSr (M := m_X11_land) (pc := 111) (v := .int (nI 542723566)) (h1 := mrS (mlS h m s.1 s.2.1 nc no nr) m n (sk T n (sk T n a)) (-1) bk 0) (st := [.int (nI 542723566)]) (d := 6) (bc := 0) (bs := 0) (c_of_6 hst (mrS (mlS h m s.1 s.2.1 nc no nr) m n (sk T n (sk T n a)) (-1) bk 0)) vv_X11_of dX11_land_111 wg_1441 rfl rfl rfl (Nat.le_of_ble_eq_true rfl) (Nat.le_of_ble_eq_true rfl) (Nat.le_of_ble_eq_true rfl) (Nat.le_of_ble_eq_true rfl) ?_
                  refine ww_icmp_neN (tgt := 135) dX11_land_114 (by decide) (by omega) (by omega) (fun c114 => ?_) (fun c114 => ?_)
                  · exact absurd c114 (by decide)
                  · refine ww_aload_n dX11_land_117 rfl rfl ?_
                    refine ww_get 13 dX11_land_118 ((mlS_M hM s.1 s.2.1 nc no nr).K0) rfl (by decide) inX11 wg_1253 (mrS_j _ _ _ _ _ (by decide) (mlS_13 _ _ _ _ _ _ _)) ?_
                    refine ww_bipush (v := nI 6) dX11_land_121 (by decide) ?_
                    refine ww_icmp_neN (tgt := 135) dX11_land_123 (by decide) (by omega) (by omega) (fun c123 => ?_) (fun c123 => ?_)
                    · refine ww_aload_n dX11_land_135 rfl rfl ?_
                      refine ww_cVr (M := m_X11_land) (pc := 136) (v := .int (nI 1)) (h1 := mrS (mlS h m s.1 s.2.1 nc no nr) m n (sk T n (sk T n a)) (-1) bk 0) (st := []) (d := 6) (bc := 0) (bs := 0) (c_MR_fine_t hst (mlS_M hM s.1 s.2.1 nc no nr) (mlS_t (np := s.1) (du := s.2.1) (nc := nc) (no := no) (nr := nr) htf) hB hn (sk T n (sk T n a)) bk 0) vv_X11_fine dX11_land_136 wg_1421 ((mlS_M hM s.1 s.2.1 nc no nr).K0) rfl rfl rfl rfl (Nat.le_of_ble_eq_true rfl) (Nat.le_of_ble_eq_true rfl) (Nat.le_of_ble_eq_true rfl) (Nat.le_of_ble_eq_true rfl) ?_
                      refine ww_if_neN (tgt := 145) dX11_land_139 (by decide) (by omega) (fun c139 => ?_) (fun c139 => ?_)
                      · refine ww_aload_n dX11_land_145 rfl rfl ?_
                        refine ww_cV0 (M := m_X11_land) (pc := 146) (h1 := mrS (mlS h m s.1 s.2.1 nc no nr) m n a5002 (-1) bk 0) (st := []) (d := 6) (bc := 0) (bs := 0) (c_MR_pass_e hst (mlS_M hM s.1 s.2.1 nc no nr) (mlS_t (np := s.1) (du := s.2.1) (nc := nc) (no := no) (nr := nr) htf) hB hn (-1) bk 0 (sk T n (sk T n a)) (by omega) hz5002) vv_X11_pass dX11_land_146 wg_1452 ((mlS_M hM s.1 s.2.1 nc no nr).K0) rfl rfl rfl rfl (Nat.le_of_ble_eq_true rfl) (Nat.le_of_ble_eq_true rfl) (Nat.le_of_ble_eq_true rfl) (Nat.le_of_ble_eq_true rfl) ?_
                        refine ww_aload_n dX11_land_149 rfl rfl ?_
                        refine ww_iload_n dX11_land_150 rfl rfl ?_
                        refine ww_cVq0 (M := m_X11_land) (pc := 151) (st := []) (d := 6) (bc := 0) (bs := 0) (c_ML_row0 hst hM htf hB hn bk 0 a5002 (by omega) hs.1 hm0 (by omega)) vv_X11_readRow dX11_land_151 wg_1456 ((mlS_M hM s.1 s.2.1 nc no nr).K0) rfl rfl rfl rfl (Nat.le_of_ble_eq_true rfl) (Nat.le_of_ble_eq_true rfl) (Nat.le_of_ble_eq_true rfl) (Nat.le_of_ble_eq_true rfl) (fun ho5003 qo5003 => ?_)
                        rcases hr5003 : rwS T n 0 s a5002 with ⟨k5003, q5003⟩ | ⟨a5003, s5003⟩
                        · rw [hr5003] at qo5003
                          obtain ⟨x5003, np5003, du5003, nc5003, no5003, nr5003, hx5003, hnp5003, hdu5003, rfl⟩ := qo5003
                          have hf5003 := rwS_k hr5003
                          have hq5003 := rwS_q (by omega) hr5003
                          refine ww_aload_n dX11_land_154 rfl rfl ?_
                          refine ww_bipush (v := nI 59) dX11_land_155 (by decide) ?_
                          refine ww_cV0 (M := m_X11_land) (pc := 157) (h1 := mrS (mlS h m np5003 du5003 nc5003 no5003 nr5003) m n x5003 (nI q5003) (nI k5003) 0) (st := []) (d := 6) (bc := 0) (bs := 0) (c_MR_sign_f hst (mlS_M hM np5003 du5003 nc5003 no5003 nr5003) (mlS_t (np := np5003) (du := du5003) (nc := nc5003) (no := no5003) (nr := nr5003) htf) hB hn x5003 (nI k5003) 0 q5003 (by omega) 59) vv_X11_sign dX11_land_157 wg_1467 ((mlS_M hM np5003 du5003 nc5003 no5003 nr5003).K0) rfl rfl rfl rfl (Nat.le_of_ble_eq_true rfl) (Nat.le_of_ble_eq_true rfl) (Nat.le_of_ble_eq_true rfl) (Nat.le_of_ble_eq_true rfl) ?_
                          refine ww_incN (c := 1) (lv2 := [.ref m, .int (nI n), .int (nI (t + 1)), .int (nI 542723566)]) dX11_land_160 rfl rfl rfl (by decide) rfl ?_
                          refine ww_goto (tgt := 44) dX11_land_163 (by decide) ?_
                          refine ww_aload_n dX11_land_44 rfl rfl ?_
                          refine ww_cVr (M := m_X11_land) (pc := 45) (v := .int (nI 0)) (h1 := mrS (mlS h m np5003 du5003 nc5003 no5003 nr5003) m n x5003 (nI q5003) (nI k5003) 0) (st := []) (d := 6) (bc := 0) (bs := 0) (c_MR_fine_f hst (mlS_M hM np5003 du5003 nc5003 no5003 nr5003) (mlS_t (np := np5003) (du := du5003) (nc := nc5003) (no := no5003) (nr := nr5003) htf) hB hn x5003 (nI k5003) 0 q5003 (by omega)) vv_X11_fine dX11_land_45 wg_1421 ((mlS_M hM np5003 du5003 nc5003 no5003 nr5003).K0) rfl rfl rfl rfl (Nat.le_of_ble_eq_true rfl) (Nat.le_of_ble_eq_true rfl) (Nat.le_of_ble_eq_true rfl) (Nat.le_of_ble_eq_true rfl) ?_
                          refine ww_if_eqN (tgt := 166) dX11_land_48 (by decide) (by omega) (fun c48 => ?_) (fun c48 => ?_)
                          · exfalso
                            have hcl : clS T n t s (sk T n a) = .inl (k5003, q5003) := (clS_rl hr5002 (by omega) (by omega) hr5003)
                            rw [ldS_i (by assumption), hcl, bS_l] at hr
                            cases hr
                          · exact absurd c48 (by decide)
                        · rw [hr5003] at qo5003
                          obtain ⟨nc5003, no5003, nr5003, hm5003, rfl⟩ := qo5003
                          have hf5003 := rwS_r (by omega) hs.1 (by omega) hr5003
                          refine ww_aload_n dX11_land_154 rfl rfl ?_
                          refine ww_bipush (v := nI 59) dX11_land_155 (by decide) ?_
                          rcases hr5004 : sgnS T n 59 a5003 with ⟨k5004, q5004⟩ | ⟨a5004, u5004⟩
                          · have hf5004 := (sgnS_l hr5004).1
                            have hq5004 := sgnS_lq (by omega) hr5004
                            have hsl5004 := sk_le (T := T) (show a5003 ≤ n by omega)
                            refine ww_cV0 (M := m_X11_land) (pc := 157) (h1 := mrS (mlS h m s5003.1 s5003.2.1 nc5003 no5003 nr5003) m n (sk T n a5003) (nI q5004) (nI k5004) 0) (st := []) (d := 6) (bc := 0) (bs := 0) (c_MR_sign_l hst (mlS_M hM s5003.1 s5003.2.1 nc5003 no5003 nr5003) (mlS_t (np := s5003.1) (du := s5003.2.1) (nc := nc5003) (no := no5003) (nr := nr5003) htf) hB hn a5003 bk 0 (by omega) 59 (by omega) (by omega) hr5004) vv_X11_sign dX11_land_157 wg_1467 ((mlS_M hM s5003.1 s5003.2.1 nc5003 no5003 nr5003).K0) rfl rfl rfl rfl (Nat.le_of_ble_eq_true rfl) (Nat.le_of_ble_eq_true rfl) (Nat.le_of_ble_eq_true rfl) (Nat.le_of_ble_eq_true rfl) ?_
                            refine ww_incN (c := 1) (lv2 := [.ref m, .int (nI n), .int (nI (t + 1)), .int (nI 542723566)]) dX11_land_160 rfl rfl rfl (by decide) rfl ?_
                            refine ww_goto (tgt := 44) dX11_land_163 (by decide) ?_
                            refine ww_aload_n dX11_land_44 rfl rfl ?_
                            refine ww_cVr (M := m_X11_land) (pc := 45) (v := .int (nI 0)) (h1 := mrS (mlS h m s5003.1 s5003.2.1 nc5003 no5003 nr5003) m n (sk T n a5003) (nI q5004) (nI k5004) 0) (st := []) (d := 6) (bc := 0) (bs := 0) (c_MR_fine_f hst (mlS_M hM s5003.1 s5003.2.1 nc5003 no5003 nr5003) (mlS_t (np := s5003.1) (du := s5003.2.1) (nc := nc5003) (no := no5003) (nr := nr5003) htf) hB hn (sk T n a5003) (nI k5004) 0 q5004 (by omega)) vv_X11_fine dX11_land_45 wg_1421 ((mlS_M hM s5003.1 s5003.2.1 nc5003 no5003 nr5003).K0) rfl rfl rfl rfl (Nat.le_of_ble_eq_true rfl) (Nat.le_of_ble_eq_true rfl) (Nat.le_of_ble_eq_true rfl) (Nat.le_of_ble_eq_true rfl) ?_
                            refine ww_if_eqN (tgt := 166) dX11_land_48 (by decide) (by omega) (fun c48 => ?_) (fun c48 => ?_)
                            · exfalso
                              have hcl : clS T n t s (sk T n a) = .inl (k5004, q5004) := (by rw [clS_rr hr5002 (by omega) (by omega) hr5003, hr5004, bS_l])
                              rw [ldS_i (by assumption), hcl, bS_l] at hr
                              cases hr
                            · exact absurd c48 (by decide)
                          · have hf5004 := sgnS_r hr5004
                            have hg5004 := sk_ge (T := T) (show a5003 ≤ n by omega)
                            refine ww_cV0 (M := m_X11_land) (pc := 157) (h1 := mrS (mlS h m s5003.1 s5003.2.1 nc5003 no5003 nr5003) m n a5004 (-1) bk 0) (st := []) (d := 6) (bc := 0) (bs := 0) (c_MR_sign_r hst (mlS_M hM s5003.1 s5003.2.1 nc5003 no5003 nr5003) (mlS_t (np := s5003.1) (du := s5003.2.1) (nc := nc5003) (no := no5003) (nr := nr5003) htf) hB hn a5003 bk 0 (by omega) 59 (by omega) (by omega) hr5004) vv_X11_sign dX11_land_157 wg_1467 ((mlS_M hM s5003.1 s5003.2.1 nc5003 no5003 nr5003).K0) rfl rfl rfl rfl (Nat.le_of_ble_eq_true rfl) (Nat.le_of_ble_eq_true rfl) (Nat.le_of_ble_eq_true rfl) (Nat.le_of_ble_eq_true rfl) ?_
                            refine ww_incN (c := 1) (lv2 := [.ref m, .int (nI n), .int (nI (t + 1)), .int (nI 542723566)]) dX11_land_160 rfl rfl rfl (by decide) rfl ?_
                            refine ww_goto (tgt := 44) dX11_land_163 (by decide) ?_
                            refine ww_fg (lv2 := [.ref m, .int (nI n), .int (nI (t + 1)), UU]) ⟨Or.inr rfl, Or.inr rfl, Or.inr rfl, Or.inl rfl, trivial⟩ ?_
                            have hcl : clS T n t s (sk T n a) = .inr (a5004, s5003) := by rw [clS_rr hr5002 (by omega) (by omega) hr5003, hr5004, bS_r]
                            have hG := clS_G hs (by omega) hcl
                            rw [ldS_i (by assumption), hcl, bS_r] at hr
                            exact ih (t + 1) s5003 a5004 _ _ _ (by omega) hG.1 (by omega) (by omega) hm5003 hr hexit
                      · exact absurd c139 (by decide)
                    · refine ww_aload_n dX11_land_126 rfl rfl ?_
                      refine ww_iconst (v := nI 3) dX11_land_127 (by decide) ?_
                      refine ww_aload_n dX11_land_128 rfl rfl ?_
                      refine ww_get 4 dX11_land_129 ((mlS_M hM s.1 s.2.1 nc no nr).K0) rfl (by decide) inX11 wg_1244 (mrS_4 _ _ _ _ _ _ _) ?_
                      refine ww_cV0 (M := m_X11_land) (pc := 132) (h1 := mrS (mlS h m s.1 s.2.1 nc no nr) m n (sk T n (sk T n a)) (nI (sk T n (sk T n a))) (nI 3) 0) (st := []) (d := 6) (bc := 0) (bs := 0) (c_MR_wrong_t hst (mlS_M hM s.1 s.2.1 nc no nr) (mlS_t (np := s.1) (du := s.2.1) (nc := nc) (no := no) (nr := nr) htf) hB hn (sk T n (sk T n a)) bk 0 (nI 3) (nI (sk T n (sk T n a)))) vv_X11_wrong dX11_land_132 wg_1448 ((mlS_M hM s.1 s.2.1 nc no nr).K0) rfl rfl rfl rfl (Nat.le_of_ble_eq_true rfl) (Nat.le_of_ble_eq_true rfl) (Nat.le_of_ble_eq_true rfl) (Nat.le_of_ble_eq_true rfl) ?_
                      refine ww_aload_n dX11_land_135 rfl rfl ?_
                      refine ww_cVr (M := m_X11_land) (pc := 136) (v := .int (nI 0)) (h1 := mrS (mlS h m s.1 s.2.1 nc no nr) m n (sk T n (sk T n a)) (nI (sk T n (sk T n a))) (nI 3) 0) (st := []) (d := 6) (bc := 0) (bs := 0) (c_MR_fine_f hst (mlS_M hM s.1 s.2.1 nc no nr) (mlS_t (np := s.1) (du := s.2.1) (nc := nc) (no := no) (nr := nr) htf) hB hn (sk T n (sk T n a)) (nI 3) 0 (sk T n (sk T n a)) (by omega)) vv_X11_fine dX11_land_136 wg_1421 ((mlS_M hM s.1 s.2.1 nc no nr).K0) rfl rfl rfl rfl (Nat.le_of_ble_eq_true rfl) (Nat.le_of_ble_eq_true rfl) (Nat.le_of_ble_eq_true rfl) (Nat.le_of_ble_eq_true rfl) ?_
                      refine ww_if_neN (tgt := 145) dX11_land_139 (by decide) (by omega) (fun c139 => ?_) (fun c139 => ?_)
                      · exact absurd c139 (by decide)
                      · refine ww_goto (tgt := 166) dX11_land_142 (by decide) ?_
                        exfalso
                        have hcl : clS T n t s (sk T n a) = .inl (3, (sk T n (sk T n a))) := (clS_x hr5002 (by omega))
                        rw [ldS_i (by assumption), hcl, bS_l] at hr
                        cases hr
              · exact absurd c69 (by decide)
            · have hw5002 : wdA T n (sk T n a) = 16110 := by
                obtain ⟨i, hi, hw⟩ := wM_r (by omega) wLand_x (by decide) hr5002
                have e := Option.some.inj (show some 7 = some i from hi)
                rw [← e] at hw
                exact hw.trans (by decide +kernel)
              refine ww_cVr (M := m_X11_land) (pc := 59) (v := .int (nI 16110)) (h1 := mrS (mlS h m s.1 s.2.1 nc no nr) m n (sk T n (sk T n a)) (-1) bk 0) (st := []) (d := 6) (bc := 0) (bs := 0) (c_MR_word_e hst (mlS_M hM s.1 s.2.1 nc no nr) (mlS_t (np := s.1) (du := s.2.1) (nc := nc) (no := no) (nr := nr) htf) hB hn (-1) bk 0 (sk T n a) (by omega) hw5002) vv_X11_word dX11_land_59 wg_1433 ((mlS_M hM s.1 s.2.1 nc no nr).K0) rfl rfl rfl rfl (Nat.le_of_ble_eq_true rfl) (Nat.le_of_ble_eq_true rfl) (Nat.le_of_ble_eq_true rfl) (Nat.le_of_ble_eq_true rfl) ?_
              refine ww_sti_n (lv2 := [.ref m, .int (nI n), .int (nI t), .int (nI 16110)]) dX11_land_62 rfl rfl (by decide) rfl ?_
              refine ww_iload_n dX11_land_63 rfl rfl ?_
              refine ww_ldcS (i := 6) dX11_land_64 rfl ?_
              refine ww_cSr (M := m_X11_land) (pc := 66) (v := .int (nI 542723566)) (h1 := mrS (mlS h m s.1 s.2.1 nc no nr) m n (sk T n (sk T n a)) (-1) bk 0) (st := [.int (nI 16110)]) (d := 6) (bc := 0) (bs := 0) (c_of_6 hst (mrS (mlS h m s.1 s.2.1 nc no nr) m n (sk T n (sk T n a)) (-1) bk 0)) vv_X11_of dX11_land_66 wg_1441 rfl rfl rfl (Nat.le_of_ble_eq_true rfl) (Nat.le_of_ble_eq_true rfl) (Nat.le_of_ble_eq_true rfl) (Nat.le_of_ble_eq_true rfl) ?_
              refine ww_icmp_eqN (tgt := 102) dX11_land_69 (by decide) (by omega) (by omega) (fun c69 => ?_) (fun c69 => ?_)
              · exact absurd c69 (by decide)
              · refine ww_iload_n dX11_land_72 rfl rfl ?_
                refine ww_ldcS (i := 7) dX11_land_73 rfl ?_
                refine ww_cSr (M := m_X11_land) (pc := 75) (v := .int (nI 16110)) (h1 := mrS (mlS h m s.1 s.2.1 nc no nr) m n (sk T n (sk T n a)) (-1) bk 0) (st := [.int (nI 16110)]) (d := 6) (bc := 0) (bs := 0) (c_of_7 hst (mrS (mlS h m s.1 s.2.1 nc no nr) m n (sk T n (sk T n a)) (-1) bk 0)) vv_X11_of dX11_land_75 wg_1441 rfl rfl rfl (Nat.le_of_ble_eq_true rfl) (Nat.le_of_ble_eq_true rfl) (Nat.le_of_ble_eq_true rfl) (Nat.le_of_ble_eq_true rfl) ?_
                refine ww_icmp_eqN (tgt := 102) dX11_land_78 (by decide) (by omega) (by omega) (fun c78 => ?_) (fun c78 => ?_)
                · refine ww_iload_n dX11_land_102 rfl rfl ?_
                  refine ww_bipush (v := nI 60) dX11_land_103 (by decide) ?_
                  refine ww_icmp_eqN (tgt := 126) dX11_land_105 (by decide) (by omega) (by omega) (fun c105 => ?_) (fun c105 => ?_)
                  · refine ww_aload_n dX11_land_126 rfl rfl ?_
                    refine ww_iconst (v := nI 3) dX11_land_127 (by decide) ?_
                    refine ww_aload_n dX11_land_128 rfl rfl ?_
                    refine ww_get 4 dX11_land_129 ((mlS_M hM s.1 s.2.1 nc no nr).K0) rfl (by decide) inX11 wg_1244 (mrS_4 _ _ _ _ _ _ _) ?_
                    refine ww_cV0 (M := m_X11_land) (pc := 132) (h1 := mrS (mlS h m s.1 s.2.1 nc no nr) m n (sk T n (sk T n a)) (nI (sk T n (sk T n a))) (nI 3) 0) (st := []) (d := 6) (bc := 0) (bs := 0) (c_MR_wrong_t hst (mlS_M hM s.1 s.2.1 nc no nr) (mlS_t (np := s.1) (du := s.2.1) (nc := nc) (no := no) (nr := nr) htf) hB hn (sk T n (sk T n a)) bk 0 (nI 3) (nI (sk T n (sk T n a)))) vv_X11_wrong dX11_land_132 wg_1448 ((mlS_M hM s.1 s.2.1 nc no nr).K0) rfl rfl rfl rfl (Nat.le_of_ble_eq_true rfl) (Nat.le_of_ble_eq_true rfl) (Nat.le_of_ble_eq_true rfl) (Nat.le_of_ble_eq_true rfl) ?_
                    refine ww_aload_n dX11_land_135 rfl rfl ?_
                    refine ww_cVr (M := m_X11_land) (pc := 136) (v := .int (nI 0)) (h1 := mrS (mlS h m s.1 s.2.1 nc no nr) m n (sk T n (sk T n a)) (nI (sk T n (sk T n a))) (nI 3) 0) (st := []) (d := 6) (bc := 0) (bs := 0) (c_MR_fine_f hst (mlS_M hM s.1 s.2.1 nc no nr) (mlS_t (np := s.1) (du := s.2.1) (nc := nc) (no := no) (nr := nr) htf) hB hn (sk T n (sk T n a)) (nI 3) 0 (sk T n (sk T n a)) (by omega)) vv_X11_fine dX11_land_136 wg_1421 ((mlS_M hM s.1 s.2.1 nc no nr).K0) rfl rfl rfl rfl (Nat.le_of_ble_eq_true rfl) (Nat.le_of_ble_eq_true rfl) (Nat.le_of_ble_eq_true rfl) (Nat.le_of_ble_eq_true rfl) ?_
                    refine ww_if_neN (tgt := 145) dX11_land_139 (by decide) (by omega) (fun c139 => ?_) (fun c139 => ?_)
                    · exact absurd c139 (by decide)
                    · refine ww_goto (tgt := 166) dX11_land_142 (by decide) ?_
                      exfalso
                      have hcl : clS T n t s (sk T n a) = .inl (3, (sk T n (sk T n a))) := (clS_x hr5002 (by omega))
                      rw [ldS_i (by assumption), hcl, bS_l] at hr
                      cases hr
                  · refine ww_iload_n dX11_land_108 rfl rfl ?_
                    refine ww_ldcS (i := 6) dX11_land_109 rfl ?_
                    refine ww_cSr (M := m_X11_land) (pc := 111) (v := .int (nI 542723566)) (h1 := mrS (mlS h m s.1 s.2.1 nc no nr) m n (sk T n (sk T n a)) (-1) bk 0) (st := [.int (nI 16110)]) (d := 6) (bc := 0) (bs := 0) (c_of_6 hst (mrS (mlS h m s.1 s.2.1 nc no nr) m n (sk T n (sk T n a)) (-1) bk 0)) vv_X11_of dX11_land_111 wg_1441 rfl rfl rfl (Nat.le_of_ble_eq_true rfl) (Nat.le_of_ble_eq_true rfl) (Nat.le_of_ble_eq_true rfl) (Nat.le_of_ble_eq_true rfl) ?_
                    refine ww_icmp_neN (tgt := 135) dX11_land_114 (by decide) (by omega) (by omega) (fun c114 => ?_) (fun c114 => ?_)
                    · refine ww_aload_n dX11_land_135 rfl rfl ?_
                      refine ww_cVr (M := m_X11_land) (pc := 136) (v := .int (nI 1)) (h1 := mrS (mlS h m s.1 s.2.1 nc no nr) m n (sk T n (sk T n a)) (-1) bk 0) (st := []) (d := 6) (bc := 0) (bs := 0) (c_MR_fine_t hst (mlS_M hM s.1 s.2.1 nc no nr) (mlS_t (np := s.1) (du := s.2.1) (nc := nc) (no := no) (nr := nr) htf) hB hn (sk T n (sk T n a)) bk 0) vv_X11_fine dX11_land_136 wg_1421 ((mlS_M hM s.1 s.2.1 nc no nr).K0) rfl rfl rfl rfl (Nat.le_of_ble_eq_true rfl) (Nat.le_of_ble_eq_true rfl) (Nat.le_of_ble_eq_true rfl) (Nat.le_of_ble_eq_true rfl) ?_
                      refine ww_if_neN (tgt := 145) dX11_land_139 (by decide) (by omega) (fun c139 => ?_) (fun c139 => ?_)
                      · refine ww_aload_n dX11_land_145 rfl rfl ?_
                        refine ww_cV0 (M := m_X11_land) (pc := 146) (h1 := mrS (mlS h m s.1 s.2.1 nc no nr) m n a5002 (-1) bk 0) (st := []) (d := 6) (bc := 0) (bs := 0) (c_MR_pass_e hst (mlS_M hM s.1 s.2.1 nc no nr) (mlS_t (np := s.1) (du := s.2.1) (nc := nc) (no := no) (nr := nr) htf) hB hn (-1) bk 0 (sk T n (sk T n a)) (by omega) hz5002) vv_X11_pass dX11_land_146 wg_1452 ((mlS_M hM s.1 s.2.1 nc no nr).K0) rfl rfl rfl rfl (Nat.le_of_ble_eq_true rfl) (Nat.le_of_ble_eq_true rfl) (Nat.le_of_ble_eq_true rfl) (Nat.le_of_ble_eq_true rfl) ?_
                        refine ww_aload_n dX11_land_149 rfl rfl ?_
                        refine ww_iload_n dX11_land_150 rfl rfl ?_
                        refine ww_cVq0 (M := m_X11_land) (pc := 151) (st := []) (d := 6) (bc := 0) (bs := 0) (c_ML_row1 hst hM htf hB hn bk 0 a5002 (by omega) hs.1 hm0) vv_X11_readRow dX11_land_151 wg_1456 ((mlS_M hM s.1 s.2.1 nc no nr).K0) rfl rfl rfl rfl (Nat.le_of_ble_eq_true rfl) (Nat.le_of_ble_eq_true rfl) (Nat.le_of_ble_eq_true rfl) (Nat.le_of_ble_eq_true rfl) (fun ho5005 qo5005 => ?_)
                        rcases hr5005 : rwS T n 1 s a5002 with ⟨k5005, q5005⟩ | ⟨a5005, s5005⟩
                        · rw [hr5005] at qo5005
                          obtain ⟨x5005, np5005, du5005, nc5005, no5005, nr5005, hx5005, hnp5005, hdu5005, rfl⟩ := qo5005
                          have hf5005 := rwS_k hr5005
                          have hq5005 := rwS_q (by omega) hr5005
                          refine ww_aload_n dX11_land_154 rfl rfl ?_
                          refine ww_bipush (v := nI 59) dX11_land_155 (by decide) ?_
                          refine ww_cV0 (M := m_X11_land) (pc := 157) (h1 := mrS (mlS h m np5005 du5005 nc5005 no5005 nr5005) m n x5005 (nI q5005) (nI k5005) 0) (st := []) (d := 6) (bc := 0) (bs := 0) (c_MR_sign_f hst (mlS_M hM np5005 du5005 nc5005 no5005 nr5005) (mlS_t (np := np5005) (du := du5005) (nc := nc5005) (no := no5005) (nr := nr5005) htf) hB hn x5005 (nI k5005) 0 q5005 (by omega) 59) vv_X11_sign dX11_land_157 wg_1467 ((mlS_M hM np5005 du5005 nc5005 no5005 nr5005).K0) rfl rfl rfl rfl (Nat.le_of_ble_eq_true rfl) (Nat.le_of_ble_eq_true rfl) (Nat.le_of_ble_eq_true rfl) (Nat.le_of_ble_eq_true rfl) ?_
                          refine ww_incN (c := 1) (lv2 := [.ref m, .int (nI n), .int (nI (t + 1)), .int (nI 16110)]) dX11_land_160 rfl rfl rfl (by decide) rfl ?_
                          refine ww_goto (tgt := 44) dX11_land_163 (by decide) ?_
                          refine ww_aload_n dX11_land_44 rfl rfl ?_
                          refine ww_cVr (M := m_X11_land) (pc := 45) (v := .int (nI 0)) (h1 := mrS (mlS h m np5005 du5005 nc5005 no5005 nr5005) m n x5005 (nI q5005) (nI k5005) 0) (st := []) (d := 6) (bc := 0) (bs := 0) (c_MR_fine_f hst (mlS_M hM np5005 du5005 nc5005 no5005 nr5005) (mlS_t (np := np5005) (du := du5005) (nc := nc5005) (no := no5005) (nr := nr5005) htf) hB hn x5005 (nI k5005) 0 q5005 (by omega)) vv_X11_fine dX11_land_45 wg_1421 ((mlS_M hM np5005 du5005 nc5005 no5005 nr5005).K0) rfl rfl rfl rfl (Nat.le_of_ble_eq_true rfl) (Nat.le_of_ble_eq_true rfl) (Nat.le_of_ble_eq_true rfl) (Nat.le_of_ble_eq_true rfl) ?_
                          refine ww_if_eqN (tgt := 166) dX11_land_48 (by decide) (by omega) (fun c48 => ?_) (fun c48 => ?_)
                          · exfalso
                            have hcl : clS T n t s (sk T n a) = .inl (k5005, q5005) := (clS_rl hr5002 (by omega) (by omega) hr5005)
                            rw [ldS_i (by assumption), hcl, bS_l] at hr
                            cases hr
                          · exact absurd c48 (by decide)
                        · rw [hr5005] at qo5005
                          obtain ⟨nc5005, no5005, nr5005, hm5005, rfl⟩ := qo5005
                          have hf5005 := rwS_r (by omega) hs.1 (by omega) hr5005
                          refine ww_aload_n dX11_land_154 rfl rfl ?_
                          refine ww_bipush (v := nI 59) dX11_land_155 (by decide) ?_
                          rcases hr5006 : sgnS T n 59 a5005 with ⟨k5006, q5006⟩ | ⟨a5006, u5006⟩
                          · have hf5006 := (sgnS_l hr5006).1
                            have hq5006 := sgnS_lq (by omega) hr5006
                            have hsl5006 := sk_le (T := T) (show a5005 ≤ n by omega)
                            refine ww_cV0 (M := m_X11_land) (pc := 157) (h1 := mrS (mlS h m s5005.1 s5005.2.1 nc5005 no5005 nr5005) m n (sk T n a5005) (nI q5006) (nI k5006) 0) (st := []) (d := 6) (bc := 0) (bs := 0) (c_MR_sign_l hst (mlS_M hM s5005.1 s5005.2.1 nc5005 no5005 nr5005) (mlS_t (np := s5005.1) (du := s5005.2.1) (nc := nc5005) (no := no5005) (nr := nr5005) htf) hB hn a5005 bk 0 (by omega) 59 (by omega) (by omega) hr5006) vv_X11_sign dX11_land_157 wg_1467 ((mlS_M hM s5005.1 s5005.2.1 nc5005 no5005 nr5005).K0) rfl rfl rfl rfl (Nat.le_of_ble_eq_true rfl) (Nat.le_of_ble_eq_true rfl) (Nat.le_of_ble_eq_true rfl) (Nat.le_of_ble_eq_true rfl) ?_
                            refine ww_incN (c := 1) (lv2 := [.ref m, .int (nI n), .int (nI (t + 1)), .int (nI 16110)]) dX11_land_160 rfl rfl rfl (by decide) rfl ?_
                            refine ww_goto (tgt := 44) dX11_land_163 (by decide) ?_
                            refine ww_aload_n dX11_land_44 rfl rfl ?_
                            refine ww_cVr (M := m_X11_land) (pc := 45) (v := .int (nI 0)) (h1 := mrS (mlS h m s5005.1 s5005.2.1 nc5005 no5005 nr5005) m n (sk T n a5005) (nI q5006) (nI k5006) 0) (st := []) (d := 6) (bc := 0) (bs := 0) (c_MR_fine_f hst (mlS_M hM s5005.1 s5005.2.1 nc5005 no5005 nr5005) (mlS_t (np := s5005.1) (du := s5005.2.1) (nc := nc5005) (no := no5005) (nr := nr5005) htf) hB hn (sk T n a5005) (nI k5006) 0 q5006 (by omega)) vv_X11_fine dX11_land_45 wg_1421 ((mlS_M hM s5005.1 s5005.2.1 nc5005 no5005 nr5005).K0) rfl rfl rfl rfl (Nat.le_of_ble_eq_true rfl) (Nat.le_of_ble_eq_true rfl) (Nat.le_of_ble_eq_true rfl) (Nat.le_of_ble_eq_true rfl) ?_
                            refine ww_if_eqN (tgt := 166) dX11_land_48 (by decide) (by omega) (fun c48 => ?_) (fun c48 => ?_)
                            · exfalso
                              have hcl : clS T n t s (sk T n a) = .inl (k5006, q5006) := (by rw [clS_rr hr5002 (by omega) (by omega) hr5005, hr5006, bS_l])
                              rw [ldS_i (by assumption), hcl, bS_l] at hr
                              cases hr
                            · exact absurd c48 (by decide)
                          · have hf5006 := sgnS_r hr5006
                            have hg5006 := sk_ge (T := T) (show a5005 ≤ n by omega)
                            refine ww_cV0 (M := m_X11_land) (pc := 157) (h1 := mrS (mlS h m s5005.1 s5005.2.1 nc5005 no5005 nr5005) m n a5006 (-1) bk 0) (st := []) (d := 6) (bc := 0) (bs := 0) (c_MR_sign_r hst (mlS_M hM s5005.1 s5005.2.1 nc5005 no5005 nr5005) (mlS_t (np := s5005.1) (du := s5005.2.1) (nc := nc5005) (no := no5005) (nr := nr5005) htf) hB hn a5005 bk 0 (by omega) 59 (by omega) (by omega) hr5006) vv_X11_sign dX11_land_157 wg_1467 ((mlS_M hM s5005.1 s5005.2.1 nc5005 no5005 nr5005).K0) rfl rfl rfl rfl (Nat.le_of_ble_eq_true rfl) (Nat.le_of_ble_eq_true rfl) (Nat.le_of_ble_eq_true rfl) (Nat.le_of_ble_eq_true rfl) ?_
                            refine ww_incN (c := 1) (lv2 := [.ref m, .int (nI n), .int (nI (t + 1)), .int (nI 16110)]) dX11_land_160 rfl rfl rfl (by decide) rfl ?_
                            refine ww_goto (tgt := 44) dX11_land_163 (by decide) ?_
                            refine ww_fg (lv2 := [.ref m, .int (nI n), .int (nI (t + 1)), UU]) ⟨Or.inr rfl, Or.inr rfl, Or.inr rfl, Or.inl rfl, trivial⟩ ?_
                            have hcl : clS T n t s (sk T n a) = .inr (a5006, s5005) := by rw [clS_rr hr5002 (by omega) (by omega) hr5005, hr5006, bS_r]
                            have hG := clS_G hs (by omega) hcl
                            rw [ldS_i (by assumption), hcl, bS_r] at hr
                            exact ih (t + 1) s5005 a5006 _ _ _ (by omega) hG.1 (by omega) (by omega) hm5005 hr hexit
                      · exact absurd c139 (by decide)
                    · exact absurd c114 (by decide)
                · exact absurd c78 (by decide)
            · have hw5002 : wdA T n (sk T n a) = 153241 := by
                obtain ⟨i, hi, hw⟩ := wM_r (by omega) wLand_x (by decide) hr5002
                have e := Option.some.inj (show some 8 = some i from hi)
                rw [← e] at hw
                exact hw.trans (by decide +kernel)
              refine ww_cVr (M := m_X11_land) (pc := 59) (v := .int (nI 153241)) (h1 := mrS (mlS h m s.1 s.2.1 nc no nr) m n (sk T n (sk T n a)) (-1) bk 0) (st := []) (d := 6) (bc := 0) (bs := 0) (c_MR_word_e hst (mlS_M hM s.1 s.2.1 nc no nr) (mlS_t (np := s.1) (du := s.2.1) (nc := nc) (no := no) (nr := nr) htf) hB hn (-1) bk 0 (sk T n a) (by omega) hw5002) vv_X11_word dX11_land_59 wg_1433 ((mlS_M hM s.1 s.2.1 nc no nr).K0) rfl rfl rfl rfl (Nat.le_of_ble_eq_true rfl) (Nat.le_of_ble_eq_true rfl) (Nat.le_of_ble_eq_true rfl) (Nat.le_of_ble_eq_true rfl) ?_
              refine ww_sti_n (lv2 := [.ref m, .int (nI n), .int (nI t), .int (nI 153241)]) dX11_land_62 rfl rfl (by decide) rfl ?_
              refine ww_iload_n dX11_land_63 rfl rfl ?_
              refine ww_ldcS (i := 6) dX11_land_64 rfl ?_
              refine ww_cSr (M := m_X11_land) (pc := 66) (v := .int (nI 542723566)) (h1 := mrS (mlS h m s.1 s.2.1 nc no nr) m n (sk T n (sk T n a)) (-1) bk 0) (st := [.int (nI 153241)]) (d := 6) (bc := 0) (bs := 0) (c_of_6 hst (mrS (mlS h m s.1 s.2.1 nc no nr) m n (sk T n (sk T n a)) (-1) bk 0)) vv_X11_of dX11_land_66 wg_1441 rfl rfl rfl (Nat.le_of_ble_eq_true rfl) (Nat.le_of_ble_eq_true rfl) (Nat.le_of_ble_eq_true rfl) (Nat.le_of_ble_eq_true rfl) ?_
              refine ww_icmp_eqN (tgt := 102) dX11_land_69 (by decide) (by omega) (by omega) (fun c69 => ?_) (fun c69 => ?_)
              · exact absurd c69 (by decide)
              · refine ww_iload_n dX11_land_72 rfl rfl ?_
                refine ww_ldcS (i := 7) dX11_land_73 rfl ?_
                refine ww_cSr (M := m_X11_land) (pc := 75) (v := .int (nI 16110)) (h1 := mrS (mlS h m s.1 s.2.1 nc no nr) m n (sk T n (sk T n a)) (-1) bk 0) (st := [.int (nI 153241)]) (d := 6) (bc := 0) (bs := 0) (c_of_7 hst (mrS (mlS h m s.1 s.2.1 nc no nr) m n (sk T n (sk T n a)) (-1) bk 0)) vv_X11_of dX11_land_75 wg_1441 rfl rfl rfl (Nat.le_of_ble_eq_true rfl) (Nat.le_of_ble_eq_true rfl) (Nat.le_of_ble_eq_true rfl) (Nat.le_of_ble_eq_true rfl) ?_
                refine ww_icmp_eqN (tgt := 102) dX11_land_78 (by decide) (by omega) (by omega) (fun c78 => ?_) (fun c78 => ?_)
                · exact absurd c78 (by decide)
                · refine ww_iload_n dX11_land_81 rfl rfl ?_
                  refine ww_ldcS (i := 8) dX11_land_82 rfl ?_
                  refine ww_cSr (M := m_X11_land) (pc := 84) (v := .int (nI 153241)) (h1 := mrS (mlS h m s.1 s.2.1 nc no nr) m n (sk T n (sk T n a)) (-1) bk 0) (st := [.int (nI 153241)]) (d := 6) (bc := 0) (bs := 0) (c_of_8 hst (mrS (mlS h m s.1 s.2.1 nc no nr) m n (sk T n (sk T n a)) (-1) bk 0)) vv_X11_of dX11_land_84 wg_1441 rfl rfl rfl (Nat.le_of_ble_eq_true rfl) (Nat.le_of_ble_eq_true rfl) (Nat.le_of_ble_eq_true rfl) (Nat.le_of_ble_eq_true rfl) ?_
                  refine ww_icmp_eqN (tgt := 102) dX11_land_87 (by decide) (by omega) (by omega) (fun c87 => ?_) (fun c87 => ?_)
                  · refine ww_iload_n dX11_land_102 rfl rfl ?_
                    refine ww_bipush (v := nI 60) dX11_land_103 (by decide) ?_
                    refine ww_icmp_eqN (tgt := 126) dX11_land_105 (by decide) (by omega) (by omega) (fun c105 => ?_) (fun c105 => ?_)
                    · refine ww_aload_n dX11_land_126 rfl rfl ?_
                      refine ww_iconst (v := nI 3) dX11_land_127 (by decide) ?_
                      refine ww_aload_n dX11_land_128 rfl rfl ?_
                      refine ww_get 4 dX11_land_129 ((mlS_M hM s.1 s.2.1 nc no nr).K0) rfl (by decide) inX11 wg_1244 (mrS_4 _ _ _ _ _ _ _) ?_
                      refine ww_cV0 (M := m_X11_land) (pc := 132) (h1 := mrS (mlS h m s.1 s.2.1 nc no nr) m n (sk T n (sk T n a)) (nI (sk T n (sk T n a))) (nI 3) 0) (st := []) (d := 6) (bc := 0) (bs := 0) (c_MR_wrong_t hst (mlS_M hM s.1 s.2.1 nc no nr) (mlS_t (np := s.1) (du := s.2.1) (nc := nc) (no := no) (nr := nr) htf) hB hn (sk T n (sk T n a)) bk 0 (nI 3) (nI (sk T n (sk T n a)))) vv_X11_wrong dX11_land_132 wg_1448 ((mlS_M hM s.1 s.2.1 nc no nr).K0) rfl rfl rfl rfl (Nat.le_of_ble_eq_true rfl) (Nat.le_of_ble_eq_true rfl) (Nat.le_of_ble_eq_true rfl) (Nat.le_of_ble_eq_true rfl) ?_
                      refine ww_aload_n dX11_land_135 rfl rfl ?_
                      refine ww_cVr (M := m_X11_land) (pc := 136) (v := .int (nI 0)) (h1 := mrS (mlS h m s.1 s.2.1 nc no nr) m n (sk T n (sk T n a)) (nI (sk T n (sk T n a))) (nI 3) 0) (st := []) (d := 6) (bc := 0) (bs := 0) (c_MR_fine_f hst (mlS_M hM s.1 s.2.1 nc no nr) (mlS_t (np := s.1) (du := s.2.1) (nc := nc) (no := no) (nr := nr) htf) hB hn (sk T n (sk T n a)) (nI 3) 0 (sk T n (sk T n a)) (by omega)) vv_X11_fine dX11_land_136 wg_1421 ((mlS_M hM s.1 s.2.1 nc no nr).K0) rfl rfl rfl rfl (Nat.le_of_ble_eq_true rfl) (Nat.le_of_ble_eq_true rfl) (Nat.le_of_ble_eq_true rfl) (Nat.le_of_ble_eq_true rfl) ?_
                      refine ww_if_neN (tgt := 145) dX11_land_139 (by decide) (by omega) (fun c139 => ?_) (fun c139 => ?_)
                      · exact absurd c139 (by decide)
                      · refine ww_goto (tgt := 166) dX11_land_142 (by decide) ?_
                        exfalso
                        have hcl : clS T n t s (sk T n a) = .inl (3, (sk T n (sk T n a))) := (clS_x hr5002 (by omega))
                        rw [ldS_i (by assumption), hcl, bS_l] at hr
                        cases hr
                    · refine ww_iload_n dX11_land_108 rfl rfl ?_
                      refine ww_ldcS (i := 6) dX11_land_109 rfl ?_
                      refine ww_cSr (M := m_X11_land) (pc := 111) (v := .int (nI 542723566)) (h1 := mrS (mlS h m s.1 s.2.1 nc no nr) m n (sk T n (sk T n a)) (-1) bk 0) (st := [.int (nI 153241)]) (d := 6) (bc := 0) (bs := 0) (c_of_6 hst (mrS (mlS h m s.1 s.2.1 nc no nr) m n (sk T n (sk T n a)) (-1) bk 0)) vv_X11_of dX11_land_111 wg_1441 rfl rfl rfl (Nat.le_of_ble_eq_true rfl) (Nat.le_of_ble_eq_true rfl) (Nat.le_of_ble_eq_true rfl) (Nat.le_of_ble_eq_true rfl) ?_
                      refine ww_icmp_neN (tgt := 135) dX11_land_114 (by decide) (by omega) (by omega) (fun c114 => ?_) (fun c114 => ?_)
                      · refine ww_aload_n dX11_land_135 rfl rfl ?_
                        refine ww_cVr (M := m_X11_land) (pc := 136) (v := .int (nI 1)) (h1 := mrS (mlS h m s.1 s.2.1 nc no nr) m n (sk T n (sk T n a)) (-1) bk 0) (st := []) (d := 6) (bc := 0) (bs := 0) (c_MR_fine_t hst (mlS_M hM s.1 s.2.1 nc no nr) (mlS_t (np := s.1) (du := s.2.1) (nc := nc) (no := no) (nr := nr) htf) hB hn (sk T n (sk T n a)) bk 0) vv_X11_fine dX11_land_136 wg_1421 ((mlS_M hM s.1 s.2.1 nc no nr).K0) rfl rfl rfl rfl (Nat.le_of_ble_eq_true rfl) (Nat.le_of_ble_eq_true rfl) (Nat.le_of_ble_eq_true rfl) (Nat.le_of_ble_eq_true rfl) ?_
                        refine ww_if_neN (tgt := 145) dX11_land_139 (by decide) (by omega) (fun c139 => ?_) (fun c139 => ?_)
                        · refine ww_aload_n dX11_land_145 rfl rfl ?_
                          refine ww_cV0 (M := m_X11_land) (pc := 146) (h1 := mrS (mlS h m s.1 s.2.1 nc no nr) m n a5002 (-1) bk 0) (st := []) (d := 6) (bc := 0) (bs := 0) (c_MR_pass_e hst (mlS_M hM s.1 s.2.1 nc no nr) (mlS_t (np := s.1) (du := s.2.1) (nc := nc) (no := no) (nr := nr) htf) hB hn (-1) bk 0 (sk T n (sk T n a)) (by omega) hz5002) vv_X11_pass dX11_land_146 wg_1452 ((mlS_M hM s.1 s.2.1 nc no nr).K0) rfl rfl rfl rfl (Nat.le_of_ble_eq_true rfl) (Nat.le_of_ble_eq_true rfl) (Nat.le_of_ble_eq_true rfl) (Nat.le_of_ble_eq_true rfl) ?_
                          refine ww_aload_n dX11_land_149 rfl rfl ?_
                          refine ww_iload_n dX11_land_150 rfl rfl ?_
                          refine ww_cVq0 (M := m_X11_land) (pc := 151) (st := []) (d := 6) (bc := 0) (bs := 0) (c_ML_row2 hst hM htf hB hn bk 0 a5002 (by omega) hs.1 hm0) vv_X11_readRow dX11_land_151 wg_1456 ((mlS_M hM s.1 s.2.1 nc no nr).K0) rfl rfl rfl rfl (Nat.le_of_ble_eq_true rfl) (Nat.le_of_ble_eq_true rfl) (Nat.le_of_ble_eq_true rfl) (Nat.le_of_ble_eq_true rfl) (fun ho5007 qo5007 => ?_)
                          rcases hr5007 : rwS T n 2 s a5002 with ⟨k5007, q5007⟩ | ⟨a5007, s5007⟩
                          · rw [hr5007] at qo5007
                            obtain ⟨x5007, np5007, du5007, nc5007, no5007, nr5007, hx5007, hnp5007, hdu5007, rfl⟩ := qo5007
                            have hf5007 := rwS_k hr5007
                            have hq5007 := rwS_q (by omega) hr5007
                            refine ww_aload_n dX11_land_154 rfl rfl ?_
                            refine ww_bipush (v := nI 59) dX11_land_155 (by decide) ?_
                            refine ww_cV0 (M := m_X11_land) (pc := 157) (h1 := mrS (mlS h m np5007 du5007 nc5007 no5007 nr5007) m n x5007 (nI q5007) (nI k5007) 0) (st := []) (d := 6) (bc := 0) (bs := 0) (c_MR_sign_f hst (mlS_M hM np5007 du5007 nc5007 no5007 nr5007) (mlS_t (np := np5007) (du := du5007) (nc := nc5007) (no := no5007) (nr := nr5007) htf) hB hn x5007 (nI k5007) 0 q5007 (by omega) 59) vv_X11_sign dX11_land_157 wg_1467 ((mlS_M hM np5007 du5007 nc5007 no5007 nr5007).K0) rfl rfl rfl rfl (Nat.le_of_ble_eq_true rfl) (Nat.le_of_ble_eq_true rfl) (Nat.le_of_ble_eq_true rfl) (Nat.le_of_ble_eq_true rfl) ?_
                            refine ww_incN (c := 1) (lv2 := [.ref m, .int (nI n), .int (nI (t + 1)), .int (nI 153241)]) dX11_land_160 rfl rfl rfl (by decide) rfl ?_
                            refine ww_goto (tgt := 44) dX11_land_163 (by decide) ?_
                            refine ww_aload_n dX11_land_44 rfl rfl ?_
                            refine ww_cVr (M := m_X11_land) (pc := 45) (v := .int (nI 0)) (h1 := mrS (mlS h m np5007 du5007 nc5007 no5007 nr5007) m n x5007 (nI q5007) (nI k5007) 0) (st := []) (d := 6) (bc := 0) (bs := 0) (c_MR_fine_f hst (mlS_M hM np5007 du5007 nc5007 no5007 nr5007) (mlS_t (np := np5007) (du := du5007) (nc := nc5007) (no := no5007) (nr := nr5007) htf) hB hn x5007 (nI k5007) 0 q5007 (by omega)) vv_X11_fine dX11_land_45 wg_1421 ((mlS_M hM np5007 du5007 nc5007 no5007 nr5007).K0) rfl rfl rfl rfl (Nat.le_of_ble_eq_true rfl) (Nat.le_of_ble_eq_true rfl) (Nat.le_of_ble_eq_true rfl) (Nat.le_of_ble_eq_true rfl) ?_
                            refine ww_if_eqN (tgt := 166) dX11_land_48 (by decide) (by omega) (fun c48 => ?_) (fun c48 => ?_)
                            · exfalso
                              have hcl : clS T n t s (sk T n a) = .inl (k5007, q5007) := (clS_rl hr5002 (by omega) (by omega) hr5007)
                              rw [ldS_i (by assumption), hcl, bS_l] at hr
                              cases hr
                            · exact absurd c48 (by decide)
                          · rw [hr5007] at qo5007
                            obtain ⟨nc5007, no5007, nr5007, hm5007, rfl⟩ := qo5007
                            have hf5007 := rwS_r (by omega) hs.1 (by omega) hr5007
                            refine ww_aload_n dX11_land_154 rfl rfl ?_
                            refine ww_bipush (v := nI 59) dX11_land_155 (by decide) ?_
                            rcases hr5008 : sgnS T n 59 a5007 with ⟨k5008, q5008⟩ | ⟨a5008, u5008⟩
                            · have hf5008 := (sgnS_l hr5008).1
                              have hq5008 := sgnS_lq (by omega) hr5008
                              have hsl5008 := sk_le (T := T) (show a5007 ≤ n by omega)
                              refine ww_cV0 (M := m_X11_land) (pc := 157) (h1 := mrS (mlS h m s5007.1 s5007.2.1 nc5007 no5007 nr5007) m n (sk T n a5007) (nI q5008) (nI k5008) 0) (st := []) (d := 6) (bc := 0) (bs := 0) (c_MR_sign_l hst (mlS_M hM s5007.1 s5007.2.1 nc5007 no5007 nr5007) (mlS_t (np := s5007.1) (du := s5007.2.1) (nc := nc5007) (no := no5007) (nr := nr5007) htf) hB hn a5007 bk 0 (by omega) 59 (by omega) (by omega) hr5008) vv_X11_sign dX11_land_157 wg_1467 ((mlS_M hM s5007.1 s5007.2.1 nc5007 no5007 nr5007).K0) rfl rfl rfl rfl (Nat.le_of_ble_eq_true rfl) (Nat.le_of_ble_eq_true rfl) (Nat.le_of_ble_eq_true rfl) (Nat.le_of_ble_eq_true rfl) ?_
                              refine ww_incN (c := 1) (lv2 := [.ref m, .int (nI n), .int (nI (t + 1)), .int (nI 153241)]) dX11_land_160 rfl rfl rfl (by decide) rfl ?_
                              refine ww_goto (tgt := 44) dX11_land_163 (by decide) ?_
                              refine ww_aload_n dX11_land_44 rfl rfl ?_
                              refine ww_cVr (M := m_X11_land) (pc := 45) (v := .int (nI 0)) (h1 := mrS (mlS h m s5007.1 s5007.2.1 nc5007 no5007 nr5007) m n (sk T n a5007) (nI q5008) (nI k5008) 0) (st := []) (d := 6) (bc := 0) (bs := 0) (c_MR_fine_f hst (mlS_M hM s5007.1 s5007.2.1 nc5007 no5007 nr5007) (mlS_t (np := s5007.1) (du := s5007.2.1) (nc := nc5007) (no := no5007) (nr := nr5007) htf) hB hn (sk T n a5007) (nI k5008) 0 q5008 (by omega)) vv_X11_fine dX11_land_45 wg_1421 ((mlS_M hM s5007.1 s5007.2.1 nc5007 no5007 nr5007).K0) rfl rfl rfl rfl (Nat.le_of_ble_eq_true rfl) (Nat.le_of_ble_eq_true rfl) (Nat.le_of_ble_eq_true rfl) (Nat.le_of_ble_eq_true rfl) ?_
                              refine ww_if_eqN (tgt := 166) dX11_land_48 (by decide) (by omega) (fun c48 => ?_) (fun c48 => ?_)
                              · exfalso
                                have hcl : clS T n t s (sk T n a) = .inl (k5008, q5008) := (by rw [clS_rr hr5002 (by omega) (by omega) hr5007, hr5008, bS_l])
                                rw [ldS_i (by assumption), hcl, bS_l] at hr
                                cases hr
                              · exact absurd c48 (by decide)
                            · have hf5008 := sgnS_r hr5008
                              have hg5008 := sk_ge (T := T) (show a5007 ≤ n by omega)
                              refine ww_cV0 (M := m_X11_land) (pc := 157) (h1 := mrS (mlS h m s5007.1 s5007.2.1 nc5007 no5007 nr5007) m n a5008 (-1) bk 0) (st := []) (d := 6) (bc := 0) (bs := 0) (c_MR_sign_r hst (mlS_M hM s5007.1 s5007.2.1 nc5007 no5007 nr5007) (mlS_t (np := s5007.1) (du := s5007.2.1) (nc := nc5007) (no := no5007) (nr := nr5007) htf) hB hn a5007 bk 0 (by omega) 59 (by omega) (by omega) hr5008) vv_X11_sign dX11_land_157 wg_1467 ((mlS_M hM s5007.1 s5007.2.1 nc5007 no5007 nr5007).K0) rfl rfl rfl rfl (Nat.le_of_ble_eq_true rfl) (Nat.le_of_ble_eq_true rfl) (Nat.le_of_ble_eq_true rfl) (Nat.le_of_ble_eq_true rfl) ?_
                              refine ww_incN (c := 1) (lv2 := [.ref m, .int (nI n), .int (nI (t + 1)), .int (nI 153241)]) dX11_land_160 rfl rfl rfl (by decide) rfl ?_
                              refine ww_goto (tgt := 44) dX11_land_163 (by decide) ?_
                              refine ww_fg (lv2 := [.ref m, .int (nI n), .int (nI (t + 1)), UU]) ⟨Or.inr rfl, Or.inr rfl, Or.inr rfl, Or.inl rfl, trivial⟩ ?_
                              have hcl : clS T n t s (sk T n a) = .inr (a5008, s5007) := by rw [clS_rr hr5002 (by omega) (by omega) hr5007, hr5008, bS_r]
                              have hG := clS_G hs (by omega) hcl
                              rw [ldS_i (by assumption), hcl, bS_r] at hr
                              exact ih (t + 1) s5007 a5008 _ _ _ (by omega) hG.1 (by omega) (by omega) hm5007 hr hexit
                        · exact absurd c139 (by decide)
                      · exact absurd c114 (by decide)
                  · exact absurd c87 (by decide)
      · refine ww_cVr (M := m_X11_land) (pc := 52) (v := .int (nI 0)) (h1 := mrS (mlS h m s.1 s.2.1 nc no nr) m n n (-1) bk 0) (st := []) (d := 6) (bc := 0) (bs := 0) (c_MR_more_f hst (mlS_M hM s.1 s.2.1 nc no nr) (mlS_t (np := s.1) (du := s.2.1) (nc := nc) (no := no) (nr := nr) htf) hB hn (-1) bk 0 a (by omega) hl5001) vv_X11_isMore dX11_land_52 wg_1425 ((mlS_M hM s.1 s.2.1 nc no nr).K0) rfl rfl rfl rfl (Nat.le_of_ble_eq_true rfl) (Nat.le_of_ble_eq_true rfl) (Nat.le_of_ble_eq_true rfl) (Nat.le_of_ble_eq_true rfl) ?_
        refine ww_if_eqN (tgt := 166) dX11_land_55 (by decide) (by omega) (fun c55 => ?_) (fun c55 => ?_)
        · rw [ldS_e (by assumption)] at hr
          cases hr
          refine ww_fg (lv2 := [.ref m, .int (nI n), UU, UU]) ⟨Or.inr rfl, Or.inr rfl, Or.inl rfl, Or.inl rfl, trivial⟩ ?_
          exact hexit _ _ _ hm0
        · exact absurd c55 (by decide)
set_option maxHeartbeats 4000000 in
set_option maxRecDepth 100000 in
theorem l_ML_land_l {l : Launch} {Z : EE} (hst : l.stackTraces = false) {h : PH} {m : Nat} (hM : ModS h m) {tf : Nat → Int32} (htf : hp_I h (m + 2) = tf) {T : Nat → Nat} (hB : BT tf T) {n : Nat} (hn : n ≤ 600) (bk : Int32) {k9 q9 : Nat} {Post : Res → PH → Prop} : ∀ (c t : Nat) (s : LSt) (a : Nat) (nc no nr : Nat → Int32), t + c = 61 → LsG s → a ≤ n → t ≤ 60 → MlR s nc no nr → ldS T n c t s a = .inl (k9, q9) → (∀ a np du nc no nr, a ≤ n → np ≤ 6 → du ≤ 20 → WW l Z m_X11_land 6 0 0 166 [.ref m, .int (nI n), UU, UU] [] (mrS (mlS h m np du nc no nr) m n a (nI q9) (nI k9) 0) Post) → WW l Z m_X11_land 6 0 0 44 [.ref m, .int (nI n), .int (nI t), UU] [] (mrS (mlS h m s.1 s.2.1 nc no nr) m n a (-1) bk 0) Post := by
  intro c
  induction c with
  | zero =>
    intro t s a nc no nr ht hs ha htt hm0 hr hexit
    omega
  | succ c ih =>
    intro t s a nc no nr ht hs ha htt hm0 hr hexit
    have hs1 : s.1 ≤ 6 := hs.1.1
    have hs2 : s.2.1 ≤ 20 := hs.1.2.1
    refine ww_aload_n dX11_land_44 rfl rfl ?_
    refine ww_cVr (M := m_X11_land) (pc := 45) (v := .int (nI 1)) (h1 := mrS (mlS h m s.1 s.2.1 nc no nr) m n a (-1) bk 0) (st := []) (d := 6) (bc := 0) (bs := 0) (c_MR_fine_t hst (mlS_M hM s.1 s.2.1 nc no nr) (mlS_t (np := s.1) (du := s.2.1) (nc := nc) (no := no) (nr := nr) htf) hB hn a bk 0) vv_X11_fine dX11_land_45 wg_1421 ((mlS_M hM s.1 s.2.1 nc no nr).K0) rfl rfl rfl rfl (Nat.le_of_ble_eq_true rfl) (Nat.le_of_ble_eq_true rfl) (Nat.le_of_ble_eq_true rfl) (Nat.le_of_ble_eq_true rfl) ?_
    refine ww_if_eqN (tgt := 166) dX11_land_48 (by decide) (by omega) (fun c48 => ?_) (fun c48 => ?_)
    · exact absurd c48 (by decide)
    · refine ww_aload_n dX11_land_51 rfl rfl ?_
      have hsl5009 := sk_le (T := T) (show a ≤ n by omega)
      have hsg5009 := sk_ge (T := T) (show a ≤ n by omega)
      by_cases hl5009 : sk T n a < n
      · refine ww_cVr (M := m_X11_land) (pc := 52) (v := .int (nI 1)) (h1 := mrS (mlS h m s.1 s.2.1 nc no nr) m n (sk T n a) (-1) bk 0) (st := []) (d := 6) (bc := 0) (bs := 0) (c_MR_more_t hst (mlS_M hM s.1 s.2.1 nc no nr) (mlS_t (np := s.1) (du := s.2.1) (nc := nc) (no := no) (nr := nr) htf) hB hn (-1) bk 0 a (by omega) hl5009) vv_X11_isMore dX11_land_52 wg_1425 ((mlS_M hM s.1 s.2.1 nc no nr).K0) rfl rfl rfl rfl (Nat.le_of_ble_eq_true rfl) (Nat.le_of_ble_eq_true rfl) (Nat.le_of_ble_eq_true rfl) (Nat.le_of_ble_eq_true rfl) ?_
        refine ww_if_eqN (tgt := 166) dX11_land_55 (by decide) (by omega) (fun c55 => ?_) (fun c55 => ?_)
        · exact absurd c55 (by decide)
        · refine ww_aload_n dX11_land_58 rfl rfl ?_
          have hsl5010 := sk_le (T := T) (show sk T n a ≤ n by omega)
          have hsg5010 := sk_ge (T := T) (show sk T n a ≤ n by omega)
          rcases hr5010 : wrdS wLand T n (sk T n a) with ⟨k5010, q5010⟩ | ⟨a5010, v5010⟩
          · have hq5010 := wrdS_lq (by omega) hr5010
            have hk5010 := (wrdS_l hr5010).1
            have hno5010 := wM_l (by omega) wLand_x (by decide) hr5010
            have hn5010_6 : ¬ wdA T n (sk T n a) = 542723566 := fun e => hno5010 6 (by decide) (e.trans (by decide +kernel))
            have hn5010_7 : ¬ wdA T n (sk T n a) = 16110 := fun e => hno5010 7 (by decide) (e.trans (by decide +kernel))
            have hn5010_8 : ¬ wdA T n (sk T n a) = 153241 := fun e => hno5010 8 (by decide) (e.trans (by decide +kernel))
            have hwl5010 := wdA_lt (T := T) (show sk T n a ≤ n by omega)
            refine ww_cVr (M := m_X11_land) (pc := 59) (v := .int (nI (wdA T n (sk T n a)))) (h1 := mrS (mlS h m s.1 s.2.1 nc no nr) m n (sk T n (sk T n a)) (-1) bk 0) (st := []) (d := 6) (bc := 0) (bs := 0) (c_MR_word hst (mlS_M hM s.1 s.2.1 nc no nr) (mlS_t (np := s.1) (du := s.2.1) (nc := nc) (no := no) (nr := nr) htf) hB hn (-1) bk 0 (sk T n a) (by omega)) vv_X11_word dX11_land_59 wg_1433 ((mlS_M hM s.1 s.2.1 nc no nr).K0) rfl rfl rfl rfl (Nat.le_of_ble_eq_true rfl) (Nat.le_of_ble_eq_true rfl) (Nat.le_of_ble_eq_true rfl) (Nat.le_of_ble_eq_true rfl) ?_
            refine ww_sti_n (lv2 := [.ref m, .int (nI n), .int (nI t), .int (nI (wdA T n (sk T n a)))]) dX11_land_62 rfl rfl (by decide) rfl ?_
            refine ww_iload_n dX11_land_63 rfl rfl ?_
            refine ww_ldcS (i := 6) dX11_land_64 rfl ?_
            refine ww_cSr (M := m_X11_land) (pc := 66) (v := .int (nI 542723566)) (h1 := mrS (mlS h m s.1 s.2.1 nc no nr) m n (sk T n (sk T n a)) (-1) bk 0) (st := [.int (nI (wdA T n (sk T n a)))]) (d := 6) (bc := 0) (bs := 0) (c_of_6 hst (mrS (mlS h m s.1 s.2.1 nc no nr) m n (sk T n (sk T n a)) (-1) bk 0)) vv_X11_of dX11_land_66 wg_1441 rfl rfl rfl (Nat.le_of_ble_eq_true rfl) (Nat.le_of_ble_eq_true rfl) (Nat.le_of_ble_eq_true rfl) (Nat.le_of_ble_eq_true rfl) ?_
            refine ww_icmp_eqN (tgt := 102) dX11_land_69 (by decide) (by omega) (by omega) (fun c69 => ?_) (fun c69 => ?_)
            · exfalso; omega
            · refine ww_iload_n dX11_land_72 rfl rfl ?_
              refine ww_ldcS (i := 7) dX11_land_73 rfl ?_
              refine ww_cSr (M := m_X11_land) (pc := 75) (v := .int (nI 16110)) (h1 := mrS (mlS h m s.1 s.2.1 nc no nr) m n (sk T n (sk T n a)) (-1) bk 0) (st := [.int (nI (wdA T n (sk T n a)))]) (d := 6) (bc := 0) (bs := 0) (c_of_7 hst (mrS (mlS h m s.1 s.2.1 nc no nr) m n (sk T n (sk T n a)) (-1) bk 0)) vv_X11_of dX11_land_75 wg_1441 rfl rfl rfl (Nat.le_of_ble_eq_true rfl) (Nat.le_of_ble_eq_true rfl) (Nat.le_of_ble_eq_true rfl) (Nat.le_of_ble_eq_true rfl) ?_
              refine ww_icmp_eqN (tgt := 102) dX11_land_78 (by decide) (by omega) (by omega) (fun c78 => ?_) (fun c78 => ?_)
              · exfalso; omega
              · refine ww_iload_n dX11_land_81 rfl rfl ?_
                refine ww_ldcS (i := 8) dX11_land_82 rfl ?_
                refine ww_cSr (M := m_X11_land) (pc := 84) (v := .int (nI 153241)) (h1 := mrS (mlS h m s.1 s.2.1 nc no nr) m n (sk T n (sk T n a)) (-1) bk 0) (st := [.int (nI (wdA T n (sk T n a)))]) (d := 6) (bc := 0) (bs := 0) (c_of_8 hst (mrS (mlS h m s.1 s.2.1 nc no nr) m n (sk T n (sk T n a)) (-1) bk 0)) vv_X11_of dX11_land_84 wg_1441 rfl rfl rfl (Nat.le_of_ble_eq_true rfl) (Nat.le_of_ble_eq_true rfl) (Nat.le_of_ble_eq_true rfl) (Nat.le_of_ble_eq_true rfl) ?_
                refine ww_icmp_eqN (tgt := 102) dX11_land_87 (by decide) (by omega) (by omega) (fun c87 => ?_) (fun c87 => ?_)
                · exfalso; omega
                · refine ww_aload_n dX11_land_90 rfl rfl ?_
                  refine ww_iconst (v := nI 1) dX11_land_91 (by decide) ?_
                  refine ww_aload_n dX11_land_92 rfl rfl ?_
                  refine ww_get 4 dX11_land_93 ((mlS_M hM s.1 s.2.1 nc no nr).K0) rfl (by decide) inX11 wg_1244 (mrS_4 _ _ _ _ _ _ _) ?_
                  refine ww_cV0 (M := m_X11_land) (pc := 96) (h1 := mrS (mlS h m s.1 s.2.1 nc no nr) m n (sk T n (sk T n a)) (nI (sk T n (sk T n a))) (nI 1) 0) (st := []) (d := 6) (bc := 0) (bs := 0) (c_MR_wrong_t hst (mlS_M hM s.1 s.2.1 nc no nr) (mlS_t (np := s.1) (du := s.2.1) (nc := nc) (no := no) (nr := nr) htf) hB hn (sk T n (sk T n a)) bk 0 (nI 1) (nI (sk T n (sk T n a)))) vv_X11_wrong dX11_land_96 wg_1448 ((mlS_M hM s.1 s.2.1 nc no nr).K0) rfl rfl rfl rfl (Nat.le_of_ble_eq_true rfl) (Nat.le_of_ble_eq_true rfl) (Nat.le_of_ble_eq_true rfl) (Nat.le_of_ble_eq_true rfl) ?_
                  refine ww_goto (tgt := 135) dX11_land_99 (by decide) ?_
                  refine ww_aload_n dX11_land_135 rfl rfl ?_
                  refine ww_cVr (M := m_X11_land) (pc := 136) (v := .int (nI 0)) (h1 := mrS (mlS h m s.1 s.2.1 nc no nr) m n (sk T n (sk T n a)) (nI (sk T n (sk T n a))) (nI 1) 0) (st := []) (d := 6) (bc := 0) (bs := 0) (c_MR_fine_f hst (mlS_M hM s.1 s.2.1 nc no nr) (mlS_t (np := s.1) (du := s.2.1) (nc := nc) (no := no) (nr := nr) htf) hB hn (sk T n (sk T n a)) (nI 1) 0 (sk T n (sk T n a)) (by omega)) vv_X11_fine dX11_land_136 wg_1421 ((mlS_M hM s.1 s.2.1 nc no nr).K0) rfl rfl rfl rfl (Nat.le_of_ble_eq_true rfl) (Nat.le_of_ble_eq_true rfl) (Nat.le_of_ble_eq_true rfl) (Nat.le_of_ble_eq_true rfl) ?_
                  refine ww_if_neN (tgt := 145) dX11_land_139 (by decide) (by omega) (fun c139 => ?_) (fun c139 => ?_)
                  · exact absurd c139 (by decide)
                  · refine ww_goto (tgt := 166) dX11_land_142 (by decide) ?_
                    have hcl : clS T n t s (sk T n a) = .inl (k5010, q5010) := (clS_l hr5010)
                    rw [ldS_i (by assumption), hcl, bS_l] at hr
                    obtain ⟨hk9, hq9, -⟩ := wrdS_l hr5010
                    subst hk9 hq9
                    cases hr
                    refine ww_fg (lv2 := [.ref m, .int (nI n), UU, UU]) ⟨Or.inr rfl, Or.inr rfl, Or.inl rfl, Or.inl rfl, trivial⟩ ?_
                    exact hexit _ _ _ _ _ _ (by omega) (by omega) (by omega)
          · have hf5010 := wrdS_lt wLand_ne (by omega) hr5010
            have hz5010 := (wrdS_r hr5010).1
            rcases (show v5010 = 0 ∨ v5010 = 1 ∨ v5010 = 2 by have h9 := hf5010.2.2; simp only [wLand, List.length_cons, List.length_nil] at h9; omega) with rfl | rfl | rfl
            · have hw5010 : wdA T n (sk T n a) = 542723566 := by
                obtain ⟨i, hi, hw⟩ := wM_r (by omega) wLand_x (by decide) hr5010
                have e := Option.some.inj (show some 6 = some i from hi)
                rw [← e] at hw
                exact hw.trans (by decide +kernel)
              refine ww_cVr (M := m_X11_land) (pc := 59) (v := .int (nI 542723566)) (h1 := mrS (mlS h m s.1 s.2.1 nc no nr) m n (sk T n (sk T n a)) (-1) bk 0) (st := []) (d := 6) (bc := 0) (bs := 0) (c_MR_word_e hst (mlS_M hM s.1 s.2.1 nc no nr) (mlS_t (np := s.1) (du := s.2.1) (nc := nc) (no := no) (nr := nr) htf) hB hn (-1) bk 0 (sk T n a) (by omega) hw5010) vv_X11_word dX11_land_59 wg_1433 ((mlS_M hM s.1 s.2.1 nc no nr).K0) rfl rfl rfl rfl (Nat.le_of_ble_eq_true rfl) (Nat.le_of_ble_eq_true rfl) (Nat.le_of_ble_eq_true rfl) (Nat.le_of_ble_eq_true rfl) ?_
              refine ww_sti_n (lv2 := [.ref m, .int (nI n), .int (nI t), .int (nI 542723566)]) dX11_land_62 rfl rfl (by decide) rfl ?_
              refine ww_iload_n dX11_land_63 rfl rfl ?_
              refine ww_ldcS (i := 6) dX11_land_64 rfl ?_
              refine ww_cSr (M := m_X11_land) (pc := 66) (v := .int (nI 542723566)) (h1 := mrS (mlS h m s.1 s.2.1 nc no nr) m n (sk T n (sk T n a)) (-1) bk 0) (st := [.int (nI 542723566)]) (d := 6) (bc := 0) (bs := 0) (c_of_6 hst (mrS (mlS h m s.1 s.2.1 nc no nr) m n (sk T n (sk T n a)) (-1) bk 0)) vv_X11_of dX11_land_66 wg_1441 rfl rfl rfl (Nat.le_of_ble_eq_true rfl) (Nat.le_of_ble_eq_true rfl) (Nat.le_of_ble_eq_true rfl) (Nat.le_of_ble_eq_true rfl) ?_
              refine ww_icmp_eqN (tgt := 102) dX11_land_69 (by decide) (by omega) (by omega) (fun c69 => ?_) (fun c69 => ?_)
              · refine ww_iload_n dX11_land_102 rfl rfl ?_
                refine ww_bipush (v := nI 60) dX11_land_103 (by decide) ?_
                refine ww_icmp_eqN (tgt := 126) dX11_land_105 (by decide) (by omega) (by omega) (fun c105 => ?_) (fun c105 => ?_)
                · refine ww_aload_n dX11_land_126 rfl rfl ?_
                  refine ww_iconst (v := nI 3) dX11_land_127 (by decide) ?_
                  refine ww_aload_n dX11_land_128 rfl rfl ?_
                  refine ww_get 4 dX11_land_129 ((mlS_M hM s.1 s.2.1 nc no nr).K0) rfl (by decide) inX11 wg_1244 (mrS_4 _ _ _ _ _ _ _) ?_
                  refine ww_cV0 (M := m_X11_land) (pc := 132) (h1 := mrS (mlS h m s.1 s.2.1 nc no nr) m n (sk T n (sk T n a)) (nI (sk T n (sk T n a))) (nI 3) 0) (st := []) (d := 6) (bc := 0) (bs := 0) (c_MR_wrong_t hst (mlS_M hM s.1 s.2.1 nc no nr) (mlS_t (np := s.1) (du := s.2.1) (nc := nc) (no := no) (nr := nr) htf) hB hn (sk T n (sk T n a)) bk 0 (nI 3) (nI (sk T n (sk T n a)))) vv_X11_wrong dX11_land_132 wg_1448 ((mlS_M hM s.1 s.2.1 nc no nr).K0) rfl rfl rfl rfl (Nat.le_of_ble_eq_true rfl) (Nat.le_of_ble_eq_true rfl) (Nat.le_of_ble_eq_true rfl) (Nat.le_of_ble_eq_true rfl) ?_
                  refine ww_aload_n dX11_land_135 rfl rfl ?_
                  refine ww_cVr (M := m_X11_land) (pc := 136) (v := .int (nI 0)) (h1 := mrS (mlS h m s.1 s.2.1 nc no nr) m n (sk T n (sk T n a)) (nI (sk T n (sk T n a))) (nI 3) 0) (st := []) (d := 6) (bc := 0) (bs := 0) (c_MR_fine_f hst (mlS_M hM s.1 s.2.1 nc no nr) (mlS_t (np := s.1) (du := s.2.1) (nc := nc) (no := no) (nr := nr) htf) hB hn (sk T n (sk T n a)) (nI 3) 0 (sk T n (sk T n a)) (by omega)) vv_X11_fine dX11_land_136 wg_1421 ((mlS_M hM s.1 s.2.1 nc no nr).K0) rfl rfl rfl rfl (Nat.le_of_ble_eq_true rfl) (Nat.le_of_ble_eq_true rfl) (Nat.le_of_ble_eq_true rfl) (Nat.le_of_ble_eq_true rfl) ?_
                  refine ww_if_neN (tgt := 145) dX11_land_139 (by decide) (by omega) (fun c139 => ?_) (fun c139 => ?_)
                  · exact absurd c139 (by decide)
                  · refine ww_goto (tgt := 166) dX11_land_142 (by decide) ?_
                    have hcl : clS T n t s (sk T n a) = .inl (3, (sk T n (sk T n a))) := (clS_x hr5010 (by omega))
                    rw [ldS_i (by assumption), hcl, bS_l] at hr
                    cases hr
                    refine ww_fg (lv2 := [.ref m, .int (nI n), UU, UU]) ⟨Or.inr rfl, Or.inr rfl, Or.inl rfl, Or.inl rfl, trivial⟩ ?_
                    exact hexit _ _ _ _ _ _ (by omega) (by omega) (by omega)
                · refine ww_iload_n dX11_land_108 rfl rfl ?_
                  refine ww_ldcS (i := 6) dX11_land_109 rfl ?_
                  refine ww_cSr (M := m_X11_land) (pc := 111) (v := .int (nI 542723566)) (h1 := mrS (mlS h m s.1 s.2.1 nc no nr) m n (sk T n (sk T n a)) (-1) bk 0) (st := [.int (nI 542723566)]) (d := 6) (bc := 0) (bs := 0) (c_of_6 hst (mrS (mlS h m s.1 s.2.1 nc no nr) m n (sk T n (sk T n a)) (-1) bk 0)) vv_X11_of dX11_land_111 wg_1441 rfl rfl rfl (Nat.le_of_ble_eq_true rfl) (Nat.le_of_ble_eq_true rfl) (Nat.le_of_ble_eq_true rfl) (Nat.le_of_ble_eq_true rfl) ?_
                  refine ww_icmp_neN (tgt := 135) dX11_land_114 (by decide) (by omega) (by omega) (fun c114 => ?_) (fun c114 => ?_)
                  · exact absurd c114 (by decide)
                  · refine ww_aload_n dX11_land_117 rfl rfl ?_
                    refine ww_get 13 dX11_land_118 ((mlS_M hM s.1 s.2.1 nc no nr).K0) rfl (by decide) inX11 wg_1253 (mrS_j _ _ _ _ _ (by decide) (mlS_13 _ _ _ _ _ _ _)) ?_
                    refine ww_bipush (v := nI 6) dX11_land_121 (by decide) ?_
                    refine ww_icmp_neN (tgt := 135) dX11_land_123 (by decide) (by omega) (by omega) (fun c123 => ?_) (fun c123 => ?_)
                    · refine ww_aload_n dX11_land_135 rfl rfl ?_
                      refine ww_cVr (M := m_X11_land) (pc := 136) (v := .int (nI 1)) (h1 := mrS (mlS h m s.1 s.2.1 nc no nr) m n (sk T n (sk T n a)) (-1) bk 0) (st := []) (d := 6) (bc := 0) (bs := 0) (c_MR_fine_t hst (mlS_M hM s.1 s.2.1 nc no nr) (mlS_t (np := s.1) (du := s.2.1) (nc := nc) (no := no) (nr := nr) htf) hB hn (sk T n (sk T n a)) bk 0) vv_X11_fine dX11_land_136 wg_1421 ((mlS_M hM s.1 s.2.1 nc no nr).K0) rfl rfl rfl rfl (Nat.le_of_ble_eq_true rfl) (Nat.le_of_ble_eq_true rfl) (Nat.le_of_ble_eq_true rfl) (Nat.le_of_ble_eq_true rfl) ?_
                      refine ww_if_neN (tgt := 145) dX11_land_139 (by decide) (by omega) (fun c139 => ?_) (fun c139 => ?_)
                      · refine ww_aload_n dX11_land_145 rfl rfl ?_
                        refine ww_cV0 (M := m_X11_land) (pc := 146) (h1 := mrS (mlS h m s.1 s.2.1 nc no nr) m n a5010 (-1) bk 0) (st := []) (d := 6) (bc := 0) (bs := 0) (c_MR_pass_e hst (mlS_M hM s.1 s.2.1 nc no nr) (mlS_t (np := s.1) (du := s.2.1) (nc := nc) (no := no) (nr := nr) htf) hB hn (-1) bk 0 (sk T n (sk T n a)) (by omega) hz5010) vv_X11_pass dX11_land_146 wg_1452 ((mlS_M hM s.1 s.2.1 nc no nr).K0) rfl rfl rfl rfl (Nat.le_of_ble_eq_true rfl) (Nat.le_of_ble_eq_true rfl) (Nat.le_of_ble_eq_true rfl) (Nat.le_of_ble_eq_true rfl) ?_
                        refine ww_aload_n dX11_land_149 rfl rfl ?_
                        refine ww_iload_n dX11_land_150 rfl rfl ?_
                        refine ww_cVq0 (M := m_X11_land) (pc := 151) (st := []) (d := 6) (bc := 0) (bs := 0) (c_ML_row0 hst hM htf hB hn bk 0 a5010 (by omega) hs.1 hm0 (by omega)) vv_X11_readRow dX11_land_151 wg_1456 ((mlS_M hM s.1 s.2.1 nc no nr).K0) rfl rfl rfl rfl (Nat.le_of_ble_eq_true rfl) (Nat.le_of_ble_eq_true rfl) (Nat.le_of_ble_eq_true rfl) (Nat.le_of_ble_eq_true rfl) (fun ho5011 qo5011 => ?_)
                        rcases hr5011 : rwS T n 0 s a5010 with ⟨k5011, q5011⟩ | ⟨a5011, s5011⟩
                        · rw [hr5011] at qo5011
                          obtain ⟨x5011, np5011, du5011, nc5011, no5011, nr5011, hx5011, hnp5011, hdu5011, rfl⟩ := qo5011
                          have hf5011 := rwS_k hr5011
                          have hq5011 := rwS_q (by omega) hr5011
                          refine ww_aload_n dX11_land_154 rfl rfl ?_
                          refine ww_bipush (v := nI 59) dX11_land_155 (by decide) ?_
                          refine ww_cV0 (M := m_X11_land) (pc := 157) (h1 := mrS (mlS h m np5011 du5011 nc5011 no5011 nr5011) m n x5011 (nI q5011) (nI k5011) 0) (st := []) (d := 6) (bc := 0) (bs := 0) (c_MR_sign_f hst (mlS_M hM np5011 du5011 nc5011 no5011 nr5011) (mlS_t (np := np5011) (du := du5011) (nc := nc5011) (no := no5011) (nr := nr5011) htf) hB hn x5011 (nI k5011) 0 q5011 (by omega) 59) vv_X11_sign dX11_land_157 wg_1467 ((mlS_M hM np5011 du5011 nc5011 no5011 nr5011).K0) rfl rfl rfl rfl (Nat.le_of_ble_eq_true rfl) (Nat.le_of_ble_eq_true rfl) (Nat.le_of_ble_eq_true rfl) (Nat.le_of_ble_eq_true rfl) ?_
                          refine ww_incN (c := 1) (lv2 := [.ref m, .int (nI n), .int (nI (t + 1)), .int (nI 542723566)]) dX11_land_160 rfl rfl rfl (by decide) rfl ?_
                          refine ww_goto (tgt := 44) dX11_land_163 (by decide) ?_
                          refine ww_aload_n dX11_land_44 rfl rfl ?_
                          refine ww_cVr (M := m_X11_land) (pc := 45) (v := .int (nI 0)) (h1 := mrS (mlS h m np5011 du5011 nc5011 no5011 nr5011) m n x5011 (nI q5011) (nI k5011) 0) (st := []) (d := 6) (bc := 0) (bs := 0) (c_MR_fine_f hst (mlS_M hM np5011 du5011 nc5011 no5011 nr5011) (mlS_t (np := np5011) (du := du5011) (nc := nc5011) (no := no5011) (nr := nr5011) htf) hB hn x5011 (nI k5011) 0 q5011 (by omega)) vv_X11_fine dX11_land_45 wg_1421 ((mlS_M hM np5011 du5011 nc5011 no5011 nr5011).K0) rfl rfl rfl rfl (Nat.le_of_ble_eq_true rfl) (Nat.le_of_ble_eq_true rfl) (Nat.le_of_ble_eq_true rfl) (Nat.le_of_ble_eq_true rfl) ?_
                          refine ww_if_eqN (tgt := 166) dX11_land_48 (by decide) (by omega) (fun c48 => ?_) (fun c48 => ?_)
                          · have hcl : clS T n t s (sk T n a) = .inl (k5011, q5011) := (clS_rl hr5010 (by omega) (by omega) hr5011)
                            rw [ldS_i (by assumption), hcl, bS_l] at hr
                            cases hr
                            refine ww_fg (lv2 := [.ref m, .int (nI n), UU, UU]) ⟨Or.inr rfl, Or.inr rfl, Or.inl rfl, Or.inl rfl, trivial⟩ ?_
                            exact hexit _ _ _ _ _ _ (by omega) (by omega) (by omega)
                          · exact absurd c48 (by decide)
                        · rw [hr5011] at qo5011
                          obtain ⟨nc5011, no5011, nr5011, hm5011, rfl⟩ := qo5011
                          have hf5011 := rwS_r (by omega) hs.1 (by omega) hr5011
                          refine ww_aload_n dX11_land_154 rfl rfl ?_
                          refine ww_bipush (v := nI 59) dX11_land_155 (by decide) ?_
                          rcases hr5012 : sgnS T n 59 a5011 with ⟨k5012, q5012⟩ | ⟨a5012, u5012⟩
                          · have hf5012 := (sgnS_l hr5012).1
                            have hq5012 := sgnS_lq (by omega) hr5012
                            have hsl5012 := sk_le (T := T) (show a5011 ≤ n by omega)
                            refine ww_cV0 (M := m_X11_land) (pc := 157) (h1 := mrS (mlS h m s5011.1 s5011.2.1 nc5011 no5011 nr5011) m n (sk T n a5011) (nI q5012) (nI k5012) 0) (st := []) (d := 6) (bc := 0) (bs := 0) (c_MR_sign_l hst (mlS_M hM s5011.1 s5011.2.1 nc5011 no5011 nr5011) (mlS_t (np := s5011.1) (du := s5011.2.1) (nc := nc5011) (no := no5011) (nr := nr5011) htf) hB hn a5011 bk 0 (by omega) 59 (by omega) (by omega) hr5012) vv_X11_sign dX11_land_157 wg_1467 ((mlS_M hM s5011.1 s5011.2.1 nc5011 no5011 nr5011).K0) rfl rfl rfl rfl (Nat.le_of_ble_eq_true rfl) (Nat.le_of_ble_eq_true rfl) (Nat.le_of_ble_eq_true rfl) (Nat.le_of_ble_eq_true rfl) ?_
                            refine ww_incN (c := 1) (lv2 := [.ref m, .int (nI n), .int (nI (t + 1)), .int (nI 542723566)]) dX11_land_160 rfl rfl rfl (by decide) rfl ?_
                            refine ww_goto (tgt := 44) dX11_land_163 (by decide) ?_
                            refine ww_aload_n dX11_land_44 rfl rfl ?_
                            refine ww_cVr (M := m_X11_land) (pc := 45) (v := .int (nI 0)) (h1 := mrS (mlS h m s5011.1 s5011.2.1 nc5011 no5011 nr5011) m n (sk T n a5011) (nI q5012) (nI k5012) 0) (st := []) (d := 6) (bc := 0) (bs := 0) (c_MR_fine_f hst (mlS_M hM s5011.1 s5011.2.1 nc5011 no5011 nr5011) (mlS_t (np := s5011.1) (du := s5011.2.1) (nc := nc5011) (no := no5011) (nr := nr5011) htf) hB hn (sk T n a5011) (nI k5012) 0 q5012 (by omega)) vv_X11_fine dX11_land_45 wg_1421 ((mlS_M hM s5011.1 s5011.2.1 nc5011 no5011 nr5011).K0) rfl rfl rfl rfl (Nat.le_of_ble_eq_true rfl) (Nat.le_of_ble_eq_true rfl) (Nat.le_of_ble_eq_true rfl) (Nat.le_of_ble_eq_true rfl) ?_
                            refine ww_if_eqN (tgt := 166) dX11_land_48 (by decide) (by omega) (fun c48 => ?_) (fun c48 => ?_)
                            · have hcl : clS T n t s (sk T n a) = .inl (k5012, q5012) := (by rw [clS_rr hr5010 (by omega) (by omega) hr5011, hr5012, bS_l])
                              rw [ldS_i (by assumption), hcl, bS_l] at hr
                              cases hr
                              refine ww_fg (lv2 := [.ref m, .int (nI n), UU, UU]) ⟨Or.inr rfl, Or.inr rfl, Or.inl rfl, Or.inl rfl, trivial⟩ ?_
                              exact hexit _ _ _ _ _ _ (by omega) (by omega) (by omega)
                            · exact absurd c48 (by decide)
                          · have hf5012 := sgnS_r hr5012
                            have hg5012 := sk_ge (T := T) (show a5011 ≤ n by omega)
                            refine ww_cV0 (M := m_X11_land) (pc := 157) (h1 := mrS (mlS h m s5011.1 s5011.2.1 nc5011 no5011 nr5011) m n a5012 (-1) bk 0) (st := []) (d := 6) (bc := 0) (bs := 0) (c_MR_sign_r hst (mlS_M hM s5011.1 s5011.2.1 nc5011 no5011 nr5011) (mlS_t (np := s5011.1) (du := s5011.2.1) (nc := nc5011) (no := no5011) (nr := nr5011) htf) hB hn a5011 bk 0 (by omega) 59 (by omega) (by omega) hr5012) vv_X11_sign dX11_land_157 wg_1467 ((mlS_M hM s5011.1 s5011.2.1 nc5011 no5011 nr5011).K0) rfl rfl rfl rfl (Nat.le_of_ble_eq_true rfl) (Nat.le_of_ble_eq_true rfl) (Nat.le_of_ble_eq_true rfl) (Nat.le_of_ble_eq_true rfl) ?_
                            refine ww_incN (c := 1) (lv2 := [.ref m, .int (nI n), .int (nI (t + 1)), .int (nI 542723566)]) dX11_land_160 rfl rfl rfl (by decide) rfl ?_
                            refine ww_goto (tgt := 44) dX11_land_163 (by decide) ?_
                            refine ww_fg (lv2 := [.ref m, .int (nI n), .int (nI (t + 1)), UU]) ⟨Or.inr rfl, Or.inr rfl, Or.inr rfl, Or.inl rfl, trivial⟩ ?_
                            have hcl : clS T n t s (sk T n a) = .inr (a5012, s5011) := by rw [clS_rr hr5010 (by omega) (by omega) hr5011, hr5012, bS_r]
                            have hG := clS_G hs (by omega) hcl
                            rw [ldS_i (by assumption), hcl, bS_r] at hr
                            exact ih (t + 1) s5011 a5012 _ _ _ (by omega) hG.1 (by omega) (by omega) hm5011 hr hexit
                      · exact absurd c139 (by decide)
                    · refine ww_aload_n dX11_land_126 rfl rfl ?_
                      refine ww_iconst (v := nI 3) dX11_land_127 (by decide) ?_
                      refine ww_aload_n dX11_land_128 rfl rfl ?_
                      refine ww_get 4 dX11_land_129 ((mlS_M hM s.1 s.2.1 nc no nr).K0) rfl (by decide) inX11 wg_1244 (mrS_4 _ _ _ _ _ _ _) ?_
                      refine ww_cV0 (M := m_X11_land) (pc := 132) (h1 := mrS (mlS h m s.1 s.2.1 nc no nr) m n (sk T n (sk T n a)) (nI (sk T n (sk T n a))) (nI 3) 0) (st := []) (d := 6) (bc := 0) (bs := 0) (c_MR_wrong_t hst (mlS_M hM s.1 s.2.1 nc no nr) (mlS_t (np := s.1) (du := s.2.1) (nc := nc) (no := no) (nr := nr) htf) hB hn (sk T n (sk T n a)) bk 0 (nI 3) (nI (sk T n (sk T n a)))) vv_X11_wrong dX11_land_132 wg_1448 ((mlS_M hM s.1 s.2.1 nc no nr).K0) rfl rfl rfl rfl (Nat.le_of_ble_eq_true rfl) (Nat.le_of_ble_eq_true rfl) (Nat.le_of_ble_eq_true rfl) (Nat.le_of_ble_eq_true rfl) ?_
                      refine ww_aload_n dX11_land_135 rfl rfl ?_
                      refine ww_cVr (M := m_X11_land) (pc := 136) (v := .int (nI 0)) (h1 := mrS (mlS h m s.1 s.2.1 nc no nr) m n (sk T n (sk T n a)) (nI (sk T n (sk T n a))) (nI 3) 0) (st := []) (d := 6) (bc := 0) (bs := 0) (c_MR_fine_f hst (mlS_M hM s.1 s.2.1 nc no nr) (mlS_t (np := s.1) (du := s.2.1) (nc := nc) (no := no) (nr := nr) htf) hB hn (sk T n (sk T n a)) (nI 3) 0 (sk T n (sk T n a)) (by omega)) vv_X11_fine dX11_land_136 wg_1421 ((mlS_M hM s.1 s.2.1 nc no nr).K0) rfl rfl rfl rfl (Nat.le_of_ble_eq_true rfl) (Nat.le_of_ble_eq_true rfl) (Nat.le_of_ble_eq_true rfl) (Nat.le_of_ble_eq_true rfl) ?_
                      refine ww_if_neN (tgt := 145) dX11_land_139 (by decide) (by omega) (fun c139 => ?_) (fun c139 => ?_)
                      · exact absurd c139 (by decide)
                      · refine ww_goto (tgt := 166) dX11_land_142 (by decide) ?_
                        have hcl : clS T n t s (sk T n a) = .inl (3, (sk T n (sk T n a))) := (clS_x hr5010 (by omega))
                        rw [ldS_i (by assumption), hcl, bS_l] at hr
                        cases hr
                        refine ww_fg (lv2 := [.ref m, .int (nI n), UU, UU]) ⟨Or.inr rfl, Or.inr rfl, Or.inl rfl, Or.inl rfl, trivial⟩ ?_
                        exact hexit _ _ _ _ _ _ (by omega) (by omega) (by omega)
              · exact absurd c69 (by decide)
            · have hw5010 : wdA T n (sk T n a) = 16110 := by
                obtain ⟨i, hi, hw⟩ := wM_r (by omega) wLand_x (by decide) hr5010
                have e := Option.some.inj (show some 7 = some i from hi)
                rw [← e] at hw
                exact hw.trans (by decide +kernel)
              refine ww_cVr (M := m_X11_land) (pc := 59) (v := .int (nI 16110)) (h1 := mrS (mlS h m s.1 s.2.1 nc no nr) m n (sk T n (sk T n a)) (-1) bk 0) (st := []) (d := 6) (bc := 0) (bs := 0) (c_MR_word_e hst (mlS_M hM s.1 s.2.1 nc no nr) (mlS_t (np := s.1) (du := s.2.1) (nc := nc) (no := no) (nr := nr) htf) hB hn (-1) bk 0 (sk T n a) (by omega) hw5010) vv_X11_word dX11_land_59 wg_1433 ((mlS_M hM s.1 s.2.1 nc no nr).K0) rfl rfl rfl rfl (Nat.le_of_ble_eq_true rfl) (Nat.le_of_ble_eq_true rfl) (Nat.le_of_ble_eq_true rfl) (Nat.le_of_ble_eq_true rfl) ?_
              refine ww_sti_n (lv2 := [.ref m, .int (nI n), .int (nI t), .int (nI 16110)]) dX11_land_62 rfl rfl (by decide) rfl ?_
              refine ww_iload_n dX11_land_63 rfl rfl ?_
              refine ww_ldcS (i := 6) dX11_land_64 rfl ?_
              refine ww_cSr (M := m_X11_land) (pc := 66) (v := .int (nI 542723566)) (h1 := mrS (mlS h m s.1 s.2.1 nc no nr) m n (sk T n (sk T n a)) (-1) bk 0) (st := [.int (nI 16110)]) (d := 6) (bc := 0) (bs := 0) (c_of_6 hst (mrS (mlS h m s.1 s.2.1 nc no nr) m n (sk T n (sk T n a)) (-1) bk 0)) vv_X11_of dX11_land_66 wg_1441 rfl rfl rfl (Nat.le_of_ble_eq_true rfl) (Nat.le_of_ble_eq_true rfl) (Nat.le_of_ble_eq_true rfl) (Nat.le_of_ble_eq_true rfl) ?_
              refine ww_icmp_eqN (tgt := 102) dX11_land_69 (by decide) (by omega) (by omega) (fun c69 => ?_) (fun c69 => ?_)
              · exact absurd c69 (by decide)
              · refine ww_iload_n dX11_land_72 rfl rfl ?_
                refine ww_ldcS (i := 7) dX11_land_73 rfl ?_
                refine ww_cSr (M := m_X11_land) (pc := 75) (v := .int (nI 16110)) (h1 := mrS (mlS h m s.1 s.2.1 nc no nr) m n (sk T n (sk T n a)) (-1) bk 0) (st := [.int (nI 16110)]) (d := 6) (bc := 0) (bs := 0) (c_of_7 hst (mrS (mlS h m s.1 s.2.1 nc no nr) m n (sk T n (sk T n a)) (-1) bk 0)) vv_X11_of dX11_land_75 wg_1441 rfl rfl rfl (Nat.le_of_ble_eq_true rfl) (Nat.le_of_ble_eq_true rfl) (Nat.le_of_ble_eq_true rfl) (Nat.le_of_ble_eq_true rfl) ?_
                refine ww_icmp_eqN (tgt := 102) dX11_land_78 (by decide) (by omega) (by omega) (fun c78 => ?_) (fun c78 => ?_)
                · refine ww_iload_n dX11_land_102 rfl rfl ?_
                  refine ww_bipush (v := nI 60) dX11_land_103 (by decide) ?_
                  refine ww_icmp_eqN (tgt := 126) dX11_land_105 (by decide) (by omega) (by omega) (fun c105 => ?_) (fun c105 => ?_)
                  · refine ww_aload_n dX11_land_126 rfl rfl ?_
                    refine ww_iconst (v := nI 3) dX11_land_127 (by decide) ?_
                    refine ww_aload_n dX11_land_128 rfl rfl ?_
                    refine ww_get 4 dX11_land_129 ((mlS_M hM s.1 s.2.1 nc no nr).K0) rfl (by decide) inX11 wg_1244 (mrS_4 _ _ _ _ _ _ _) ?_
                    refine ww_cV0 (M := m_X11_land) (pc := 132) (h1 := mrS (mlS h m s.1 s.2.1 nc no nr) m n (sk T n (sk T n a)) (nI (sk T n (sk T n a))) (nI 3) 0) (st := []) (d := 6) (bc := 0) (bs := 0) (c_MR_wrong_t hst (mlS_M hM s.1 s.2.1 nc no nr) (mlS_t (np := s.1) (du := s.2.1) (nc := nc) (no := no) (nr := nr) htf) hB hn (sk T n (sk T n a)) bk 0 (nI 3) (nI (sk T n (sk T n a)))) vv_X11_wrong dX11_land_132 wg_1448 ((mlS_M hM s.1 s.2.1 nc no nr).K0) rfl rfl rfl rfl (Nat.le_of_ble_eq_true rfl) (Nat.le_of_ble_eq_true rfl) (Nat.le_of_ble_eq_true rfl) (Nat.le_of_ble_eq_true rfl) ?_
                    refine ww_aload_n dX11_land_135 rfl rfl ?_
                    refine ww_cVr (M := m_X11_land) (pc := 136) (v := .int (nI 0)) (h1 := mrS (mlS h m s.1 s.2.1 nc no nr) m n (sk T n (sk T n a)) (nI (sk T n (sk T n a))) (nI 3) 0) (st := []) (d := 6) (bc := 0) (bs := 0) (c_MR_fine_f hst (mlS_M hM s.1 s.2.1 nc no nr) (mlS_t (np := s.1) (du := s.2.1) (nc := nc) (no := no) (nr := nr) htf) hB hn (sk T n (sk T n a)) (nI 3) 0 (sk T n (sk T n a)) (by omega)) vv_X11_fine dX11_land_136 wg_1421 ((mlS_M hM s.1 s.2.1 nc no nr).K0) rfl rfl rfl rfl (Nat.le_of_ble_eq_true rfl) (Nat.le_of_ble_eq_true rfl) (Nat.le_of_ble_eq_true rfl) (Nat.le_of_ble_eq_true rfl) ?_
                    refine ww_if_neN (tgt := 145) dX11_land_139 (by decide) (by omega) (fun c139 => ?_) (fun c139 => ?_)
                    · exact absurd c139 (by decide)
                    · refine ww_goto (tgt := 166) dX11_land_142 (by decide) ?_
                      have hcl : clS T n t s (sk T n a) = .inl (3, (sk T n (sk T n a))) := (clS_x hr5010 (by omega))
                      rw [ldS_i (by assumption), hcl, bS_l] at hr
                      cases hr
                      refine ww_fg (lv2 := [.ref m, .int (nI n), UU, UU]) ⟨Or.inr rfl, Or.inr rfl, Or.inl rfl, Or.inl rfl, trivial⟩ ?_
                      exact hexit _ _ _ _ _ _ (by omega) (by omega) (by omega)
                  · refine ww_iload_n dX11_land_108 rfl rfl ?_
                    refine ww_ldcS (i := 6) dX11_land_109 rfl ?_
                    refine ww_cSr (M := m_X11_land) (pc := 111) (v := .int (nI 542723566)) (h1 := mrS (mlS h m s.1 s.2.1 nc no nr) m n (sk T n (sk T n a)) (-1) bk 0) (st := [.int (nI 16110)]) (d := 6) (bc := 0) (bs := 0) (c_of_6 hst (mrS (mlS h m s.1 s.2.1 nc no nr) m n (sk T n (sk T n a)) (-1) bk 0)) vv_X11_of dX11_land_111 wg_1441 rfl rfl rfl (Nat.le_of_ble_eq_true rfl) (Nat.le_of_ble_eq_true rfl) (Nat.le_of_ble_eq_true rfl) (Nat.le_of_ble_eq_true rfl) ?_
                    refine ww_icmp_neN (tgt := 135) dX11_land_114 (by decide) (by omega) (by omega) (fun c114 => ?_) (fun c114 => ?_)
                    · refine ww_aload_n dX11_land_135 rfl rfl ?_
                      refine ww_cVr (M := m_X11_land) (pc := 136) (v := .int (nI 1)) (h1 := mrS (mlS h m s.1 s.2.1 nc no nr) m n (sk T n (sk T n a)) (-1) bk 0) (st := []) (d := 6) (bc := 0) (bs := 0) (c_MR_fine_t hst (mlS_M hM s.1 s.2.1 nc no nr) (mlS_t (np := s.1) (du := s.2.1) (nc := nc) (no := no) (nr := nr) htf) hB hn (sk T n (sk T n a)) bk 0) vv_X11_fine dX11_land_136 wg_1421 ((mlS_M hM s.1 s.2.1 nc no nr).K0) rfl rfl rfl rfl (Nat.le_of_ble_eq_true rfl) (Nat.le_of_ble_eq_true rfl) (Nat.le_of_ble_eq_true rfl) (Nat.le_of_ble_eq_true rfl) ?_
                      refine ww_if_neN (tgt := 145) dX11_land_139 (by decide) (by omega) (fun c139 => ?_) (fun c139 => ?_)
                      · refine ww_aload_n dX11_land_145 rfl rfl ?_
                        refine ww_cV0 (M := m_X11_land) (pc := 146) (h1 := mrS (mlS h m s.1 s.2.1 nc no nr) m n a5010 (-1) bk 0) (st := []) (d := 6) (bc := 0) (bs := 0) (c_MR_pass_e hst (mlS_M hM s.1 s.2.1 nc no nr) (mlS_t (np := s.1) (du := s.2.1) (nc := nc) (no := no) (nr := nr) htf) hB hn (-1) bk 0 (sk T n (sk T n a)) (by omega) hz5010) vv_X11_pass dX11_land_146 wg_1452 ((mlS_M hM s.1 s.2.1 nc no nr).K0) rfl rfl rfl rfl (Nat.le_of_ble_eq_true rfl) (Nat.le_of_ble_eq_true rfl) (Nat.le_of_ble_eq_true rfl) (Nat.le_of_ble_eq_true rfl) ?_
                        refine ww_aload_n dX11_land_149 rfl rfl ?_
                        refine ww_iload_n dX11_land_150 rfl rfl ?_
                        refine ww_cVq0 (M := m_X11_land) (pc := 151) (st := []) (d := 6) (bc := 0) (bs := 0) (c_ML_row1 hst hM htf hB hn bk 0 a5010 (by omega) hs.1 hm0) vv_X11_readRow dX11_land_151 wg_1456 ((mlS_M hM s.1 s.2.1 nc no nr).K0) rfl rfl rfl rfl (Nat.le_of_ble_eq_true rfl) (Nat.le_of_ble_eq_true rfl) (Nat.le_of_ble_eq_true rfl) (Nat.le_of_ble_eq_true rfl) (fun ho5013 qo5013 => ?_)
                        rcases hr5013 : rwS T n 1 s a5010 with ⟨k5013, q5013⟩ | ⟨a5013, s5013⟩
                        · rw [hr5013] at qo5013
                          obtain ⟨x5013, np5013, du5013, nc5013, no5013, nr5013, hx5013, hnp5013, hdu5013, rfl⟩ := qo5013
                          have hf5013 := rwS_k hr5013
                          have hq5013 := rwS_q (by omega) hr5013
                          refine ww_aload_n dX11_land_154 rfl rfl ?_
                          refine ww_bipush (v := nI 59) dX11_land_155 (by decide) ?_
                          refine ww_cV0 (M := m_X11_land) (pc := 157) (h1 := mrS (mlS h m np5013 du5013 nc5013 no5013 nr5013) m n x5013 (nI q5013) (nI k5013) 0) (st := []) (d := 6) (bc := 0) (bs := 0) (c_MR_sign_f hst (mlS_M hM np5013 du5013 nc5013 no5013 nr5013) (mlS_t (np := np5013) (du := du5013) (nc := nc5013) (no := no5013) (nr := nr5013) htf) hB hn x5013 (nI k5013) 0 q5013 (by omega) 59) vv_X11_sign dX11_land_157 wg_1467 ((mlS_M hM np5013 du5013 nc5013 no5013 nr5013).K0) rfl rfl rfl rfl (Nat.le_of_ble_eq_true rfl) (Nat.le_of_ble_eq_true rfl) (Nat.le_of_ble_eq_true rfl) (Nat.le_of_ble_eq_true rfl) ?_
                          refine ww_incN (c := 1) (lv2 := [.ref m, .int (nI n), .int (nI (t + 1)), .int (nI 16110)]) dX11_land_160 rfl rfl rfl (by decide) rfl ?_
                          refine ww_goto (tgt := 44) dX11_land_163 (by decide) ?_
                          refine ww_aload_n dX11_land_44 rfl rfl ?_
                          refine ww_cVr (M := m_X11_land) (pc := 45) (v := .int (nI 0)) (h1 := mrS (mlS h m np5013 du5013 nc5013 no5013 nr5013) m n x5013 (nI q5013) (nI k5013) 0) (st := []) (d := 6) (bc := 0) (bs := 0) (c_MR_fine_f hst (mlS_M hM np5013 du5013 nc5013 no5013 nr5013) (mlS_t (np := np5013) (du := du5013) (nc := nc5013) (no := no5013) (nr := nr5013) htf) hB hn x5013 (nI k5013) 0 q5013 (by omega)) vv_X11_fine dX11_land_45 wg_1421 ((mlS_M hM np5013 du5013 nc5013 no5013 nr5013).K0) rfl rfl rfl rfl (Nat.le_of_ble_eq_true rfl) (Nat.le_of_ble_eq_true rfl) (Nat.le_of_ble_eq_true rfl) (Nat.le_of_ble_eq_true rfl) ?_
                          refine ww_if_eqN (tgt := 166) dX11_land_48 (by decide) (by omega) (fun c48 => ?_) (fun c48 => ?_)
                          · have hcl : clS T n t s (sk T n a) = .inl (k5013, q5013) := (clS_rl hr5010 (by omega) (by omega) hr5013)
                            rw [ldS_i (by assumption), hcl, bS_l] at hr
                            cases hr
                            refine ww_fg (lv2 := [.ref m, .int (nI n), UU, UU]) ⟨Or.inr rfl, Or.inr rfl, Or.inl rfl, Or.inl rfl, trivial⟩ ?_
                            exact hexit _ _ _ _ _ _ (by omega) (by omega) (by omega)
                          · exact absurd c48 (by decide)
                        · rw [hr5013] at qo5013
                          obtain ⟨nc5013, no5013, nr5013, hm5013, rfl⟩ := qo5013
                          have hf5013 := rwS_r (by omega) hs.1 (by omega) hr5013
                          refine ww_aload_n dX11_land_154 rfl rfl ?_
                          refine ww_bipush (v := nI 59) dX11_land_155 (by decide) ?_
                          rcases hr5014 : sgnS T n 59 a5013 with ⟨k5014, q5014⟩ | ⟨a5014, u5014⟩
                          · have hf5014 := (sgnS_l hr5014).1
                            have hq5014 := sgnS_lq (by omega) hr5014
                            have hsl5014 := sk_le (T := T) (show a5013 ≤ n by omega)
                            refine ww_cV0 (M := m_X11_land) (pc := 157) (h1 := mrS (mlS h m s5013.1 s5013.2.1 nc5013 no5013 nr5013) m n (sk T n a5013) (nI q5014) (nI k5014) 0) (st := []) (d := 6) (bc := 0) (bs := 0) (c_MR_sign_l hst (mlS_M hM s5013.1 s5013.2.1 nc5013 no5013 nr5013) (mlS_t (np := s5013.1) (du := s5013.2.1) (nc := nc5013) (no := no5013) (nr := nr5013) htf) hB hn a5013 bk 0 (by omega) 59 (by omega) (by omega) hr5014) vv_X11_sign dX11_land_157 wg_1467 ((mlS_M hM s5013.1 s5013.2.1 nc5013 no5013 nr5013).K0) rfl rfl rfl rfl (Nat.le_of_ble_eq_true rfl) (Nat.le_of_ble_eq_true rfl) (Nat.le_of_ble_eq_true rfl) (Nat.le_of_ble_eq_true rfl) ?_
                            refine ww_incN (c := 1) (lv2 := [.ref m, .int (nI n), .int (nI (t + 1)), .int (nI 16110)]) dX11_land_160 rfl rfl rfl (by decide) rfl ?_
                            refine ww_goto (tgt := 44) dX11_land_163 (by decide) ?_
                            refine ww_aload_n dX11_land_44 rfl rfl ?_
                            refine ww_cVr (M := m_X11_land) (pc := 45) (v := .int (nI 0)) (h1 := mrS (mlS h m s5013.1 s5013.2.1 nc5013 no5013 nr5013) m n (sk T n a5013) (nI q5014) (nI k5014) 0) (st := []) (d := 6) (bc := 0) (bs := 0) (c_MR_fine_f hst (mlS_M hM s5013.1 s5013.2.1 nc5013 no5013 nr5013) (mlS_t (np := s5013.1) (du := s5013.2.1) (nc := nc5013) (no := no5013) (nr := nr5013) htf) hB hn (sk T n a5013) (nI k5014) 0 q5014 (by omega)) vv_X11_fine dX11_land_45 wg_1421 ((mlS_M hM s5013.1 s5013.2.1 nc5013 no5013 nr5013).K0) rfl rfl rfl rfl (Nat.le_of_ble_eq_true rfl) (Nat.le_of_ble_eq_true rfl) (Nat.le_of_ble_eq_true rfl) (Nat.le_of_ble_eq_true rfl) ?_
                            refine ww_if_eqN (tgt := 166) dX11_land_48 (by decide) (by omega) (fun c48 => ?_) (fun c48 => ?_)
                            · have hcl : clS T n t s (sk T n a) = .inl (k5014, q5014) := (by rw [clS_rr hr5010 (by omega) (by omega) hr5013, hr5014, bS_l])
                              rw [ldS_i (by assumption), hcl, bS_l] at hr
                              cases hr
                              refine ww_fg (lv2 := [.ref m, .int (nI n), UU, UU]) ⟨Or.inr rfl, Or.inr rfl, Or.inl rfl, Or.inl rfl, trivial⟩ ?_
                              exact hexit _ _ _ _ _ _ (by omega) (by omega) (by omega)
                            · exact absurd c48 (by decide)
                          · have hf5014 := sgnS_r hr5014
                            have hg5014 := sk_ge (T := T) (show a5013 ≤ n by omega)
                            refine ww_cV0 (M := m_X11_land) (pc := 157) (h1 := mrS (mlS h m s5013.1 s5013.2.1 nc5013 no5013 nr5013) m n a5014 (-1) bk 0) (st := []) (d := 6) (bc := 0) (bs := 0) (c_MR_sign_r hst (mlS_M hM s5013.1 s5013.2.1 nc5013 no5013 nr5013) (mlS_t (np := s5013.1) (du := s5013.2.1) (nc := nc5013) (no := no5013) (nr := nr5013) htf) hB hn a5013 bk 0 (by omega) 59 (by omega) (by omega) hr5014) vv_X11_sign dX11_land_157 wg_1467 ((mlS_M hM s5013.1 s5013.2.1 nc5013 no5013 nr5013).K0) rfl rfl rfl rfl (Nat.le_of_ble_eq_true rfl) (Nat.le_of_ble_eq_true rfl) (Nat.le_of_ble_eq_true rfl) (Nat.le_of_ble_eq_true rfl) ?_
                            refine ww_incN (c := 1) (lv2 := [.ref m, .int (nI n), .int (nI (t + 1)), .int (nI 16110)]) dX11_land_160 rfl rfl rfl (by decide) rfl ?_
                            refine ww_goto (tgt := 44) dX11_land_163 (by decide) ?_
                            refine ww_fg (lv2 := [.ref m, .int (nI n), .int (nI (t + 1)), UU]) ⟨Or.inr rfl, Or.inr rfl, Or.inr rfl, Or.inl rfl, trivial⟩ ?_
                            have hcl : clS T n t s (sk T n a) = .inr (a5014, s5013) := by rw [clS_rr hr5010 (by omega) (by omega) hr5013, hr5014, bS_r]
                            have hG := clS_G hs (by omega) hcl
                            rw [ldS_i (by assumption), hcl, bS_r] at hr
                            exact ih (t + 1) s5013 a5014 _ _ _ (by omega) hG.1 (by omega) (by omega) hm5013 hr hexit
                      · exact absurd c139 (by decide)
                    · exact absurd c114 (by decide)
                · exact absurd c78 (by decide)
            · have hw5010 : wdA T n (sk T n a) = 153241 := by
                obtain ⟨i, hi, hw⟩ := wM_r (by omega) wLand_x (by decide) hr5010
                have e := Option.some.inj (show some 8 = some i from hi)
                rw [← e] at hw
                exact hw.trans (by decide +kernel)
              refine ww_cVr (M := m_X11_land) (pc := 59) (v := .int (nI 153241)) (h1 := mrS (mlS h m s.1 s.2.1 nc no nr) m n (sk T n (sk T n a)) (-1) bk 0) (st := []) (d := 6) (bc := 0) (bs := 0) (c_MR_word_e hst (mlS_M hM s.1 s.2.1 nc no nr) (mlS_t (np := s.1) (du := s.2.1) (nc := nc) (no := no) (nr := nr) htf) hB hn (-1) bk 0 (sk T n a) (by omega) hw5010) vv_X11_word dX11_land_59 wg_1433 ((mlS_M hM s.1 s.2.1 nc no nr).K0) rfl rfl rfl rfl (Nat.le_of_ble_eq_true rfl) (Nat.le_of_ble_eq_true rfl) (Nat.le_of_ble_eq_true rfl) (Nat.le_of_ble_eq_true rfl) ?_
              refine ww_sti_n (lv2 := [.ref m, .int (nI n), .int (nI t), .int (nI 153241)]) dX11_land_62 rfl rfl (by decide) rfl ?_
              refine ww_iload_n dX11_land_63 rfl rfl ?_
              refine ww_ldcS (i := 6) dX11_land_64 rfl ?_
              refine ww_cSr (M := m_X11_land) (pc := 66) (v := .int (nI 542723566)) (h1 := mrS (mlS h m s.1 s.2.1 nc no nr) m n (sk T n (sk T n a)) (-1) bk 0) (st := [.int (nI 153241)]) (d := 6) (bc := 0) (bs := 0) (c_of_6 hst (mrS (mlS h m s.1 s.2.1 nc no nr) m n (sk T n (sk T n a)) (-1) bk 0)) vv_X11_of dX11_land_66 wg_1441 rfl rfl rfl (Nat.le_of_ble_eq_true rfl) (Nat.le_of_ble_eq_true rfl) (Nat.le_of_ble_eq_true rfl) (Nat.le_of_ble_eq_true rfl) ?_
              refine ww_icmp_eqN (tgt := 102) dX11_land_69 (by decide) (by omega) (by omega) (fun c69 => ?_) (fun c69 => ?_)
              · exact absurd c69 (by decide)
              · refine ww_iload_n dX11_land_72 rfl rfl ?_
                refine ww_ldcS (i := 7) dX11_land_73 rfl ?_
                refine ww_cSr (M := m_X11_land) (pc := 75) (v := .int (nI 16110)) (h1 := mrS (mlS h m s.1 s.2.1 nc no nr) m n (sk T n (sk T n a)) (-1) bk 0) (st := [.int (nI 153241)]) (d := 6) (bc := 0) (bs := 0) (c_of_7 hst (mrS (mlS h m s.1 s.2.1 nc no nr) m n (sk T n (sk T n a)) (-1) bk 0)) vv_X11_of dX11_land_75 wg_1441 rfl rfl rfl (Nat.le_of_ble_eq_true rfl) (Nat.le_of_ble_eq_true rfl) (Nat.le_of_ble_eq_true rfl) (Nat.le_of_ble_eq_true rfl) ?_
                refine ww_icmp_eqN (tgt := 102) dX11_land_78 (by decide) (by omega) (by omega) (fun c78 => ?_) (fun c78 => ?_)
                · exact absurd c78 (by decide)
                · refine ww_iload_n dX11_land_81 rfl rfl ?_
                  refine ww_ldcS (i := 8) dX11_land_82 rfl ?_
                  refine ww_cSr (M := m_X11_land) (pc := 84) (v := .int (nI 153241)) (h1 := mrS (mlS h m s.1 s.2.1 nc no nr) m n (sk T n (sk T n a)) (-1) bk 0) (st := [.int (nI 153241)]) (d := 6) (bc := 0) (bs := 0) (c_of_8 hst (mrS (mlS h m s.1 s.2.1 nc no nr) m n (sk T n (sk T n a)) (-1) bk 0)) vv_X11_of dX11_land_84 wg_1441 rfl rfl rfl (Nat.le_of_ble_eq_true rfl) (Nat.le_of_ble_eq_true rfl) (Nat.le_of_ble_eq_true rfl) (Nat.le_of_ble_eq_true rfl) ?_
                  refine ww_icmp_eqN (tgt := 102) dX11_land_87 (by decide) (by omega) (by omega) (fun c87 => ?_) (fun c87 => ?_)
                  · refine ww_iload_n dX11_land_102 rfl rfl ?_
                    refine ww_bipush (v := nI 60) dX11_land_103 (by decide) ?_
                    refine ww_icmp_eqN (tgt := 126) dX11_land_105 (by decide) (by omega) (by omega) (fun c105 => ?_) (fun c105 => ?_)
                    · refine ww_aload_n dX11_land_126 rfl rfl ?_
                      refine ww_iconst (v := nI 3) dX11_land_127 (by decide) ?_
                      refine ww_aload_n dX11_land_128 rfl rfl ?_
                      refine ww_get 4 dX11_land_129 ((mlS_M hM s.1 s.2.1 nc no nr).K0) rfl (by decide) inX11 wg_1244 (mrS_4 _ _ _ _ _ _ _) ?_
                      refine ww_cV0 (M := m_X11_land) (pc := 132) (h1 := mrS (mlS h m s.1 s.2.1 nc no nr) m n (sk T n (sk T n a)) (nI (sk T n (sk T n a))) (nI 3) 0) (st := []) (d := 6) (bc := 0) (bs := 0) (c_MR_wrong_t hst (mlS_M hM s.1 s.2.1 nc no nr) (mlS_t (np := s.1) (du := s.2.1) (nc := nc) (no := no) (nr := nr) htf) hB hn (sk T n (sk T n a)) bk 0 (nI 3) (nI (sk T n (sk T n a)))) vv_X11_wrong dX11_land_132 wg_1448 ((mlS_M hM s.1 s.2.1 nc no nr).K0) rfl rfl rfl rfl (Nat.le_of_ble_eq_true rfl) (Nat.le_of_ble_eq_true rfl) (Nat.le_of_ble_eq_true rfl) (Nat.le_of_ble_eq_true rfl) ?_
                      refine ww_aload_n dX11_land_135 rfl rfl ?_
                      refine ww_cVr (M := m_X11_land) (pc := 136) (v := .int (nI 0)) (h1 := mrS (mlS h m s.1 s.2.1 nc no nr) m n (sk T n (sk T n a)) (nI (sk T n (sk T n a))) (nI 3) 0) (st := []) (d := 6) (bc := 0) (bs := 0) (c_MR_fine_f hst (mlS_M hM s.1 s.2.1 nc no nr) (mlS_t (np := s.1) (du := s.2.1) (nc := nc) (no := no) (nr := nr) htf) hB hn (sk T n (sk T n a)) (nI 3) 0 (sk T n (sk T n a)) (by omega)) vv_X11_fine dX11_land_136 wg_1421 ((mlS_M hM s.1 s.2.1 nc no nr).K0) rfl rfl rfl rfl (Nat.le_of_ble_eq_true rfl) (Nat.le_of_ble_eq_true rfl) (Nat.le_of_ble_eq_true rfl) (Nat.le_of_ble_eq_true rfl) ?_
                      refine ww_if_neN (tgt := 145) dX11_land_139 (by decide) (by omega) (fun c139 => ?_) (fun c139 => ?_)
                      · exact absurd c139 (by decide)
                      · refine ww_goto (tgt := 166) dX11_land_142 (by decide) ?_
                        have hcl : clS T n t s (sk T n a) = .inl (3, (sk T n (sk T n a))) := (clS_x hr5010 (by omega))
                        rw [ldS_i (by assumption), hcl, bS_l] at hr
                        cases hr
                        refine ww_fg (lv2 := [.ref m, .int (nI n), UU, UU]) ⟨Or.inr rfl, Or.inr rfl, Or.inl rfl, Or.inl rfl, trivial⟩ ?_
                        exact hexit _ _ _ _ _ _ (by omega) (by omega) (by omega)
                    · refine ww_iload_n dX11_land_108 rfl rfl ?_
                      refine ww_ldcS (i := 6) dX11_land_109 rfl ?_
                      refine ww_cSr (M := m_X11_land) (pc := 111) (v := .int (nI 542723566)) (h1 := mrS (mlS h m s.1 s.2.1 nc no nr) m n (sk T n (sk T n a)) (-1) bk 0) (st := [.int (nI 153241)]) (d := 6) (bc := 0) (bs := 0) (c_of_6 hst (mrS (mlS h m s.1 s.2.1 nc no nr) m n (sk T n (sk T n a)) (-1) bk 0)) vv_X11_of dX11_land_111 wg_1441 rfl rfl rfl (Nat.le_of_ble_eq_true rfl) (Nat.le_of_ble_eq_true rfl) (Nat.le_of_ble_eq_true rfl) (Nat.le_of_ble_eq_true rfl) ?_
                      refine ww_icmp_neN (tgt := 135) dX11_land_114 (by decide) (by omega) (by omega) (fun c114 => ?_) (fun c114 => ?_)
                      · refine ww_aload_n dX11_land_135 rfl rfl ?_
                        refine ww_cVr (M := m_X11_land) (pc := 136) (v := .int (nI 1)) (h1 := mrS (mlS h m s.1 s.2.1 nc no nr) m n (sk T n (sk T n a)) (-1) bk 0) (st := []) (d := 6) (bc := 0) (bs := 0) (c_MR_fine_t hst (mlS_M hM s.1 s.2.1 nc no nr) (mlS_t (np := s.1) (du := s.2.1) (nc := nc) (no := no) (nr := nr) htf) hB hn (sk T n (sk T n a)) bk 0) vv_X11_fine dX11_land_136 wg_1421 ((mlS_M hM s.1 s.2.1 nc no nr).K0) rfl rfl rfl rfl (Nat.le_of_ble_eq_true rfl) (Nat.le_of_ble_eq_true rfl) (Nat.le_of_ble_eq_true rfl) (Nat.le_of_ble_eq_true rfl) ?_
                        refine ww_if_neN (tgt := 145) dX11_land_139 (by decide) (by omega) (fun c139 => ?_) (fun c139 => ?_)
                        · refine ww_aload_n dX11_land_145 rfl rfl ?_
                          refine ww_cV0 (M := m_X11_land) (pc := 146) (h1 := mrS (mlS h m s.1 s.2.1 nc no nr) m n a5010 (-1) bk 0) (st := []) (d := 6) (bc := 0) (bs := 0) (c_MR_pass_e hst (mlS_M hM s.1 s.2.1 nc no nr) (mlS_t (np := s.1) (du := s.2.1) (nc := nc) (no := no) (nr := nr) htf) hB hn (-1) bk 0 (sk T n (sk T n a)) (by omega) hz5010) vv_X11_pass dX11_land_146 wg_1452 ((mlS_M hM s.1 s.2.1 nc no nr).K0) rfl rfl rfl rfl (Nat.le_of_ble_eq_true rfl) (Nat.le_of_ble_eq_true rfl) (Nat.le_of_ble_eq_true rfl) (Nat.le_of_ble_eq_true rfl) ?_
                          refine ww_aload_n dX11_land_149 rfl rfl ?_
                          refine ww_iload_n dX11_land_150 rfl rfl ?_
                          refine ww_cVq0 (M := m_X11_land) (pc := 151) (st := []) (d := 6) (bc := 0) (bs := 0) (c_ML_row2 hst hM htf hB hn bk 0 a5010 (by omega) hs.1 hm0) vv_X11_readRow dX11_land_151 wg_1456 ((mlS_M hM s.1 s.2.1 nc no nr).K0) rfl rfl rfl rfl (Nat.le_of_ble_eq_true rfl) (Nat.le_of_ble_eq_true rfl) (Nat.le_of_ble_eq_true rfl) (Nat.le_of_ble_eq_true rfl) (fun ho5015 qo5015 => ?_)
                          rcases hr5015 : rwS T n 2 s a5010 with ⟨k5015, q5015⟩ | ⟨a5015, s5015⟩
                          · rw [hr5015] at qo5015
                            obtain ⟨x5015, np5015, du5015, nc5015, no5015, nr5015, hx5015, hnp5015, hdu5015, rfl⟩ := qo5015
                            have hf5015 := rwS_k hr5015
                            have hq5015 := rwS_q (by omega) hr5015
                            refine ww_aload_n dX11_land_154 rfl rfl ?_
                            refine ww_bipush (v := nI 59) dX11_land_155 (by decide) ?_
                            refine ww_cV0 (M := m_X11_land) (pc := 157) (h1 := mrS (mlS h m np5015 du5015 nc5015 no5015 nr5015) m n x5015 (nI q5015) (nI k5015) 0) (st := []) (d := 6) (bc := 0) (bs := 0) (c_MR_sign_f hst (mlS_M hM np5015 du5015 nc5015 no5015 nr5015) (mlS_t (np := np5015) (du := du5015) (nc := nc5015) (no := no5015) (nr := nr5015) htf) hB hn x5015 (nI k5015) 0 q5015 (by omega) 59) vv_X11_sign dX11_land_157 wg_1467 ((mlS_M hM np5015 du5015 nc5015 no5015 nr5015).K0) rfl rfl rfl rfl (Nat.le_of_ble_eq_true rfl) (Nat.le_of_ble_eq_true rfl) (Nat.le_of_ble_eq_true rfl) (Nat.le_of_ble_eq_true rfl) ?_
                            refine ww_incN (c := 1) (lv2 := [.ref m, .int (nI n), .int (nI (t + 1)), .int (nI 153241)]) dX11_land_160 rfl rfl rfl (by decide) rfl ?_
                            refine ww_goto (tgt := 44) dX11_land_163 (by decide) ?_
                            refine ww_aload_n dX11_land_44 rfl rfl ?_
                            refine ww_cVr (M := m_X11_land) (pc := 45) (v := .int (nI 0)) (h1 := mrS (mlS h m np5015 du5015 nc5015 no5015 nr5015) m n x5015 (nI q5015) (nI k5015) 0) (st := []) (d := 6) (bc := 0) (bs := 0) (c_MR_fine_f hst (mlS_M hM np5015 du5015 nc5015 no5015 nr5015) (mlS_t (np := np5015) (du := du5015) (nc := nc5015) (no := no5015) (nr := nr5015) htf) hB hn x5015 (nI k5015) 0 q5015 (by omega)) vv_X11_fine dX11_land_45 wg_1421 ((mlS_M hM np5015 du5015 nc5015 no5015 nr5015).K0) rfl rfl rfl rfl (Nat.le_of_ble_eq_true rfl) (Nat.le_of_ble_eq_true rfl) (Nat.le_of_ble_eq_true rfl) (Nat.le_of_ble_eq_true rfl) ?_
                            refine ww_if_eqN (tgt := 166) dX11_land_48 (by decide) (by omega) (fun c48 => ?_) (fun c48 => ?_)
                            · have hcl : clS T n t s (sk T n a) = .inl (k5015, q5015) := (clS_rl hr5010 (by omega) (by omega) hr5015)
                              rw [ldS_i (by assumption), hcl, bS_l] at hr
                              cases hr
                              refine ww_fg (lv2 := [.ref m, .int (nI n), UU, UU]) ⟨Or.inr rfl, Or.inr rfl, Or.inl rfl, Or.inl rfl, trivial⟩ ?_
                              exact hexit _ _ _ _ _ _ (by omega) (by omega) (by omega)
                            · exact absurd c48 (by decide)
                          · rw [hr5015] at qo5015
                            obtain ⟨nc5015, no5015, nr5015, hm5015, rfl⟩ := qo5015
                            have hf5015 := rwS_r (by omega) hs.1 (by omega) hr5015
                            refine ww_aload_n dX11_land_154 rfl rfl ?_
                            refine ww_bipush (v := nI 59) dX11_land_155 (by decide) ?_
                            rcases hr5016 : sgnS T n 59 a5015 with ⟨k5016, q5016⟩ | ⟨a5016, u5016⟩
                            · have hf5016 := (sgnS_l hr5016).1
                              have hq5016 := sgnS_lq (by omega) hr5016
                              have hsl5016 := sk_le (T := T) (show a5015 ≤ n by omega)
                              refine ww_cV0 (M := m_X11_land) (pc := 157) (h1 := mrS (mlS h m s5015.1 s5015.2.1 nc5015 no5015 nr5015) m n (sk T n a5015) (nI q5016) (nI k5016) 0) (st := []) (d := 6) (bc := 0) (bs := 0) (c_MR_sign_l hst (mlS_M hM s5015.1 s5015.2.1 nc5015 no5015 nr5015) (mlS_t (np := s5015.1) (du := s5015.2.1) (nc := nc5015) (no := no5015) (nr := nr5015) htf) hB hn a5015 bk 0 (by omega) 59 (by omega) (by omega) hr5016) vv_X11_sign dX11_land_157 wg_1467 ((mlS_M hM s5015.1 s5015.2.1 nc5015 no5015 nr5015).K0) rfl rfl rfl rfl (Nat.le_of_ble_eq_true rfl) (Nat.le_of_ble_eq_true rfl) (Nat.le_of_ble_eq_true rfl) (Nat.le_of_ble_eq_true rfl) ?_
                              refine ww_incN (c := 1) (lv2 := [.ref m, .int (nI n), .int (nI (t + 1)), .int (nI 153241)]) dX11_land_160 rfl rfl rfl (by decide) rfl ?_
                              refine ww_goto (tgt := 44) dX11_land_163 (by decide) ?_
                              refine ww_aload_n dX11_land_44 rfl rfl ?_
                              refine ww_cVr (M := m_X11_land) (pc := 45) (v := .int (nI 0)) (h1 := mrS (mlS h m s5015.1 s5015.2.1 nc5015 no5015 nr5015) m n (sk T n a5015) (nI q5016) (nI k5016) 0) (st := []) (d := 6) (bc := 0) (bs := 0) (c_MR_fine_f hst (mlS_M hM s5015.1 s5015.2.1 nc5015 no5015 nr5015) (mlS_t (np := s5015.1) (du := s5015.2.1) (nc := nc5015) (no := no5015) (nr := nr5015) htf) hB hn (sk T n a5015) (nI k5016) 0 q5016 (by omega)) vv_X11_fine dX11_land_45 wg_1421 ((mlS_M hM s5015.1 s5015.2.1 nc5015 no5015 nr5015).K0) rfl rfl rfl rfl (Nat.le_of_ble_eq_true rfl) (Nat.le_of_ble_eq_true rfl) (Nat.le_of_ble_eq_true rfl) (Nat.le_of_ble_eq_true rfl) ?_
                              refine ww_if_eqN (tgt := 166) dX11_land_48 (by decide) (by omega) (fun c48 => ?_) (fun c48 => ?_)
                              · have hcl : clS T n t s (sk T n a) = .inl (k5016, q5016) := (by rw [clS_rr hr5010 (by omega) (by omega) hr5015, hr5016, bS_l])
                                rw [ldS_i (by assumption), hcl, bS_l] at hr
                                cases hr
                                refine ww_fg (lv2 := [.ref m, .int (nI n), UU, UU]) ⟨Or.inr rfl, Or.inr rfl, Or.inl rfl, Or.inl rfl, trivial⟩ ?_
                                exact hexit _ _ _ _ _ _ (by omega) (by omega) (by omega)
                              · exact absurd c48 (by decide)
                            · have hf5016 := sgnS_r hr5016
                              have hg5016 := sk_ge (T := T) (show a5015 ≤ n by omega)
                              refine ww_cV0 (M := m_X11_land) (pc := 157) (h1 := mrS (mlS h m s5015.1 s5015.2.1 nc5015 no5015 nr5015) m n a5016 (-1) bk 0) (st := []) (d := 6) (bc := 0) (bs := 0) (c_MR_sign_r hst (mlS_M hM s5015.1 s5015.2.1 nc5015 no5015 nr5015) (mlS_t (np := s5015.1) (du := s5015.2.1) (nc := nc5015) (no := no5015) (nr := nr5015) htf) hB hn a5015 bk 0 (by omega) 59 (by omega) (by omega) hr5016) vv_X11_sign dX11_land_157 wg_1467 ((mlS_M hM s5015.1 s5015.2.1 nc5015 no5015 nr5015).K0) rfl rfl rfl rfl (Nat.le_of_ble_eq_true rfl) (Nat.le_of_ble_eq_true rfl) (Nat.le_of_ble_eq_true rfl) (Nat.le_of_ble_eq_true rfl) ?_
                              refine ww_incN (c := 1) (lv2 := [.ref m, .int (nI n), .int (nI (t + 1)), .int (nI 153241)]) dX11_land_160 rfl rfl rfl (by decide) rfl ?_
                              refine ww_goto (tgt := 44) dX11_land_163 (by decide) ?_
                              refine ww_fg (lv2 := [.ref m, .int (nI n), .int (nI (t + 1)), UU]) ⟨Or.inr rfl, Or.inr rfl, Or.inr rfl, Or.inl rfl, trivial⟩ ?_
                              have hcl : clS T n t s (sk T n a) = .inr (a5016, s5015) := by rw [clS_rr hr5010 (by omega) (by omega) hr5015, hr5016, bS_r]
                              have hG := clS_G hs (by omega) hcl
                              rw [ldS_i (by assumption), hcl, bS_r] at hr
                              exact ih (t + 1) s5015 a5016 _ _ _ (by omega) hG.1 (by omega) (by omega) hm5015 hr hexit
                        · exact absurd c139 (by decide)
                      · exact absurd c114 (by decide)
                  · exact absurd c87 (by decide)
      · refine ww_cVr (M := m_X11_land) (pc := 52) (v := .int (nI 0)) (h1 := mrS (mlS h m s.1 s.2.1 nc no nr) m n n (-1) bk 0) (st := []) (d := 6) (bc := 0) (bs := 0) (c_MR_more_f hst (mlS_M hM s.1 s.2.1 nc no nr) (mlS_t (np := s.1) (du := s.2.1) (nc := nc) (no := no) (nr := nr) htf) hB hn (-1) bk 0 a (by omega) hl5009) vv_X11_isMore dX11_land_52 wg_1425 ((mlS_M hM s.1 s.2.1 nc no nr).K0) rfl rfl rfl rfl (Nat.le_of_ble_eq_true rfl) (Nat.le_of_ble_eq_true rfl) (Nat.le_of_ble_eq_true rfl) (Nat.le_of_ble_eq_true rfl) ?_
        refine ww_if_eqN (tgt := 166) dX11_land_55 (by decide) (by omega) (fun c55 => ?_) (fun c55 => ?_)
        · exfalso
          rw [ldS_e (by assumption)] at hr
          cases hr
        · exact absurd c55 (by decide)
