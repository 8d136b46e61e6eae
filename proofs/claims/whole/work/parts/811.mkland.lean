def LsZ (s : LSt) : Prop := ∀ q, s.1 ≤ q → q < 6 → s.2.2 (183 + q) = 0
theorem clS_Z {T : Nat → Nat} {n t : Nat} {s s2 : LSt} {a b : Nat} (hs : LsZ s) (ha : a ≤ n) (h : clS T n t s a = .inr (b, s2)) : LsZ s2 := by
  unfold clS at h
  rcases h1 : wrdS wLand T n a with ⟨k1, q1⟩ | ⟨a1, w⟩
  · rw [h1, bS_l] at h; cases h
  · rw [h1, bS_r] at h
    have e1 := wrdS_lt wLand_ne ha h1
    split at h
    · cases h
    · split at h
      · rcases h2 : figS T n 0 1000 a1 with ⟨k2, q2⟩ | ⟨a2, v2⟩
        · rw [h2, bS_l] at h; cases h
        · rw [h2, bS_r] at h
          rcases h3 : sgnS T n 59 a2 with ⟨k3, q3⟩ | ⟨a3, v3⟩
          · rw [h3, bS_l] at h; cases h
          · rw [h3, bS_r] at h
            cases h
            intro q g1 g2
            have g3 : s.1 + 1 ≤ q := g1
            show upd s.2.2 (183 + s.1) (nI v2) (183 + q) = 0
            rw [pk_un (by omega)]; exact hs q (by omega) g2
      · split at h
        · rcases h2 : figS T n 0 61 a1 with ⟨k2, q2⟩ | ⟨a2, v2⟩
          · rw [h2, bS_l] at h; cases h
          · rw [h2, bS_r] at h
            have e2 := figS_r (by omega) h2
            rcases h3 : figS T n 0 s.1 a2 with ⟨k3, q3⟩ | ⟨a3, v3⟩
            · rw [h3, bS_l] at h; cases h
            · rw [h3, bS_r] at h
              rcases h4 : figS T n 0 41 a3 with ⟨k4, q4⟩ | ⟨a4, v4⟩
              · rw [h4, bS_l] at h; cases h
              · rw [h4, bS_r] at h
                rcases h5 : sgnS T n 59 a4 with ⟨k5, q5⟩ | ⟨a5, v5⟩
                · rw [h5, bS_l] at h; cases h
                · rw [h5, bS_r] at h
                  cases h
                  intro q g1 g2
                  show upd (upd s.2.2 v2 (nI v3)) (61 + v2) (nI v4) (183 + q) = 0
                  rw [pk_un (by omega), pk_un (by omega)]; exact hs q g1 g2
        · rcases h2 : figS T n 0 21 a1 with ⟨k2, q2⟩ | ⟨a2, v2⟩
          · rw [h2, bS_l] at h; cases h
          · rw [h2, bS_r] at h
            rcases h3 : sgnS T n 59 a2 with ⟨k3, q3⟩ | ⟨a3, v3⟩
            · rw [h3, bS_l] at h; cases h
            · rw [h3, bS_r] at h
              cases h
              exact hs
theorem ldS_Z {T : Nat → Nat} {n : Nat} : ∀ (c t : Nat) (s : LSt) (a : Nat), LsG s → LsZ s → a ≤ n → ∀ b s2, ldS T n c t s a = .inr (b, s2) → LsZ s2
  | 0, t, s, a, hg, hs, ha, b, s2, h => by cases h; exact hs
  | c + 1, t, s, a, hg, hs, ha, b, s2, h => by
    have hk := sk_le (T := T) ha
    by_cases hl : sk T n a < n
    · rw [ldS_i hl] at h
      rcases h1 : clS T n t s (sk T n a) with ⟨k1, q1⟩ | ⟨a1, s1⟩
      · rw [h1, bS_l] at h; cases h
      · rw [h1, bS_r] at h
        obtain ⟨e1, e2, e3, e4⟩ := clS_G hg hk h1
        exact ldS_Z c (t + 1) s1 a1 e1 (clS_Z hs hk h1) e3 b s2 h
    · rw [ldS_e hl] at h; cases h; exact hs
theorem em0_Z : LsZ em0 := fun q _ _ => if_neg (by omega)
theorem Same.ml {X : Nat → Prop} {h h1 : PH} {m : Nat} {Y : Nat → Nat → Prop} (a : Same X Y h h1) (h3 : X (m + 3)) (h4 : X (m + 4)) (h5 : X (m + 5)) (y13 : Y m 13) (y14 : Y m 14) (np du : Nat) (nc no nr : Nat → Int32) : Same X Y h (mlS h1 m np du nc no nr) := by
  unfold mlS
  exact ((((a.sI h3).sI h4).sI h5).sF y13).sF y14
theorem same_ml {h : PH} {m : Nat} (np du : Nat) (nc no nr : Nat → Int32) (n a : Nat) (bd bk : Int32) (op : Nat) : Same (SX m) (STY m) h (mrS (mlS h m np du nc no nr) m n a bd bk op) :=
  Same.mr (Same.ml Same.rf (SX_in (by decide)) (SX_in (by decide)) (SX_in (by decide)) (STY_j (by decide)) (STY_j (by decide)) np du nc no nr) (fun j hj => STY_r hj) n a bd bk op
set_option maxHeartbeats 4000000 in
set_option maxRecDepth 100000 in
theorem c_ML_clearsN {l : Launch} {Z : EE} (hst : l.stackTraces = false) {h : PH} {m : Nat} (hM : ModS h m) {tf : Nat → Int32} (htf : hp_I h (m + 2) = tf) {T : Nat → Nat} (hB : BT tf T) {n : Nat} (hn : n ≤ 600) (a : Nat) (bd bk : Int32) (op : Nat) : CC l Z m_X11_clears 0 0 0 [.ref m] (mrS h m n a bd bk op) (RT none (mrS (mlS h m 0 2 (hp_I h (m + 3)) (fcF (fun _ => -1) (hp_I h (m + 4)) 61) (fcF (fun _ => 0) (hp_I h (m + 5)) 61)) m n a bd bk op)) := by
  refine ee_entry hst (by decide +kernel) rfl rfl (by simp [Value.category]) (Nat.le_of_ble_eq_true rfl) ?_
  refine ww_lv (lv2 := [.ref m, UU]) rfl ?_
  refine ww_aload_n dX11_clears_0 rfl rfl ?_
  refine ww_iconst (v := nI 0) dX11_clears_1 (by decide) ?_
  refine ww_pfI tyX11 13 dX11_clears_2 hM.K0 rfl (by decide) inX11 tyX11_ok nmX11 wg_1253 rfl rfl ?_
  refine ww_aload_n dX11_clears_5 rfl rfl ?_
  refine ww_iconst (v := nI 2) dX11_clears_6 (by decide) ?_
  refine ww_pfI tyX11 14 dX11_clears_7 hM.K0 rfl (by decide) inX11 tyX11_ok nmX11 wg_1254 rfl rfl ?_
  refine ww_iconst (v := nI 0) dX11_clears_10 (by decide) ?_
  refine ww_sti_n (lv2 := [.ref m, .int (nI 0)]) dX11_clears_11 rfl rfl (by decide) rfl ?_
  refine ww_hp (h2 := mrS (mlS h m 0 2 (hp_I h (m + 3)) (fcF (fun _ => -1) (hp_I h (m + 4)) 0) (fcF (fun _ => 0) (hp_I h (m + 5)) 0)) m n a bd bk op) (by rw [fcF_0, fcF_0]; exact ml_new h m n a bd bk op) ?_
  refine l_ML_clears hst hM htf hB hn (hp_I h (m + 3)) (hp_I h (m + 4)) (hp_I h (m + 5)) a bd bk op 61 0 (by omega) ?_
  exact ww_vret dX11_clears_38 rfl ⟨rfl, rfl⟩
set_option maxHeartbeats 4000000 in
set_option maxRecDepth 100000 in
theorem l_ML_landT_r {l : Launch} {Z : EE} (hst : l.stackTraces = false) {h : PH} {m : Nat} (hM : ModS h m) {tf : Nat → Int32} (htf : hp_I h (m + 2) = tf) {T : Nat → Nat} (hB : BT tf T) {n : Nat} (hn : n ≤ 600) (bk : Int32) {a9 : Nat} {s9 : LSt} (hr : ldS T n 61 0 em0 0 = .inr (a9, s9)) : WW l Z m_X11_land 6 0 0 38 [.ref m, .int (nI n), UU, UU] [] (mrS h m n 0 (-1) bk 0) (RQ (some (.int (nI s9.1))) (fun h9 => Same (fun c => SX m c ∨ c = m + 14) (fun a j => STY m a j ∨ setY m a j) h h9 ∧ hp_F h9 m 15 = .int (nI s9.1) ∧ hp_F h9 m 16 = .int (nI s9.2.1) ∧ hp_F h9 m 23 = .int (nI 0) ∧ hp_F h9 m 38 = .int (nI 0) ∧ hp_F h9 m 28 = .int (nI 0) ∧ hp_F h9 m 52 = .int (nI 0) ∧ hp_F h9 m 29 = .int (nI 0) ∧ EqR (hp_I h9 (m + 14)) s9.2.2 ∧ FtI h9 m (-1))) := by
  have hG : LsG s9 := by have h9 := ldS_x (T := T) (n := n) 61 0 em0 0 em0_G (by omega) (by omega); rw [hr] at h9; exact h9.1
  have hZ : LsZ s9 := ldS_Z 61 0 em0 0 em0_G em0_Z (by omega) a9 s9 hr
  refine ww_aload_n dX11_land_38 rfl rfl ?_
  refine ww_cV0 (M := m_X11_land) (pc := 39) (h1 := mrS (mlS h m 0 2 (hp_I h (m + 3)) (fcF (fun _ => -1) (hp_I h (m + 4)) 61) (fcF (fun _ => 0) (hp_I h (m + 5)) 61)) m n 0 (-1) bk 0) (st := []) (d := 6) (bc := 0) (bs := 0) (c_ML_clearsN hst hM htf hB hn 0 (-1) bk 0) vv_X11_clears dX11_land_39 wg_1232 hM.K0 rfl rfl rfl rfl (Nat.le_of_ble_eq_true rfl) (Nat.le_of_ble_eq_true rfl) (Nat.le_of_ble_eq_true rfl) (Nat.le_of_ble_eq_true rfl) ?_
  refine ww_iconst (v := nI 0) dX11_land_42 (by decide) ?_
  refine ww_sti_n (lv2 := [.ref m, .int (nI n), .int (nI 0), UU]) dX11_land_43 rfl rfl (by decide) rfl ?_
  have hm0 : MlR em0 (hp_I h (m + 3)) (fcF (fun _ => -1) (hp_I h (m + 4)) 61) (fcF (fun _ => 0) (hp_I h (m + 5)) 61) := ⟨fun i hi => by rw [fcF_in hi]; exact (if_pos hi).symm, fun i hi => by rw [fcF_in hi]; exact (if_neg (by omega)).symm, fun q hq => absurd hq (Nat.not_lt_zero q)⟩
  refine l_ML_land_r hst hM htf hB hn bk 61 0 em0 0 _ _ _ (by omega) em0_G (by omega) (by omega) hm0 hr (fun nc no nr hmr => ?_)
  refine ww_aload_n dX11_land_166 rfl rfl ?_
  refine ww_aload_n dX11_land_167 rfl rfl ?_
  refine ww_get 13 dX11_land_168 ((mlS_M hM s9.1 s9.2.1 nc no nr).K0) rfl (by decide) inX11 wg_1253 (mrS_j _ _ _ _ _ (by decide) (mlS_13 _ _ _ _ _ _ _)) ?_
  refine ww_cVr (M := m_X11_land) (pc := 171) (v := .int (nI s9.1)) (h1 := hp_sF (mrS (mlS h m s9.1 s9.2.1 nc no nr) m n n (-1) bk 0) m 8 (.int (-1))) (st := []) (d := 6) (bc := 0) (bs := 0) (c_MR_result_t hst (mlS_M hM s9.1 s9.2.1 nc no nr) (mlS_t (np := s9.1) (du := s9.2.1) (nc := nc) (no := no) (nr := nr) htf) hB hn n bk 0 (nI s9.1)) vv_X11_result dX11_land_171 wg_1471 ((mlS_M hM s9.1 s9.2.1 nc no nr).K0) rfl rfl rfl rfl (Nat.le_of_ble_eq_true rfl) (Nat.le_of_ble_eq_true rfl) (Nat.le_of_ble_eq_true rfl) (Nat.le_of_ble_eq_true rfl) ?_
  refine ww_sti_n (lv2 := [.ref m, .int (nI n), UU, .int (nI s9.1)]) dX11_land_174 rfl rfl (by decide) rfl ?_
  refine ww_aload_n dX11_land_175 rfl rfl ?_
  refine ww_get 5 dX11_land_176 ((mlS_M hM s9.1 s9.2.1 nc no nr).K0) rfl (by decide) inX11 wg_1245 (hp_F_nj (by decide) (mrS_5 _ _ _ _ _ _ _)) ?_
  refine ww_iconst (v := -1) dX11_land_179 (by decide) ?_
  refine ww_icmp_ne (tgt := 187) dX11_land_180 (by decide) (fun c180 => ?_) (fun c180 => ?_)
  · exact absurd rfl c180
  · refine ww_aload_n dX11_land_183 rfl rfl ?_
    refine ww_cVq0 (M := m_X11_land) (pc := 184) (st := []) (d := 6) (bc := 0) (bs := 0) (c_M_sets hst (h := hp_sF (mrS (mlS h m s9.1 s9.2.1 nc no nr) m n n (-1) bk 0) m 8 (.int (-1))) ((mrS_M (mlS_M hM _ _ _ _ _) _ _ _ _ _).sF (by decide)) (hp_F_nj (by decide) (mrS_j _ _ _ _ _ (by decide) (mlS_13 h m s9.1 s9.2.1 nc no nr))) (hp_F_nj (by decide) (mrS_j _ _ _ _ _ (by decide) (mlS_14 h m s9.1 s9.2.1 nc no nr))) hG.1.1 (mlS_3 h m s9.1 s9.2.1 nc no nr) (mlS_4 h m s9.1 s9.2.1 nc no nr) (mlS_5 h m s9.1 s9.2.1 nc no nr) rfl) vv_X11_sets dX11_land_184 wg_1236 ((mlS_M hM s9.1 s9.2.1 nc no nr).K0) rfl rfl rfl rfl (Nat.le_of_ble_eq_true rfl) (Nat.le_of_ble_eq_true rfl) (Nat.le_of_ble_eq_true rfl) (Nat.le_of_ble_eq_true rfl) (fun hz qz => ?_)
    obtain ⟨s1, f15, f16, f23, f38, f28, f52, f29, fI⟩ := qz
    refine ww_iload_n dX11_land_187 rfl rfl ?_
    exact ww_iret dX11_land_188 rfl ⟨rfl, (((Same.sF (same_ml s9.1 s9.2.1 nc no nr n n (-1) bk 0) (STY_j (by decide))).mono (fun _ e => Or.inl e) (fun _ _ e => Or.inl e)).tr (s1.mono (fun _ e => Or.inr e) (fun _ _ e => Or.inr e))), f15, f16, f23, f38, f28, f52, f29, (by rw [fI]; exact stF_eq hG hZ hmr), (FtI.of _ _ _ _ _ _ _ _).same s1 (fun e => by unfold setY at e; omega) (fun e => by unfold setY at e; omega)⟩
set_option maxHeartbeats 4000000 in
set_option maxRecDepth 100000 in
theorem l_ML_landT_l {l : Launch} {Z : EE} (hst : l.stackTraces = false) {h : PH} {m : Nat} (hM : ModS h m) {tf : Nat → Int32} (htf : hp_I h (m + 2) = tf) {T : Nat → Nat} (hB : BT tf T) {n : Nat} (hn : n ≤ 600) (bk : Int32) {k9 q9 : Nat} (hr : ldS T n 61 0 em0 0 = .inl (k9, q9)) (hq9 : q9 ≤ n) : WW l Z m_X11_land 6 0 0 38 [.ref m, .int (nI n), UU, UU] [] (mrS h m n 0 (-1) bk 0) (RQ (some (.int (nI k9 - nI 10))) (fun h9 => Same (SX m) (STY m) h h9 ∧ FtI h9 m (nI q9))) := by
  refine ww_aload_n dX11_land_38 rfl rfl ?_
  refine ww_cV0 (M := m_X11_land) (pc := 39) (h1 := mrS (mlS h m 0 2 (hp_I h (m + 3)) (fcF (fun _ => -1) (hp_I h (m + 4)) 61) (fcF (fun _ => 0) (hp_I h (m + 5)) 61)) m n 0 (-1) bk 0) (st := []) (d := 6) (bc := 0) (bs := 0) (c_ML_clearsN hst hM htf hB hn 0 (-1) bk 0) vv_X11_clears dX11_land_39 wg_1232 hM.K0 rfl rfl rfl rfl (Nat.le_of_ble_eq_true rfl) (Nat.le_of_ble_eq_true rfl) (Nat.le_of_ble_eq_true rfl) (Nat.le_of_ble_eq_true rfl) ?_
  refine ww_iconst (v := nI 0) dX11_land_42 (by decide) ?_
  refine ww_sti_n (lv2 := [.ref m, .int (nI n), .int (nI 0), UU]) dX11_land_43 rfl rfl (by decide) rfl ?_
  have hm0 : MlR em0 (hp_I h (m + 3)) (fcF (fun _ => -1) (hp_I h (m + 4)) 61) (fcF (fun _ => 0) (hp_I h (m + 5)) 61) := ⟨fun i hi => by rw [fcF_in hi]; exact (if_pos hi).symm, fun i hi => by rw [fcF_in hi]; exact (if_neg (by omega)).symm, fun q hq => absurd hq (Nat.not_lt_zero q)⟩
  refine l_ML_land_l hst hM htf hB hn bk 61 0 em0 0 _ _ _ (by omega) em0_G (by omega) (by omega) hm0 hr (fun a9 np du nc no nr h1 h2 h3 => ?_)
  refine ww_aload_n dX11_land_166 rfl rfl ?_
  refine ww_aload_n dX11_land_167 rfl rfl ?_
  refine ww_get 13 dX11_land_168 ((mlS_M hM np du nc no nr).K0) rfl (by decide) inX11 wg_1253 (mrS_j _ _ _ _ _ (by decide) (mlS_13 _ _ _ _ _ _ _)) ?_
  refine ww_cVr (M := m_X11_land) (pc := 171) (v := .int (nI k9 - nI 10)) (h1 := hp_sF (mrS (mlS h m np du nc no nr) m n a9 (nI q9) (nI k9) 0) m 8 (.int (nI q9))) (st := []) (d := 6) (bc := 0) (bs := 0) (c_MR_result_f hst (mlS_M hM np du nc no nr) (mlS_t (np := np) (du := du) (nc := nc) (no := no) (nr := nr) htf) hB hn a9 (nI k9) 0 q9 (by omega) (nI np)) vv_X11_result dX11_land_171 wg_1471 ((mlS_M hM np du nc no nr).K0) rfl rfl rfl rfl (Nat.le_of_ble_eq_true rfl) (Nat.le_of_ble_eq_true rfl) (Nat.le_of_ble_eq_true rfl) (Nat.le_of_ble_eq_true rfl) ?_
  refine ww_sti_n (lv2 := [.ref m, .int (nI n), UU, .int (nI k9 - nI 10)]) dX11_land_174 rfl rfl (by decide) rfl ?_
  refine ww_aload_n dX11_land_175 rfl rfl ?_
  refine ww_get 5 dX11_land_176 ((mlS_M hM np du nc no nr).K0) rfl (by decide) inX11 wg_1245 (hp_F_nj (by decide) (mrS_5 _ _ _ _ _ _ _)) ?_
  refine ww_iconst (v := -1) dX11_land_179 (by decide) ?_
  refine ww_icmp_ne (tgt := 187) dX11_land_180 (by decide) (fun c180 => ?_) (fun c180 => ?_)
  · refine ww_iload_n dX11_land_187 rfl rfl ?_
    exact ww_iret dX11_land_188 rfl ⟨rfl, Same.sF (same_ml np du nc no nr n a9 (nI q9) (nI k9) 0) (STY_j (by decide)), FtI.of _ _ _ _ _ _ _ _⟩
  · exact absurd c180 (nI_m1 (by omega))
