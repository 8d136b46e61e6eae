set_option maxHeartbeats 4000000 in
set_option maxRecDepth 100000 in
theorem l_Mb_204 {l : Launch} {Z : EE} (hst : l.stackTraces = false) {g : PH} {m : Nat} (hM : ModS g m) {nb : Nat → Int32} (hnb : hp_I g (m + 17) = nb) (k : Nat) (hk : k ≤ 8) (n : Nat) : WW l Z m_X11_book 3 0 0 204 [.ref m, .int (nI n), .int (nI k), .int (nI k), UU, UU] [] g (RQ (some (.int (nI k))) (fun h9 => Same (fun c => c = m + 18) (fun a j => a = m ∧ j = 38) g h9 ∧ hp_F h9 m 38 = .int (nI k) ∧ hp_I h9 (m + 18) = cpF nb (hp_I g (m + 18)) (2 * k))) := by
  refine ww_aload_n dX11_book_204 rfl rfl ?_
  refine ww_iload_n dX11_book_205 rfl rfl ?_
  refine ww_pfI tyX11 38 dX11_book_206 hM.K0 rfl (by decide) inX11 tyX11_ok nmX11 wg_1278 rfl rfl ?_
  refine ww_aload_n dX11_book_209 rfl rfl ?_
  refine ww_aload_n dX11_book_210 rfl rfl ?_
  refine ww_get 36 dX11_book_211 hM.K0 rfl (by decide) inX11 wg_1276 (hp_F_nj (by decide) hM.F17) ?_
  refine ww_aload_n dX11_book_214 rfl rfl ?_
  refine ww_get 37 dX11_book_215 hM.K0 rfl (by decide) inX11 wg_1277 (hp_F_nj (by decide) hM.F18) ?_
  refine ww_iconst (v := nI 2) dX11_book_218 (by decide) ?_
  refine ww_iload_n dX11_book_219 rfl rfl ?_
  refine ww_imulN dX11_book_220 ?_
  refine ww_cV0 (M := m_X11_book) (pc := 221) (h1 := hp_sI (hp_sF g m 38 (.int (nI k))) (m + 18) (cpF nb (hp_I g (m + 18)) (2 * k))) (st := []) (d := 3) (bc := 0) (bs := 0) (c_M_copies hst (h := hp_sF g m 38 (.int (nI k))) (hM.sF (by decide)) hM.K17 hM.K18 (by omega) hnb rfl (2 * k) (by omega) (by omega) (by omega) (by omega)) vv_X11_copies dX11_book_221 wg_1516 hM.K0 rfl rfl rfl rfl (Nat.le_of_ble_eq_true rfl) (Nat.le_of_ble_eq_true rfl) (Nat.le_of_ble_eq_true rfl) (Nat.le_of_ble_eq_true rfl) ?_
  refine ww_iload_n dX11_book_224 rfl rfl ?_
  exact ww_iret dX11_book_225 rfl ⟨rfl, Same.sI (Same.sF Same.rf ⟨rfl, rfl⟩) rfl, (hp_F_sI (hp_F_eq _ _ _ _)), (hp_I_eq _ _ _)⟩
def BookM (h : PH) (m : Nat) (s : BKt) : Prop := hp_F h m 38 = .int (nI s.1) ∧ s.1 ≤ 8 ∧ ∀ i, i < s.1 → hp_I h (m + 18) (2 * i) = s.2.1 i ∧ hp_I h (m + 18) (2 * i + 1) = s.2.2 i
theorem same_mb {h : PH} {m : Nat} (nb : Nat → Int32) (n a : Nat) (bd bk : Int32) (op : Nat) : Same (SX m) (STY m) h (mrS (hp_sI h (m + 17) nb) m n a bd bk op) :=
  Same.mr (Same.sI Same.rf (SX_in (by decide))) (fun j hj => STY_r hj) n a bd bk op
set_option maxHeartbeats 4000000 in
set_option maxRecDepth 100000 in
theorem l_ML_book_r {l : Launch} {Z : EE} (hst : l.stackTraces = false) {h : PH} {m : Nat} (hM : ModS h m) {tf : Nat → Int32} (htf : hp_I h (m + 2) = tf) {T : Nat → Nat} (hB : BT tf T) {n : Nat} (hn : n ≤ 600) (bk : Int32) (bn0 bt0 : Nat → Int32) {a9 : Nat} {s9 : BKt} (hr : bkL T n 9 (0, bn0, bt0) 0 = .inr (a9, s9)) : WW l Z m_X11_book 3 0 0 44 [.ref m, .int (nI n), UU, UU, UU, UU] [] (mrS h m n 0 (-1) bk 0) (RQ (some (.int (nI s9.1))) (fun h9 => Same (fun c => SX m c ∨ c = m + 18) (fun a j => STY m a j ∨ (a = m ∧ j = 38)) h h9 ∧ BookM h9 m s9 ∧ FtI h9 m (-1))) := by
  have hG0 : BkG ((0, bn0, bt0) : BKt) := ⟨Nat.zero_le _, fun i hi => absurd hi (Nat.not_lt_zero i)⟩
  have hx9 := bkL_x (T := T) (n := n) 9 (0, bn0, bt0) 0 hG0 (Nat.zero_le _) rfl
  refine ww_iconst (v := nI 0) dX11_book_44 (by decide) ?_
  refine ww_sti_n (lv2 := [.ref m, .int (nI n), .int (nI 0), UU, UU, UU]) dX11_book_45 rfl rfl (by decide) rfl ?_
  refine ww_hp (h2 := mrS (hp_sI h (m + 17) (hp_I h (m + 17))) m n 0 (-1) bk 0) (by rw [hp_sI_id]) ?_
  refine l_Mb_loop hst hM htf hB hn bk 9 (0, bn0, bt0) 0 _ rfl hG0 (Nat.zero_le _) (fun i hi => absurd hi (Nat.not_lt_zero i)) (fun a8 s8 nb e1 hmr => ?_) (fun k8 q8 a8 nb mn e1 e2 e3 => ?_)
  · refine ww_aload_n dX11_book_188 rfl rfl ?_
    refine ww_iload_n dX11_book_189 rfl rfl ?_
    refine ww_cVr (M := m_X11_book) (pc := 190) (v := .int (nI s8.1)) (h1 := hp_sF (mrS (hp_sI h (m + 17) nb) m n n (-1) bk 0) m 8 (.int (-1))) (st := []) (d := 3) (bc := 0) (bs := 0) (c_MR_result_t hst (ModS.sI (a := m + 17) (f := nb) hM) (hp_I_nx (f := nb) (show m + 2 ≠ m + 17 by omega) htf) hB hn n bk 0 (nI s8.1)) vv_X11_result dX11_book_190 wg_1471 ((ModS.sI (a := m + 17) (f := nb) hM).K0) rfl rfl rfl rfl (Nat.le_of_ble_eq_true rfl) (Nat.le_of_ble_eq_true rfl) (Nat.le_of_ble_eq_true rfl) (Nat.le_of_ble_eq_true rfl) ?_
    refine ww_sti_n (lv2 := [.ref m, .int (nI n), .int (nI s8.1), .int (nI s8.1), UU, UU]) dX11_book_193 rfl rfl (by decide) rfl ?_
    refine ww_aload_n dX11_book_194 rfl rfl ?_
    refine ww_get 5 dX11_book_195 ((ModS.sI (a := m + 17) (f := nb) hM).K0) rfl (by decide) inX11 wg_1245 (hp_F_nj (by decide) (mrS_5 _ _ _ _ _ _ _)) ?_
    refine ww_iconst (v := -1) dX11_book_198 (by decide) ?_
    refine ww_icmp_eq (tgt := 204) dX11_book_199 (by decide) (fun c199 => ?_) (fun c199 => ?_)
    · rw [hr] at e1
      cases e1
      rw [hr] at hx9
      have hG : BkG s9 := hx9.1
      refine ww_post (fun r h9 hp => ?_) (l_Mb_204 hst (g := hp_sF (mrS (hp_sI h (m + 17) nb) m n n (-1) bk 0) m 8 (.int (-1))) ((mrS_M (ModS.sI (a := m + 17) (f := nb) hM) _ _ _ _ _).sF (by decide)) (hp_I_eq h (m + 17) nb) s9.1 hG.1 n)
      obtain ⟨e1, s1, f1, f2⟩ := hp
      have sA : Same (SX m) (STY m) h (hp_sF (mrS (hp_sI h (m + 17) nb) m n n (-1) bk 0) m 8 (.int (-1))) := Same.sF (same_mb nb n n (-1) bk 0) (STY_j (by decide))
      refine ⟨e1, (sA.mono (fun _ e => Or.inl e) (fun _ _ e => Or.inl e)).tr (s1.mono (fun _ e => Or.inr e) (fun _ _ e => Or.inr e)), ⟨f1, hG.1, fun i hi => ?_⟩, (FtI.of _ _ _ _ _ _ _ _).same s1 (fun e => by omega) (fun e => by omega)⟩
      rw [f2, cpF_in (by omega), cpF_in (by omega)]
      exact hmr i hi
    · exact absurd rfl c199
  · have hq8 : q8 ≤ n := by rw [e1] at hx9; exact hx9.2.2
    refine ww_aload_n dX11_book_188 rfl rfl ?_
    refine ww_iload_n dX11_book_189 rfl rfl ?_
    refine ww_cVr (M := m_X11_book) (pc := 190) (v := .int (nI k8 - nI 10)) (h1 := hp_sF (mrS (hp_sI h (m + 17) nb) m n a8 (nI q8) (nI k8) 0) m 8 (.int (nI q8))) (st := []) (d := 3) (bc := 0) (bs := 0) (c_MR_result_f hst (ModS.sI (a := m + 17) (f := nb) hM) (hp_I_nx (f := nb) (show m + 2 ≠ m + 17 by omega) htf) hB hn a8 (nI k8) 0 q8 (by omega) (nI mn)) vv_X11_result dX11_book_190 wg_1471 ((ModS.sI (a := m + 17) (f := nb) hM).K0) rfl rfl rfl rfl (Nat.le_of_ble_eq_true rfl) (Nat.le_of_ble_eq_true rfl) (Nat.le_of_ble_eq_true rfl) (Nat.le_of_ble_eq_true rfl) ?_
    refine ww_sti_n (lv2 := [.ref m, .int (nI n), .int (nI mn), .int (nI k8 - nI 10), UU, UU]) dX11_book_193 rfl rfl (by decide) rfl ?_
    refine ww_aload_n dX11_book_194 rfl rfl ?_
    refine ww_get 5 dX11_book_195 ((ModS.sI (a := m + 17) (f := nb) hM).K0) rfl (by decide) inX11 wg_1245 (hp_F_nj (by decide) (mrS_5 _ _ _ _ _ _ _)) ?_
    refine ww_iconst (v := -1) dX11_book_198 (by decide) ?_
    refine ww_icmp_eq (tgt := 204) dX11_book_199 (by decide) (fun c199 => ?_) (fun c199 => ?_)
    · exact absurd c199 (nI_m1 (by omega))
    · refine ww_iload_n dX11_book_202 rfl rfl ?_
      exact ww_iret dX11_book_203 rfl (by exfalso; rw [hr] at e1; cases e1)
set_option maxHeartbeats 4000000 in
set_option maxRecDepth 100000 in
theorem l_ML_book_l {l : Launch} {Z : EE} (hst : l.stackTraces = false) {h : PH} {m : Nat} (hM : ModS h m) {tf : Nat → Int32} (htf : hp_I h (m + 2) = tf) {T : Nat → Nat} (hB : BT tf T) {n : Nat} (hn : n ≤ 600) (bk : Int32) (bn0 bt0 : Nat → Int32) {k9 q9 : Nat} (hr : bkL T n 9 (0, bn0, bt0) 0 = .inl (k9, q9)) : WW l Z m_X11_book 3 0 0 44 [.ref m, .int (nI n), UU, UU, UU, UU] [] (mrS h m n 0 (-1) bk 0) (RQ (some (.int (nI k9 - nI 10))) (fun h9 => Same (SX m) (STY m) h h9 ∧ FtI h9 m (nI q9))) := by
  have hG0 : BkG ((0, bn0, bt0) : BKt) := ⟨Nat.zero_le _, fun i hi => absurd hi (Nat.not_lt_zero i)⟩
  have hx9 := bkL_x (T := T) (n := n) 9 (0, bn0, bt0) 0 hG0 (Nat.zero_le _) rfl
  refine ww_iconst (v := nI 0) dX11_book_44 (by decide) ?_
  refine ww_sti_n (lv2 := [.ref m, .int (nI n), .int (nI 0), UU, UU, UU]) dX11_book_45 rfl rfl (by decide) rfl ?_
  refine ww_hp (h2 := mrS (hp_sI h (m + 17) (hp_I h (m + 17))) m n 0 (-1) bk 0) (by rw [hp_sI_id]) ?_
  refine l_Mb_loop hst hM htf hB hn bk 9 (0, bn0, bt0) 0 _ rfl hG0 (Nat.zero_le _) (fun i hi => absurd hi (Nat.not_lt_zero i)) (fun a8 s8 nb e1 hmr => ?_) (fun k8 q8 a8 nb mn e1 e2 e3 => ?_)
  · refine ww_aload_n dX11_book_188 rfl rfl ?_
    refine ww_iload_n dX11_book_189 rfl rfl ?_
    refine ww_cVr (M := m_X11_book) (pc := 190) (v := .int (nI s8.1)) (h1 := hp_sF (mrS (hp_sI h (m + 17) nb) m n n (-1) bk 0) m 8 (.int (-1))) (st := []) (d := 3) (bc := 0) (bs := 0) (c_MR_result_t hst (ModS.sI (a := m + 17) (f := nb) hM) (hp_I_nx (f := nb) (show m + 2 ≠ m + 17 by omega) htf) hB hn n bk 0 (nI s8.1)) vv_X11_result dX11_book_190 wg_1471 ((ModS.sI (a := m + 17) (f := nb) hM).K0) rfl rfl rfl rfl (Nat.le_of_ble_eq_true rfl) (Nat.le_of_ble_eq_true rfl) (Nat.le_of_ble_eq_true rfl) (Nat.le_of_ble_eq_true rfl) ?_
    refine ww_sti_n (lv2 := [.ref m, .int (nI n), .int (nI s8.1), .int (nI s8.1), UU, UU]) dX11_book_193 rfl rfl (by decide) rfl ?_
    refine ww_aload_n dX11_book_194 rfl rfl ?_
    refine ww_get 5 dX11_book_195 ((ModS.sI (a := m + 17) (f := nb) hM).K0) rfl (by decide) inX11 wg_1245 (hp_F_nj (by decide) (mrS_5 _ _ _ _ _ _ _)) ?_
    refine ww_iconst (v := -1) dX11_book_198 (by decide) ?_
    refine ww_icmp_eq (tgt := 204) dX11_book_199 (by decide) (fun c199 => ?_) (fun c199 => ?_)
    · exfalso
      rw [hr] at e1
      cases e1
    · exact absurd rfl c199
  · have hq8 : q8 ≤ n := by rw [e1] at hx9; exact hx9.2.2
    refine ww_aload_n dX11_book_188 rfl rfl ?_
    refine ww_iload_n dX11_book_189 rfl rfl ?_
    refine ww_cVr (M := m_X11_book) (pc := 190) (v := .int (nI k8 - nI 10)) (h1 := hp_sF (mrS (hp_sI h (m + 17) nb) m n a8 (nI q8) (nI k8) 0) m 8 (.int (nI q8))) (st := []) (d := 3) (bc := 0) (bs := 0) (c_MR_result_f hst (ModS.sI (a := m + 17) (f := nb) hM) (hp_I_nx (f := nb) (show m + 2 ≠ m + 17 by omega) htf) hB hn a8 (nI k8) 0 q8 (by omega) (nI mn)) vv_X11_result dX11_book_190 wg_1471 ((ModS.sI (a := m + 17) (f := nb) hM).K0) rfl rfl rfl rfl (Nat.le_of_ble_eq_true rfl) (Nat.le_of_ble_eq_true rfl) (Nat.le_of_ble_eq_true rfl) (Nat.le_of_ble_eq_true rfl) ?_
    refine ww_sti_n (lv2 := [.ref m, .int (nI n), .int (nI mn), .int (nI k8 - nI 10), UU, UU]) dX11_book_193 rfl rfl (by decide) rfl ?_
    refine ww_aload_n dX11_book_194 rfl rfl ?_
    refine ww_get 5 dX11_book_195 ((ModS.sI (a := m + 17) (f := nb) hM).K0) rfl (by decide) inX11 wg_1245 (hp_F_nj (by decide) (mrS_5 _ _ _ _ _ _ _)) ?_
    refine ww_iconst (v := -1) dX11_book_198 (by decide) ?_
    refine ww_icmp_eq (tgt := 204) dX11_book_199 (by decide) (fun c199 => ?_) (fun c199 => ?_)
    · exact absurd c199 (nI_m1 (by omega))
    · refine ww_iload_n dX11_book_202 rfl rfl ?_
      exact ww_iret dX11_book_203 rfl (by rw [hr] at e1; cases e1; exact ⟨rfl, Same.sF (same_mb nb n a8 (nI q9) (nI k9) 0) (STY_j (by decide)), FtI.of _ _ _ _ _ _ _ _⟩)
set_option maxHeartbeats 4000000 in
set_option maxRecDepth 100000 in
theorem c_M_book {l : Launch} {Z : EE} (hst : l.stackTraces = false) {h : PH} {m : Nat} (hM : ModS h m) {tf : Nat → Int32} (htf : hp_I h (m + 2) = tf) {T : Nat → Nat} (hB : BT tf T) {tp : Nat} (htp : hp_F h m 2 = .int (nI tp)) (ht6 : tp ≤ 600) {bk : Int32} (hbk : hp_F h m 6 = .int bk) (n : Nat) (hnt : n ≤ tp) (hn5 : n ≤ 100) (bn0 bt0 : Nat → Int32) {a9 : Nat} {s9 : BKt} (hr : bkL T n 9 (0, bn0, bt0) 0 = .inr (a9, s9)) : CC l Z m_X11_book 3 0 0 [.ref m, .int (nI n)] h (RQ (some (.int (nI s9.1))) (fun h9 => Same (fun c => SX m c ∨ c = m + 18) (fun a j => SYt m a j ∨ (a = m ∧ j = 38)) h h9 ∧ BookM h9 m s9 ∧ hp_F h9 m 0 = .int (nI 0) ∧ hp_F h9 m 2 = .int (nI 0) ∧ FtI h9 m (-1))) := by
  refine ee_entry hst (by decide +kernel) rfl rfl (by simp [Value.category]) (Nat.le_of_ble_eq_true rfl) ?_
  refine ww_lv (lv2 := [.ref m, .int (nI n), UU, UU, UU, UU]) rfl ?_
  refine ww_aload_n dX11_book_0 rfl rfl ?_
  refine ww_iconst (v := nI 0) dX11_book_1 (by decide) ?_
  refine ww_pfI tyX11 0 dX11_book_2 hM.K0 rfl (by decide) inX11 tyX11_ok nmX11 wg_1240 rfl rfl ?_
  refine ww_aload_n dX11_book_5 rfl rfl ?_
  refine ww_iload_n dX11_book_6 rfl rfl ?_
  refine ww_if_ltN (tgt := 28) dX11_book_7 (by decide) (by omega) ?_
  refine ww_iload_n dX11_book_10 rfl rfl ?_
  refine ww_aload_n dX11_book_11 rfl rfl ?_
  refine ww_get 2 dX11_book_12 hM.K0 rfl (by decide) inX11 wg_1242 (hp_F_nj (by decide) htp) ?_
  refine ww_icmp_gtN (tgt := 28) dX11_book_15 (by decide) (by omega) (by omega) (fun c15 => ?_) (fun c15 => ?_)
  · exfalso; omega
  · refine ww_iload_n dX11_book_18 rfl rfl ?_
    refine ww_bipush (v := nI 100) dX11_book_19 (by decide) ?_
    refine ww_icmp_gtN (tgt := 28) dX11_book_21 (by decide) (by omega) (by omega) (fun c21 => ?_) (fun c21 => ?_)
    · exfalso; omega
    · refine ww_iconst (v := nI 1) dX11_book_24 (by decide) ?_
      refine ww_goto (tgt := 29) dX11_book_25 (by decide) ?_
      refine ww_iconst (v := nI 1) dX11_book_29 (by decide) ?_
      refine ww_iconst (v := nI 1) dX11_book_30 (by decide) ?_
      refine ww_cVr (M := m_X11_book) (pc := 31) (v := .int (nI 1)) (h1 := hp_sF h m 0 (.int (nI 0))) (st := []) (d := 3) (bc := 0) (bs := 0) (c_M_may_t hst (h := hp_sF h m 0 (.int (nI 0))) (hM.sF (by decide)) (hp_F_eq _ _ _ _) (nI 1) (nI 1)) vv_X11_may dX11_book_31 wg_1413 hM.K0 rfl rfl rfl rfl (Nat.le_of_ble_eq_true rfl) (Nat.le_of_ble_eq_true rfl) (Nat.le_of_ble_eq_true rfl) (Nat.le_of_ble_eq_true rfl) ?_
      refine ww_if_neN (tgt := 39) dX11_book_34 (by decide) (by omega) (fun c34 => ?_) (fun c34 => ?_)
      · refine ww_aload_n dX11_book_39 rfl rfl ?_
        refine ww_iload_n dX11_book_40 rfl rfl ?_
        refine ww_cV0 (M := m_X11_book) (pc := 41) (h1 := mrS (bgS h m) m n 0 (-1) bk 0) (st := []) (d := 3) (bc := 0) (bs := 0) (c_MR_begins hst (h := hp_sF h m 0 (.int (nI 0))) (hM.sF (by decide)) n (hp_F_nj (by decide) hbk)) vv_X11_begins dX11_book_41 wg_1417 hM.K0 rfl rfl rfl rfl (Nat.le_of_ble_eq_true rfl) (Nat.le_of_ble_eq_true rfl) (Nat.le_of_ble_eq_true rfl) (Nat.le_of_ble_eq_true rfl) ?_
        refine ww_post (fun r h9 hp => ?_) (l_ML_book_r hst (bgS_M hM) htf hB (by omega) bk bn0 bt0 hr)
        obtain ⟨e1, s1, f1, f2⟩ := hp
        exact ⟨e1, (bgS_s.mono (fun _ e => Or.inl e) (fun _ _ e => Or.inl e)).tr (s1.mono (fun _ e => e) (fun _ _ e => e.imp STY_t id)), f1, (s1.2.2.1 _ _ (fun e => by unfold STY at e; omega)).trans (bgS_0 h m), (s1.2.2.1 _ _ (fun e => by unfold STY at e; omega)).trans (bgS_2 h m), f2⟩
      · exact absurd c34 (by decide)
set_option maxHeartbeats 4000000 in
set_option maxRecDepth 100000 in
theorem c_M_book_l {l : Launch} {Z : EE} (hst : l.stackTraces = false) {h : PH} {m : Nat} (hM : ModS h m) {tf : Nat → Int32} (htf : hp_I h (m + 2) = tf) {T : Nat → Nat} (hB : BT tf T) {tp : Nat} (htp : hp_F h m 2 = .int (nI tp)) (ht6 : tp ≤ 600) {bk : Int32} (hbk : hp_F h m 6 = .int bk) (n : Nat) (hnt : n ≤ tp) (hn5 : n ≤ 100) (bn0 bt0 : Nat → Int32) {k9 q9 : Nat} (hr : bkL T n 9 (0, bn0, bt0) 0 = .inl (k9, q9)) : CC l Z m_X11_book 3 0 0 [.ref m, .int (nI n)] h (RQ (some (.int (nI k9 - nI 10))) (fun h9 => Same (SX m) (SYt m) h h9 ∧ hp_F h9 m 0 = .int (nI 0) ∧ hp_F h9 m 2 = .int (nI 0) ∧ FtI h9 m (nI q9))) := by
  refine ee_entry hst (by decide +kernel) rfl rfl (by simp [Value.category]) (Nat.le_of_ble_eq_true rfl) ?_
  refine ww_lv (lv2 := [.ref m, .int (nI n), UU, UU, UU, UU]) rfl ?_
  refine ww_aload_n dX11_book_0 rfl rfl ?_
  refine ww_iconst (v := nI 0) dX11_book_1 (by decide) ?_
  refine ww_pfI tyX11 0 dX11_book_2 hM.K0 rfl (by decide) inX11 tyX11_ok nmX11 wg_1240 rfl rfl ?_
  refine ww_aload_n dX11_book_5 rfl rfl ?_
  refine ww_iload_n dX11_book_6 rfl rfl ?_
  refine ww_if_ltN (tgt := 28) dX11_book_7 (by decide) (by omega) ?_
  refine ww_iload_n dX11_book_10 rfl rfl ?_
  refine ww_aload_n dX11_book_11 rfl rfl ?_
  refine ww_get 2 dX11_book_12 hM.K0 rfl (by decide) inX11 wg_1242 (hp_F_nj (by decide) htp) ?_
  refine ww_icmp_gtN (tgt := 28) dX11_book_15 (by decide) (by omega) (by omega) (fun c15 => ?_) (fun c15 => ?_)
  · exfalso; omega
  · refine ww_iload_n dX11_book_18 rfl rfl ?_
    refine ww_bipush (v := nI 100) dX11_book_19 (by decide) ?_
    refine ww_icmp_gtN (tgt := 28) dX11_book_21 (by decide) (by omega) (by omega) (fun c21 => ?_) (fun c21 => ?_)
    · exfalso; omega
    · refine ww_iconst (v := nI 1) dX11_book_24 (by decide) ?_
      refine ww_goto (tgt := 29) dX11_book_25 (by decide) ?_
      refine ww_iconst (v := nI 1) dX11_book_29 (by decide) ?_
      refine ww_iconst (v := nI 1) dX11_book_30 (by decide) ?_
      refine ww_cVr (M := m_X11_book) (pc := 31) (v := .int (nI 1)) (h1 := hp_sF h m 0 (.int (nI 0))) (st := []) (d := 3) (bc := 0) (bs := 0) (c_M_may_t hst (h := hp_sF h m 0 (.int (nI 0))) (hM.sF (by decide)) (hp_F_eq _ _ _ _) (nI 1) (nI 1)) vv_X11_may dX11_book_31 wg_1413 hM.K0 rfl rfl rfl rfl (Nat.le_of_ble_eq_true rfl) (Nat.le_of_ble_eq_true rfl) (Nat.le_of_ble_eq_true rfl) (Nat.le_of_ble_eq_true rfl) ?_
      refine ww_if_neN (tgt := 39) dX11_book_34 (by decide) (by omega) (fun c34 => ?_) (fun c34 => ?_)
      · refine ww_aload_n dX11_book_39 rfl rfl ?_
        refine ww_iload_n dX11_book_40 rfl rfl ?_
        refine ww_cV0 (M := m_X11_book) (pc := 41) (h1 := mrS (bgS h m) m n 0 (-1) bk 0) (st := []) (d := 3) (bc := 0) (bs := 0) (c_MR_begins hst (h := hp_sF h m 0 (.int (nI 0))) (hM.sF (by decide)) n (hp_F_nj (by decide) hbk)) vv_X11_begins dX11_book_41 wg_1417 hM.K0 rfl rfl rfl rfl (Nat.le_of_ble_eq_true rfl) (Nat.le_of_ble_eq_true rfl) (Nat.le_of_ble_eq_true rfl) (Nat.le_of_ble_eq_true rfl) ?_
        refine ww_post (fun r h9 hp => ?_) (l_ML_book_l hst (bgS_M hM) htf hB (by omega) bk bn0 bt0 hr)
        obtain ⟨e1, s1, f2⟩ := hp
        exact ⟨e1, bgS_s.tr (s1.mono (fun _ e => e) (fun _ _ e => STY_t e)), (s1.2.2.1 _ _ (fun e => by unfold STY at e; omega)).trans (bgS_0 h m), (s1.2.2.1 _ _ (fun e => by unfold STY at e; omega)).trans (bgS_2 h m), f2⟩
      · exact absurd c34 (by decide)
set_option maxHeartbeats 4000000 in
set_option maxRecDepth 100000 in
theorem c_M_book_no {l : Launch} {Z : EE} (hst : l.stackTraces = false) {h : PH} {m : Nat} (hM : ModS h m) {tp : Nat} (htp : hp_F h m 2 = .int (nI tp)) (ht6 : tp ≤ 600) (n : Int32) (hout : ¬ (nI 0 ≤ n ∧ n ≤ nI (min tp 100))) : CC l Z m_X11_book 3 0 0 [.ref m, .int n] h (MNo 1 1 m h) := by
  refine ee_entry hst (by decide +kernel) rfl rfl (by simp [Value.category]) (Nat.le_of_ble_eq_true rfl) ?_
  refine ww_lv (lv2 := [.ref m, .int n, UU, UU, UU, UU]) rfl ?_
  refine ww_aload_n dX11_book_0 rfl rfl ?_
  refine ww_iconst (v := nI 0) dX11_book_1 (by decide) ?_
  refine ww_pfI tyX11 0 dX11_book_2 hM.K0 rfl (by decide) inX11 tyX11_ok nmX11 wg_1240 rfl rfl ?_
  refine ww_aload_n dX11_book_5 rfl rfl ?_
  refine ww_iload_n dX11_book_6 rfl rfl ?_
  refine ww_if_lt (tgt := 28) dX11_book_7 (by decide) (fun c7 => ?_) (fun c7 => ?_)
  · refine ww_iconst (v := nI 0) dX11_book_28 (by decide) ?_
    refine ww_iconst (v := nI 1) dX11_book_29 (by decide) ?_
    refine ww_iconst (v := nI 1) dX11_book_30 (by decide) ?_
    refine ww_cVr (M := m_X11_book) (pc := 31) (v := .int (nI 0)) (h1 := hp_sI (hp_sF (hp_sF h m 0 (.int (nI 0))) m 0 (.int (nI 1))) (m + 1) (upd (hp_I (hp_sF h m 0 (.int (nI 0))) (m + 1)) 1 (hp_I (hp_sF h m 0 (.int (nI 0))) (m + 1) 1 + nI 1))) (st := []) (d := 3) (bc := 0) (bs := 0) (c_M_may_f hst (h := hp_sF h m 0 (.int (nI 0))) (hM.sF (by decide)) (hp_F_eq _ _ _ _) 1 1 (by decide) (by decide) (by decide)) vv_X11_may dX11_book_31 wg_1413 hM.K0 rfl rfl rfl rfl (Nat.le_of_ble_eq_true rfl) (Nat.le_of_ble_eq_true rfl) (Nat.le_of_ble_eq_true rfl) (Nat.le_of_ble_eq_true rfl) ?_
    refine ww_if_neN (tgt := 39) dX11_book_34 (by decide) (by omega) (fun c34 => ?_) (fun c34 => ?_)
    · exact absurd c34 (by decide)
    · refine ww_iconst (v := nI 0) dX11_book_37 (by decide) ?_
      exact ww_iret dX11_book_38 rfl ⟨rfl, (((Same.rf.sF (SY0 m)).sF (SY0 m)).sI (Or.inr rfl)), (hp_F_sI (hp_F_eq _ _ _ _)), by rw [hp_I_eq]; rfl⟩
  · refine ww_iload_n dX11_book_10 rfl rfl ?_
    refine ww_aload_n dX11_book_11 rfl rfl ?_
    refine ww_get 2 dX11_book_12 hM.K0 rfl (by decide) inX11 wg_1242 (hp_F_nj (by decide) htp) ?_
    refine ww_icmp_gt (tgt := 28) dX11_book_15 (by decide) (fun c15 => ?_) (fun c15 => ?_)
    · refine ww_iconst (v := nI 0) dX11_book_28 (by decide) ?_
      refine ww_iconst (v := nI 1) dX11_book_29 (by decide) ?_
      refine ww_iconst (v := nI 1) dX11_book_30 (by decide) ?_
      refine ww_cVr (M := m_X11_book) (pc := 31) (v := .int (nI 0)) (h1 := hp_sI (hp_sF (hp_sF h m 0 (.int (nI 0))) m 0 (.int (nI 1))) (m + 1) (upd (hp_I (hp_sF h m 0 (.int (nI 0))) (m + 1)) 1 (hp_I (hp_sF h m 0 (.int (nI 0))) (m + 1) 1 + nI 1))) (st := []) (d := 3) (bc := 0) (bs := 0) (c_M_may_f hst (h := hp_sF h m 0 (.int (nI 0))) (hM.sF (by decide)) (hp_F_eq _ _ _ _) 1 1 (by decide) (by decide) (by decide)) vv_X11_may dX11_book_31 wg_1413 hM.K0 rfl rfl rfl rfl (Nat.le_of_ble_eq_true rfl) (Nat.le_of_ble_eq_true rfl) (Nat.le_of_ble_eq_true rfl) (Nat.le_of_ble_eq_true rfl) ?_
      refine ww_if_neN (tgt := 39) dX11_book_34 (by decide) (by omega) (fun c34 => ?_) (fun c34 => ?_)
      · exact absurd c34 (by decide)
      · refine ww_iconst (v := nI 0) dX11_book_37 (by decide) ?_
        exact ww_iret dX11_book_38 rfl ⟨rfl, (((Same.rf.sF (SY0 m)).sF (SY0 m)).sI (Or.inr rfl)), (hp_F_sI (hp_F_eq _ _ _ _)), by rw [hp_I_eq]; rfl⟩
    · refine ww_iload_n dX11_book_18 rfl rfl ?_
      refine ww_bipush (v := nI 100) dX11_book_19 (by decide) ?_
      refine ww_icmp_gt (tgt := 28) dX11_book_21 (by decide) (fun c21 => ?_) (fun c21 => ?_)
      · refine ww_iconst (v := nI 0) dX11_book_28 (by decide) ?_
        refine ww_iconst (v := nI 1) dX11_book_29 (by decide) ?_
        refine ww_iconst (v := nI 1) dX11_book_30 (by decide) ?_
        refine ww_cVr (M := m_X11_book) (pc := 31) (v := .int (nI 0)) (h1 := hp_sI (hp_sF (hp_sF h m 0 (.int (nI 0))) m 0 (.int (nI 1))) (m + 1) (upd (hp_I (hp_sF h m 0 (.int (nI 0))) (m + 1)) 1 (hp_I (hp_sF h m 0 (.int (nI 0))) (m + 1) 1 + nI 1))) (st := []) (d := 3) (bc := 0) (bs := 0) (c_M_may_f hst (h := hp_sF h m 0 (.int (nI 0))) (hM.sF (by decide)) (hp_F_eq _ _ _ _) 1 1 (by decide) (by decide) (by decide)) vv_X11_may dX11_book_31 wg_1413 hM.K0 rfl rfl rfl rfl (Nat.le_of_ble_eq_true rfl) (Nat.le_of_ble_eq_true rfl) (Nat.le_of_ble_eq_true rfl) (Nat.le_of_ble_eq_true rfl) ?_
        refine ww_if_neN (tgt := 39) dX11_book_34 (by decide) (by omega) (fun c34 => ?_) (fun c34 => ?_)
        · exact absurd c34 (by decide)
        · refine ww_iconst (v := nI 0) dX11_book_37 (by decide) ?_
          exact ww_iret dX11_book_38 rfl ⟨rfl, (((Same.rf.sF (SY0 m)).sF (SY0 m)).sI (Or.inr rfl)), (hp_F_sI (hp_F_eq _ _ _ _)), by rw [hp_I_eq]; rfl⟩
      · exact absurd ⟨Int32.not_lt.mp c7, min_le (Int32.not_lt.mp c15) (Int32.not_lt.mp c21)⟩ hout
