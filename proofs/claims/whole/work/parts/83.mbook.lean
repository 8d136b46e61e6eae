/-! ===== book, as the reference answers it ===== -/
def MbR (s : BKt) (nb : Nat → Int32) : Prop := ∀ i, i < s.1 → nb (2 * i) = s.2.1 i ∧ nb (2 * i + 1) = s.2.2 i
theorem MbR.up {s : BKt} {nb : Nat → Int32} (h : MbR s nb) (v t : Int32) : MbR (s.1 + 1, upd s.2.1 s.1 v, upd s.2.2 s.1 t) (upd (upd nb (2 * s.1) v) (2 * s.1 + 1) t) := by
  intro i hi
  have hi2 : i < s.1 + 1 := hi
  show upd (upd nb (2 * s.1) v) (2 * s.1 + 1) t (2 * i) = upd s.2.1 s.1 v i ∧ upd (upd nb (2 * s.1) v) (2 * s.1 + 1) t (2 * i + 1) = upd s.2.2 s.1 t i
  by_cases e : i = s.1
  · rw [e, pk_us, pk_us, pk_us, pk_un (by omega), pk_us]; exact ⟨rfl, rfl⟩
  · refine ⟨?_, ?_⟩
    · rw [pk_un (show 2 * i ≠ 2 * s.1 + 1 by omega), pk_un (show 2 * i ≠ 2 * s.1 by omega), pk_un e]; exact (h i (by omega)).1
    · rw [pk_un (show 2 * i + 1 ≠ 2 * s.1 + 1 by omega), pk_un (show 2 * i + 1 ≠ 2 * s.1 by omega), pk_un e]; exact (h i (by omega)).2
theorem mb_s (h : PH) (m : Nat) (nb : Nat → Int32) (n a : Nat) (bd bk : Int32) (op : Nat) (g : Nat → Int32) : hp_sI (mrS (hp_sI h (m + 17) nb) m n a bd bk op) (m + 17) g = mrS (hp_sI h (m + 17) g) m n a bd bk op := by
  refine hp_ext rfl (fun _ => rfl) (fun _ _ => rfl) (fun x => ?_) (fun _ => rfl)
  show (if x = m + 17 then g else if x = m + 17 then nb else hp_I h x) = if x = m + 17 then g else hp_I h x
  by_cases e : x = m + 17
  · rw [if_pos e, if_pos e]
  · rw [if_neg e, if_neg e, if_neg e]
set_option maxHeartbeats 4000000 in
set_option maxRecDepth 100000 in
theorem l_Mb_in {l : Launch} {Z : EE} (hst : l.stackTraces = false) {h : PH} {m : Nat} (hM : ModS h m) {tf : Nat → Int32} (htf : hp_I h (m + 2) = tf) {T : Nat → Nat} (hB : BT tf T) {n : Nat} (hn : n ≤ 600) (bk : Int32) (s : BKt) (hs : s.1 ≤ 8) (nb : Nat → Int32) (hmr : MbR s nb) (a pl v : Nat) (hpl : pl < 2 ^ 31) {Post : Res → PH → Prop} : ∀ (c i : Nat), i + c = s.1 → (anF (fun i => s.2.1 i == nI v) c i = false → WW l Z m_X11_book 3 0 0 116 [.ref m, .int (nI n), .int (nI s.1), .int (nI pl), .int (nI v), UU] [] (mrS (hp_sI h (m + 17) nb) m n a (-1) bk 0) Post) → (anF (fun i => s.2.1 i == nI v) c i = true → WW l Z m_X11_book 3 0 0 116 [.ref m, .int (nI n), .int (nI s.1), .int (nI pl), .int (nI v), UU] [] (mrS (hp_sI h (m + 17) nb) m n a (nI pl) (nI 2) 0) Post) → WW l Z m_X11_book 3 0 0 77 [.ref m, .int (nI n), .int (nI s.1), .int (nI pl), .int (nI v), .int (nI i)] [] (mrS (hp_sI h (m + 17) nb) m n a (-1) bk 0) Post := by
  intro c
  induction c with
  | zero =>
    intro i hi h0 h1
    refine ww_iload dX11_book_77 rfl ?_
    refine ww_iload_n dX11_book_79 rfl rfl ?_
    refine ww_icmp_geN (tgt := 116) dX11_book_80 (by decide) (by omega) (by omega) (fun c80 => ?_) (fun c80 => ?_)
    · refine ww_fg (lv2 := [.ref m, .int (nI n), .int (nI s.1), .int (nI pl), .int (nI v), UU]) ⟨Or.inr rfl, Or.inr rfl, Or.inr rfl, Or.inr rfl, Or.inr rfl, Or.inl rfl, trivial⟩ ?_
      exact h0 rfl
    · exfalso; omega
  | succ c ih =>
    intro i hi h0 h1
    refine ww_iload dX11_book_77 rfl ?_
    refine ww_iload_n dX11_book_79 rfl rfl ?_
    refine ww_icmp_geN (tgt := 116) dX11_book_80 (by decide) (by omega) (by omega) (fun c80 => ?_) (fun c80 => ?_)
    · exfalso; omega
    · refine ww_aload_n dX11_book_83 rfl rfl ?_
      refine ww_cVr (M := m_X11_book) (pc := 84) (v := .int (nI 1)) (h1 := mrS (hp_sI h (m + 17) nb) m n a (-1) bk 0) (st := []) (d := 3) (bc := 0) (bs := 0) (c_MR_fine_t hst (ModS.sI (a := m + 17) (f := nb) hM) (hp_I_nx (f := nb) (show m + 2 ≠ m + 17 by omega) htf) hB hn a bk 0) vv_X11_fine dX11_book_84 wg_1421 ((ModS.sI (a := m + 17) (f := nb) hM).K0) rfl rfl rfl rfl (Nat.le_of_ble_eq_true rfl) (Nat.le_of_ble_eq_true rfl) (Nat.le_of_ble_eq_true rfl) (Nat.le_of_ble_eq_true rfl) ?_
      refine ww_if_eqN (tgt := 116) dX11_book_87 (by decide) (by omega) (fun c87 => ?_) (fun c87 => ?_)
      · exact absurd c87 (by decide)
      · refine ww_aload_n dX11_book_90 rfl rfl ?_
        refine ww_get 36 dX11_book_91 ((ModS.sI (a := m + 17) (f := nb) hM).K0) rfl (by decide) inX11 wg_1276 (mrS_j _ _ _ _ _ (by decide) (ModS.sI (a := m + 17) (f := nb) hM).F17) ?_
        refine ww_iconst (v := nI 2) dX11_book_94 (by decide) ?_
        refine ww_iload dX11_book_95 rfl ?_
        refine ww_imulN dX11_book_97 ?_
        refine ww_ialdF dX11_book_98 ((ModS.sI (a := m + 17) (f := nb) hM).K17) (hp_I_eq h (m + 17) nb) (by omega) (by omega) ?_
        refine ww_iload dX11_book_99 rfl ?_
        refine ww_icmp_ne (tgt := 110) dX11_book_101 (by decide) (fun c101 => ?_) (fun c101 => ?_)
        · refine ww_incN (c := 1) (lv2 := [.ref m, .int (nI n), .int (nI s.1), .int (nI pl), .int (nI v), .int (nI (i + 1))]) dX11_book_110 rfl rfl rfl (by decide) rfl ?_
          refine ww_goto (tgt := 77) dX11_book_113 (by decide) ?_
          have hne : ¬ (s.2.1 i == nI v) = true := fun e => c101 (by rw [(hmr i (by omega)).1]; exact eq_of_beq e)
          exact ih (i + 1) (by omega) (fun e => h0 (by rw [anF_f hne]; exact e)) (fun e => h1 (by rw [anF_f hne]; exact e))
        · refine ww_aload_n dX11_book_104 rfl rfl ?_
          refine ww_iconst (v := nI 2) dX11_book_105 (by decide) ?_
          refine ww_iload_n dX11_book_106 rfl rfl ?_
          refine ww_cV0 (M := m_X11_book) (pc := 107) (h1 := mrS (hp_sI h (m + 17) nb) m n a (nI pl) (nI 2) 0) (st := []) (d := 3) (bc := 0) (bs := 0) (c_MR_wrong_t hst (ModS.sI (a := m + 17) (f := nb) hM) (hp_I_nx (f := nb) (show m + 2 ≠ m + 17 by omega) htf) hB hn a bk 0 (nI 2) (nI pl)) vv_X11_wrong dX11_book_107 wg_1448 ((ModS.sI (a := m + 17) (f := nb) hM).K0) rfl rfl rfl rfl (Nat.le_of_ble_eq_true rfl) (Nat.le_of_ble_eq_true rfl) (Nat.le_of_ble_eq_true rfl) (Nat.le_of_ble_eq_true rfl) ?_
          refine ww_incN (c := 1) (lv2 := [.ref m, .int (nI n), .int (nI s.1), .int (nI pl), .int (nI v), .int (nI (i + 1))]) dX11_book_110 rfl rfl rfl (by decide) rfl ?_
          refine ww_goto (tgt := 77) dX11_book_113 (by decide) ?_
          refine ww_iload dX11_book_77 rfl ?_
          refine ww_iload_n dX11_book_79 rfl rfl ?_
          refine ww_icmp_geN (tgt := 116) dX11_book_80 (by decide) (by omega) (by omega) (fun c80 => ?_) (fun c80 => ?_)
          · refine ww_fg (lv2 := [.ref m, .int (nI n), .int (nI s.1), .int (nI pl), .int (nI v), UU]) ⟨Or.inr rfl, Or.inr rfl, Or.inr rfl, Or.inr rfl, Or.inr rfl, Or.inl rfl, trivial⟩ ?_
            exact h1 (anF_t (show (s.2.1 i == nI v) = true from by rw [← (hmr i (by omega)).1, c101]; exact beq_self_eq_true _))
          · refine ww_aload_n dX11_book_83 rfl rfl ?_
            refine ww_cVr (M := m_X11_book) (pc := 84) (v := .int (nI 0)) (h1 := mrS (hp_sI h (m + 17) nb) m n a (nI pl) (nI 2) 0) (st := []) (d := 3) (bc := 0) (bs := 0) (c_MR_fine_f hst (ModS.sI (a := m + 17) (f := nb) hM) (hp_I_nx (f := nb) (show m + 2 ≠ m + 17 by omega) htf) hB hn a (nI 2) 0 pl (by omega)) vv_X11_fine dX11_book_84 wg_1421 ((ModS.sI (a := m + 17) (f := nb) hM).K0) rfl rfl rfl rfl (Nat.le_of_ble_eq_true rfl) (Nat.le_of_ble_eq_true rfl) (Nat.le_of_ble_eq_true rfl) (Nat.le_of_ble_eq_true rfl) ?_
            refine ww_if_eqN (tgt := 116) dX11_book_87 (by decide) (by omega) (fun c87 => ?_) (fun c87 => ?_)
            · refine ww_fg (lv2 := [.ref m, .int (nI n), .int (nI s.1), .int (nI pl), .int (nI v), UU]) ⟨Or.inr rfl, Or.inr rfl, Or.inr rfl, Or.inr rfl, Or.inr rfl, Or.inl rfl, trivial⟩ ?_
              exact h1 (anF_t (show (s.2.1 i == nI v) = true from by rw [← (hmr i (by omega)).1, c101]; exact beq_self_eq_true _))
            · exact absurd c87 (by decide)
set_option maxHeartbeats 4000000 in
set_option maxRecDepth 100000 in
theorem l_Mb_loop {l : Launch} {Z : EE} (hst : l.stackTraces = false) {h : PH} {m : Nat} (hM : ModS h m) {tf : Nat → Int32} (htf : hp_I h (m + 2) = tf) {T : Nat → Nat} (hB : BT tf T) {n : Nat} (hn : n ≤ 600) (bk : Int32) {Post : Res → PH → Prop} : ∀ (c : Nat) (s : BKt) (a : Nat) (nb : Nat → Int32), s.1 + c = 9 → BkG s → a ≤ n → MbR s nb → (∀ a9 s9 nb, bkL T n c s a = .inr (a9, s9) → MbR s9 nb → WW l Z m_X11_book 3 0 0 188 [.ref m, .int (nI n), .int (nI s9.1), UU, UU, UU] [] (mrS (hp_sI h (m + 17) nb) m n n (-1) bk 0) Post) → (∀ k9 q9 a9 nb mn, bkL T n c s a = .inl (k9, q9) → a9 ≤ n → mn ≤ 8 → WW l Z m_X11_book 3 0 0 188 [.ref m, .int (nI n), .int (nI mn), UU, UU, UU] [] (mrS (hp_sI h (m + 17) nb) m n a9 (nI q9) (nI k9) 0) Post) → WW l Z m_X11_book 3 0 0 46 [.ref m, .int (nI n), .int (nI s.1), UU, UU, UU] [] (mrS (hp_sI h (m + 17) nb) m n a (-1) bk 0) Post := by
  intro c
  induction c with
  | zero =>
    intro s a nb hc hs ha hmr hR hL
    have h9 := hs.1
    omega
  | succ c ih =>
    intro s a nb hc hs ha hmr hR hL
    have hs8 := hs.1
    refine ww_aload_n dX11_book_46 rfl rfl ?_
    refine ww_cVr (M := m_X11_book) (pc := 47) (v := .int (nI 1)) (h1 := mrS (hp_sI h (m + 17) nb) m n a (-1) bk 0) (st := []) (d := 3) (bc := 0) (bs := 0) (c_MR_fine_t hst (ModS.sI (a := m + 17) (f := nb) hM) (hp_I_nx (f := nb) (show m + 2 ≠ m + 17 by omega) htf) hB hn a bk 0) vv_X11_fine dX11_book_47 wg_1421 ((ModS.sI (a := m + 17) (f := nb) hM).K0) rfl rfl rfl rfl (Nat.le_of_ble_eq_true rfl) (Nat.le_of_ble_eq_true rfl) (Nat.le_of_ble_eq_true rfl) (Nat.le_of_ble_eq_true rfl) ?_
    refine ww_if_eqN (tgt := 188) dX11_book_50 (by decide) (by omega) (fun c50 => ?_) (fun c50 => ?_)
    · exact absurd c50 (by decide)
    · refine ww_aload_n dX11_book_53 rfl rfl ?_
      have hsl5001 := sk_le (T := T) (show a ≤ n by omega)
      by_cases hl5001 : sk T n a < n
      · refine ww_cVr (M := m_X11_book) (pc := 54) (v := .int (nI 1)) (h1 := mrS (hp_sI h (m + 17) nb) m n (sk T n a) (-1) bk 0) (st := []) (d := 3) (bc := 0) (bs := 0) (c_MR_more_t hst (ModS.sI (a := m + 17) (f := nb) hM) (hp_I_nx (f := nb) (show m + 2 ≠ m + 17 by omega) htf) hB hn (-1) bk 0 a (by omega) hl5001) vv_X11_isMore dX11_book_54 wg_1425 ((ModS.sI (a := m + 17) (f := nb) hM).K0) rfl rfl rfl rfl (Nat.le_of_ble_eq_true rfl) (Nat.le_of_ble_eq_true rfl) (Nat.le_of_ble_eq_true rfl) (Nat.le_of_ble_eq_true rfl) ?_
        refine ww_if_eqN (tgt := 188) dX11_book_57 (by decide) (by omega) (fun c57 => ?_) (fun c57 => ?_)
        · exact absurd c57 (by decide)
        · refine ww_aload_n dX11_book_60 rfl rfl ?_
          refine ww_get 4 dX11_book_61 ((ModS.sI (a := m + 17) (f := nb) hM).K0) rfl (by decide) inX11 wg_1244 (mrS_4 _ _ _ _ _ _ _) ?_
          refine ww_sti_n (lv2 := [.ref m, .int (nI n), .int (nI s.1), .int (nI (sk T n a)), UU, UU]) dX11_book_64 rfl rfl (by decide) rfl ?_
          refine ww_aload_n dX11_book_65 rfl rfl ?_
          refine ww_iconst (v := nI 0) dX11_book_66 (by decide) ?_
          refine ww_bipush (v := nI 60) dX11_book_67 (by decide) ?_
          rcases hr5002 : figS T n 0 61 (sk T n a) with ⟨k5002, q5002⟩ | ⟨a5002, v5002⟩
          · have hf5002 := (figS_l hr5002).1
            have hq5002 := figS_lq (by omega) hr5002
            refine ww_cVq (M := m_X11_book) (pc := 69) (v := .int (nI 0)) (st := []) (d := 3) (bc := 0) (bs := 0) (c_MR_num_l hst (ModS.sI (a := m + 17) (f := nb) hM) (hp_I_nx (f := nb) (show m + 2 ≠ m + 17 by omega) htf) hB hn (sk T n a) bk 0 (by omega) 0 61 (nI 60) (by omega) (by omega) (hi_c 60 (by decide)) hr5002) vv_X11_readNumber dX11_book_69 wg_1460 ((ModS.sI (a := m + 17) (f := nb) hM).K0) rfl rfl rfl rfl (Nat.le_of_ble_eq_true rfl) (Nat.le_of_ble_eq_true rfl) (Nat.le_of_ble_eq_true rfl) (Nat.le_of_ble_eq_true rfl) (fun hx5002h qx5002 => ?_)
            obtain ⟨x5002, hx5002, rfl⟩ := qx5002
            refine ww_sti (lv2 := [.ref m, .int (nI n), .int (nI s.1), .int (nI (sk T n a)), .int (nI 0), UU]) dX11_book_72 rfl (by decide) rfl ?_
            refine ww_iconst (v := nI 0) dX11_book_74 (by decide) ?_
            refine ww_sti (lv2 := [.ref m, .int (nI n), .int (nI s.1), .int (nI (sk T n a)), .int (nI 0), .int (nI 0)]) dX11_book_75 rfl (by decide) rfl ?_
            refine ww_iload dX11_book_77 rfl ?_
            refine ww_iload_n dX11_book_79 rfl rfl ?_
            refine ww_icmp_geN (tgt := 116) dX11_book_80 (by decide) (by omega) (by omega) (fun c80 => ?_) (fun c80 => ?_)
            · refine ww_aload_n dX11_book_116 rfl rfl ?_
              refine ww_cVr (M := m_X11_book) (pc := 117) (v := .int (nI 0)) (h1 := mrS (hp_sI h (m + 17) nb) m n x5002 (nI q5002) (nI k5002) 0) (st := []) (d := 3) (bc := 0) (bs := 0) (c_MR_fine_f hst (ModS.sI (a := m + 17) (f := nb) hM) (hp_I_nx (f := nb) (show m + 2 ≠ m + 17 by omega) htf) hB hn x5002 (nI k5002) 0 q5002 (by omega)) vv_X11_fine dX11_book_117 wg_1421 ((ModS.sI (a := m + 17) (f := nb) hM).K0) rfl rfl rfl rfl (Nat.le_of_ble_eq_true rfl) (Nat.le_of_ble_eq_true rfl) (Nat.le_of_ble_eq_true rfl) (Nat.le_of_ble_eq_true rfl) ?_
              refine ww_if_eqN (tgt := 135) dX11_book_120 (by decide) (by omega) (fun c120 => ?_) (fun c120 => ?_)
              · refine ww_aload_n dX11_book_135 rfl rfl ?_
                refine ww_iconst (v := nI 1) dX11_book_136 (by decide) ?_
                refine ww_bipush (v := nI 30) dX11_book_137 (by decide) ?_
                refine ww_cVr (M := m_X11_book) (pc := 139) (v := .int (nI 0)) (h1 := mrS (hp_sI h (m + 17) nb) m n x5002 (nI q5002) (nI k5002) 0) (st := []) (d := 3) (bc := 0) (bs := 0) (c_MR_num_f hst (ModS.sI (a := m + 17) (f := nb) hM) (hp_I_nx (f := nb) (show m + 2 ≠ m + 17 by omega) htf) hB hn x5002 (nI k5002) 0 q5002 (by omega) 1 (nI 30)) vv_X11_readNumber dX11_book_139 wg_1460 ((ModS.sI (a := m + 17) (f := nb) hM).K0) rfl rfl rfl rfl (Nat.le_of_ble_eq_true rfl) (Nat.le_of_ble_eq_true rfl) (Nat.le_of_ble_eq_true rfl) (Nat.le_of_ble_eq_true rfl) ?_
                refine ww_sti (lv2 := [.ref m, .int (nI n), .int (nI s.1), .int (nI (sk T n a)), .int (nI 0), .int (nI 0)]) dX11_book_142 rfl (by decide) rfl ?_
                refine ww_aload_n dX11_book_144 rfl rfl ?_
                refine ww_bipush (v := nI 59) dX11_book_145 (by decide) ?_
                refine ww_cV0 (M := m_X11_book) (pc := 147) (h1 := mrS (hp_sI h (m + 17) nb) m n x5002 (nI q5002) (nI k5002) 0) (st := []) (d := 3) (bc := 0) (bs := 0) (c_MR_sign_f hst (ModS.sI (a := m + 17) (f := nb) hM) (hp_I_nx (f := nb) (show m + 2 ≠ m + 17 by omega) htf) hB hn x5002 (nI k5002) 0 q5002 (by omega) 59) vv_X11_sign dX11_book_147 wg_1467 ((ModS.sI (a := m + 17) (f := nb) hM).K0) rfl rfl rfl rfl (Nat.le_of_ble_eq_true rfl) (Nat.le_of_ble_eq_true rfl) (Nat.le_of_ble_eq_true rfl) (Nat.le_of_ble_eq_true rfl) ?_
                refine ww_aload_n dX11_book_150 rfl rfl ?_
                refine ww_cVr (M := m_X11_book) (pc := 151) (v := .int (nI 0)) (h1 := mrS (hp_sI h (m + 17) nb) m n x5002 (nI q5002) (nI k5002) 0) (st := []) (d := 3) (bc := 0) (bs := 0) (c_MR_fine_f hst (ModS.sI (a := m + 17) (f := nb) hM) (hp_I_nx (f := nb) (show m + 2 ≠ m + 17 by omega) htf) hB hn x5002 (nI k5002) 0 q5002 (by omega)) vv_X11_fine dX11_book_151 wg_1421 ((ModS.sI (a := m + 17) (f := nb) hM).K0) rfl rfl rfl rfl (Nat.le_of_ble_eq_true rfl) (Nat.le_of_ble_eq_true rfl) (Nat.le_of_ble_eq_true rfl) (Nat.le_of_ble_eq_true rfl) ?_
                refine ww_if_neN (tgt := 160) dX11_book_154 (by decide) (by omega) (fun c154 => ?_) (fun c154 => ?_)
                · exact absurd c154 (by decide)
                · refine ww_goto (tgt := 188) dX11_book_157 (by decide) ?_
                  refine ww_fg (lv2 := [.ref m, .int (nI n), .int (nI s.1), UU, UU, UU]) ⟨Or.inr rfl, Or.inr rfl, Or.inr rfl, Or.inl rfl, Or.inl rfl, Or.inl rfl, trivial⟩ ?_
                  have hcl : blS T n s (sk T n a) = .inl (k5002, q5002) := (blS_l hr5002)
                  exact hL _ _ _ _ _ (by rw [bkL_i (by assumption), hcl, bS_l]) (by omega) (by omega)
              · exact absurd c120 (by decide)
            · refine ww_aload_n dX11_book_83 rfl rfl ?_
              refine ww_cVr (M := m_X11_book) (pc := 84) (v := .int (nI 0)) (h1 := mrS (hp_sI h (m + 17) nb) m n x5002 (nI q5002) (nI k5002) 0) (st := []) (d := 3) (bc := 0) (bs := 0) (c_MR_fine_f hst (ModS.sI (a := m + 17) (f := nb) hM) (hp_I_nx (f := nb) (show m + 2 ≠ m + 17 by omega) htf) hB hn x5002 (nI k5002) 0 q5002 (by omega)) vv_X11_fine dX11_book_84 wg_1421 ((ModS.sI (a := m + 17) (f := nb) hM).K0) rfl rfl rfl rfl (Nat.le_of_ble_eq_true rfl) (Nat.le_of_ble_eq_true rfl) (Nat.le_of_ble_eq_true rfl) (Nat.le_of_ble_eq_true rfl) ?_
              refine ww_if_eqN (tgt := 116) dX11_book_87 (by decide) (by omega) (fun c87 => ?_) (fun c87 => ?_)
              · refine ww_aload_n dX11_book_116 rfl rfl ?_
                refine ww_cVr (M := m_X11_book) (pc := 117) (v := .int (nI 0)) (h1 := mrS (hp_sI h (m + 17) nb) m n x5002 (nI q5002) (nI k5002) 0) (st := []) (d := 3) (bc := 0) (bs := 0) (c_MR_fine_f hst (ModS.sI (a := m + 17) (f := nb) hM) (hp_I_nx (f := nb) (show m + 2 ≠ m + 17 by omega) htf) hB hn x5002 (nI k5002) 0 q5002 (by omega)) vv_X11_fine dX11_book_117 wg_1421 ((ModS.sI (a := m + 17) (f := nb) hM).K0) rfl rfl rfl rfl (Nat.le_of_ble_eq_true rfl) (Nat.le_of_ble_eq_true rfl) (Nat.le_of_ble_eq_true rfl) (Nat.le_of_ble_eq_true rfl) ?_
                refine ww_if_eqN (tgt := 135) dX11_book_120 (by decide) (by omega) (fun c120 => ?_) (fun c120 => ?_)
                · refine ww_aload_n dX11_book_135 rfl rfl ?_
                  refine ww_iconst (v := nI 1) dX11_book_136 (by decide) ?_
                  refine ww_bipush (v := nI 30) dX11_book_137 (by decide) ?_
                  refine ww_cVr (M := m_X11_book) (pc := 139) (v := .int (nI 0)) (h1 := mrS (hp_sI h (m + 17) nb) m n x5002 (nI q5002) (nI k5002) 0) (st := []) (d := 3) (bc := 0) (bs := 0) (c_MR_num_f hst (ModS.sI (a := m + 17) (f := nb) hM) (hp_I_nx (f := nb) (show m + 2 ≠ m + 17 by omega) htf) hB hn x5002 (nI k5002) 0 q5002 (by omega) 1 (nI 30)) vv_X11_readNumber dX11_book_139 wg_1460 ((ModS.sI (a := m + 17) (f := nb) hM).K0) rfl rfl rfl rfl (Nat.le_of_ble_eq_true rfl) (Nat.le_of_ble_eq_true rfl) (Nat.le_of_ble_eq_true rfl) (Nat.le_of_ble_eq_true rfl) ?_
                  refine ww_sti (lv2 := [.ref m, .int (nI n), .int (nI s.1), .int (nI (sk T n a)), .int (nI 0), .int (nI 0)]) dX11_book_142 rfl (by decide) rfl ?_
                  refine ww_aload_n dX11_book_144 rfl rfl ?_
                  refine ww_bipush (v := nI 59) dX11_book_145 (by decide) ?_
                  refine ww_cV0 (M := m_X11_book) (pc := 147) (h1 := mrS (hp_sI h (m + 17) nb) m n x5002 (nI q5002) (nI k5002) 0) (st := []) (d := 3) (bc := 0) (bs := 0) (c_MR_sign_f hst (ModS.sI (a := m + 17) (f := nb) hM) (hp_I_nx (f := nb) (show m + 2 ≠ m + 17 by omega) htf) hB hn x5002 (nI k5002) 0 q5002 (by omega) 59) vv_X11_sign dX11_book_147 wg_1467 ((ModS.sI (a := m + 17) (f := nb) hM).K0) rfl rfl rfl rfl (Nat.le_of_ble_eq_true rfl) (Nat.le_of_ble_eq_true rfl) (Nat.le_of_ble_eq_true rfl) (Nat.le_of_ble_eq_true rfl) ?_
                  refine ww_aload_n dX11_book_150 rfl rfl ?_
                  refine ww_cVr (M := m_X11_book) (pc := 151) (v := .int (nI 0)) (h1 := mrS (hp_sI h (m + 17) nb) m n x5002 (nI q5002) (nI k5002) 0) (st := []) (d := 3) (bc := 0) (bs := 0) (c_MR_fine_f hst (ModS.sI (a := m + 17) (f := nb) hM) (hp_I_nx (f := nb) (show m + 2 ≠ m + 17 by omega) htf) hB hn x5002 (nI k5002) 0 q5002 (by omega)) vv_X11_fine dX11_book_151 wg_1421 ((ModS.sI (a := m + 17) (f := nb) hM).K0) rfl rfl rfl rfl (Nat.le_of_ble_eq_true rfl) (Nat.le_of_ble_eq_true rfl) (Nat.le_of_ble_eq_true rfl) (Nat.le_of_ble_eq_true rfl) ?_
                  refine ww_if_neN (tgt := 160) dX11_book_154 (by decide) (by omega) (fun c154 => ?_) (fun c154 => ?_)
                  · exact absurd c154 (by decide)
                  · refine ww_goto (tgt := 188) dX11_book_157 (by decide) ?_
                    refine ww_fg (lv2 := [.ref m, .int (nI n), .int (nI s.1), UU, UU, UU]) ⟨Or.inr rfl, Or.inr rfl, Or.inr rfl, Or.inl rfl, Or.inl rfl, Or.inl rfl, trivial⟩ ?_
                    have hcl : blS T n s (sk T n a) = .inl (k5002, q5002) := (blS_l hr5002)
                    exact hL _ _ _ _ _ (by rw [bkL_i (by assumption), hcl, bS_l]) (by omega) (by omega)
                · exact absurd c120 (by decide)
              · exact absurd c87 (by decide)
          · have hf5002 := figS_r (by omega) hr5002
            have hg5002 := sk_ge (T := T) (show sk T n a ≤ n by omega)
            refine ww_cVr (M := m_X11_book) (pc := 69) (v := .int (nI v5002)) (h1 := mrS (hp_sI h (m + 17) nb) m n a5002 (-1) bk 0) (st := []) (d := 3) (bc := 0) (bs := 0) (c_MR_num_r hst (ModS.sI (a := m + 17) (f := nb) hM) (hp_I_nx (f := nb) (show m + 2 ≠ m + 17 by omega) htf) hB hn (sk T n a) bk 0 (by omega) 0 61 (nI 60) (by omega) (by omega) (hi_c 60 (by decide)) hr5002) vv_X11_readNumber dX11_book_69 wg_1460 ((ModS.sI (a := m + 17) (f := nb) hM).K0) rfl rfl rfl rfl (Nat.le_of_ble_eq_true rfl) (Nat.le_of_ble_eq_true rfl) (Nat.le_of_ble_eq_true rfl) (Nat.le_of_ble_eq_true rfl) ?_
            refine ww_sti (lv2 := [.ref m, .int (nI n), .int (nI s.1), .int (nI (sk T n a)), .int (nI v5002), UU]) dX11_book_72 rfl (by decide) rfl ?_
            refine ww_iconst (v := nI 0) dX11_book_74 (by decide) ?_
            refine ww_sti (lv2 := [.ref m, .int (nI n), .int (nI s.1), .int (nI (sk T n a)), .int (nI v5002), .int (nI 0)]) dX11_book_75 rfl (by decide) rfl ?_
            refine l_Mb_in hst hM htf hB hn bk s hs8 nb hmr a5002 (sk T n a) v5002 (by omega) s.1 0 (by omega) (fun hdup => ?_) (fun hdup => ?_)
            · have hdup : hdF s v5002 = false := hdup
              refine ww_aload_n dX11_book_116 rfl rfl ?_
              refine ww_cVr (M := m_X11_book) (pc := 117) (v := .int (nI 1)) (h1 := mrS (hp_sI h (m + 17) nb) m n a5002 (-1) bk 0) (st := []) (d := 3) (bc := 0) (bs := 0) (c_MR_fine_t hst (ModS.sI (a := m + 17) (f := nb) hM) (hp_I_nx (f := nb) (show m + 2 ≠ m + 17 by omega) htf) hB hn a5002 bk 0) vv_X11_fine dX11_book_117 wg_1421 ((ModS.sI (a := m + 17) (f := nb) hM).K0) rfl rfl rfl rfl (Nat.le_of_ble_eq_true rfl) (Nat.le_of_ble_eq_true rfl) (Nat.le_of_ble_eq_true rfl) (Nat.le_of_ble_eq_true rfl) ?_
              refine ww_if_eqN (tgt := 135) dX11_book_120 (by decide) (by omega) (fun c120 => ?_) (fun c120 => ?_)
              · exact absurd c120 (by decide)
              · refine ww_iload_n dX11_book_123 rfl rfl ?_
                refine ww_bipush (v := nI 8) dX11_book_124 (by decide) ?_
                refine ww_icmp_neN (tgt := 135) dX11_book_126 (by decide) (by omega) (by omega) (fun c126 => ?_) (fun c126 => ?_)
                · refine ww_aload_n dX11_book_135 rfl rfl ?_
                  refine ww_iconst (v := nI 1) dX11_book_136 (by decide) ?_
                  refine ww_bipush (v := nI 30) dX11_book_137 (by decide) ?_
                  rcases hr5003 : figS T n 1 31 a5002 with ⟨k5003, q5003⟩ | ⟨a5003, v5003⟩
                  · have hf5003 := (figS_l hr5003).1
                    have hq5003 := figS_lq (by omega) hr5003
                    refine ww_cVq (M := m_X11_book) (pc := 139) (v := .int (nI 0)) (st := []) (d := 3) (bc := 0) (bs := 0) (c_MR_num_l hst (ModS.sI (a := m + 17) (f := nb) hM) (hp_I_nx (f := nb) (show m + 2 ≠ m + 17 by omega) htf) hB hn a5002 bk 0 (by omega) 1 31 (nI 30) (by omega) (by omega) (hi_c 30 (by decide)) hr5003) vv_X11_readNumber dX11_book_139 wg_1460 ((ModS.sI (a := m + 17) (f := nb) hM).K0) rfl rfl rfl rfl (Nat.le_of_ble_eq_true rfl) (Nat.le_of_ble_eq_true rfl) (Nat.le_of_ble_eq_true rfl) (Nat.le_of_ble_eq_true rfl) (fun hx5003h qx5003 => ?_)
                    obtain ⟨x5003, hx5003, rfl⟩ := qx5003
                    refine ww_sti (lv2 := [.ref m, .int (nI n), .int (nI s.1), .int (nI (sk T n a)), .int (nI v5002), .int (nI 0)]) dX11_book_142 rfl (by decide) rfl ?_
                    refine ww_aload_n dX11_book_144 rfl rfl ?_
                    refine ww_bipush (v := nI 59) dX11_book_145 (by decide) ?_
                    refine ww_cV0 (M := m_X11_book) (pc := 147) (h1 := mrS (hp_sI h (m + 17) nb) m n x5003 (nI q5003) (nI k5003) 0) (st := []) (d := 3) (bc := 0) (bs := 0) (c_MR_sign_f hst (ModS.sI (a := m + 17) (f := nb) hM) (hp_I_nx (f := nb) (show m + 2 ≠ m + 17 by omega) htf) hB hn x5003 (nI k5003) 0 q5003 (by omega) 59) vv_X11_sign dX11_book_147 wg_1467 ((ModS.sI (a := m + 17) (f := nb) hM).K0) rfl rfl rfl rfl (Nat.le_of_ble_eq_true rfl) (Nat.le_of_ble_eq_true rfl) (Nat.le_of_ble_eq_true rfl) (Nat.le_of_ble_eq_true rfl) ?_
                    refine ww_aload_n dX11_book_150 rfl rfl ?_
                    refine ww_cVr (M := m_X11_book) (pc := 151) (v := .int (nI 0)) (h1 := mrS (hp_sI h (m + 17) nb) m n x5003 (nI q5003) (nI k5003) 0) (st := []) (d := 3) (bc := 0) (bs := 0) (c_MR_fine_f hst (ModS.sI (a := m + 17) (f := nb) hM) (hp_I_nx (f := nb) (show m + 2 ≠ m + 17 by omega) htf) hB hn x5003 (nI k5003) 0 q5003 (by omega)) vv_X11_fine dX11_book_151 wg_1421 ((ModS.sI (a := m + 17) (f := nb) hM).K0) rfl rfl rfl rfl (Nat.le_of_ble_eq_true rfl) (Nat.le_of_ble_eq_true rfl) (Nat.le_of_ble_eq_true rfl) (Nat.le_of_ble_eq_true rfl) ?_
                    refine ww_if_neN (tgt := 160) dX11_book_154 (by decide) (by omega) (fun c154 => ?_) (fun c154 => ?_)
                    · exact absurd c154 (by decide)
                    · refine ww_goto (tgt := 188) dX11_book_157 (by decide) ?_
                      refine ww_fg (lv2 := [.ref m, .int (nI n), .int (nI s.1), UU, UU, UU]) ⟨Or.inr rfl, Or.inr rfl, Or.inr rfl, Or.inl rfl, Or.inl rfl, Or.inl rfl, trivial⟩ ?_
                      have hcl : blS T n s (sk T n a) = .inl (k5003, q5003) := (by rw [blS_r hr5002 hdup (by omega), hr5003, bS_l])
                      exact hL _ _ _ _ _ (by rw [bkL_i (by assumption), hcl, bS_l]) (by omega) (by omega)
                  · have hf5003 := figS_r (by omega) hr5003
                    have hg5003 := sk_ge (T := T) (show a5002 ≤ n by omega)
                    refine ww_cVr (M := m_X11_book) (pc := 139) (v := .int (nI v5003)) (h1 := mrS (hp_sI h (m + 17) nb) m n a5003 (-1) bk 0) (st := []) (d := 3) (bc := 0) (bs := 0) (c_MR_num_r hst (ModS.sI (a := m + 17) (f := nb) hM) (hp_I_nx (f := nb) (show m + 2 ≠ m + 17 by omega) htf) hB hn a5002 bk 0 (by omega) 1 31 (nI 30) (by omega) (by omega) (hi_c 30 (by decide)) hr5003) vv_X11_readNumber dX11_book_139 wg_1460 ((ModS.sI (a := m + 17) (f := nb) hM).K0) rfl rfl rfl rfl (Nat.le_of_ble_eq_true rfl) (Nat.le_of_ble_eq_true rfl) (Nat.le_of_ble_eq_true rfl) (Nat.le_of_ble_eq_true rfl) ?_
                    refine ww_sti (lv2 := [.ref m, .int (nI n), .int (nI s.1), .int (nI (sk T n a)), .int (nI v5002), .int (nI v5003)]) dX11_book_142 rfl (by decide) rfl ?_
                    refine ww_aload_n dX11_book_144 rfl rfl ?_
                    refine ww_bipush (v := nI 59) dX11_book_145 (by decide) ?_
                    rcases hr5004 : sgnS T n 59 a5003 with ⟨k5004, q5004⟩ | ⟨a5004, u5004⟩
                    · have hf5004 := (sgnS_l hr5004).1
                      have hq5004 := sgnS_lq (by omega) hr5004
                      have hsl5004 := sk_le (T := T) (show a5003 ≤ n by omega)
                      refine ww_cV0 (M := m_X11_book) (pc := 147) (h1 := mrS (hp_sI h (m + 17) nb) m n (sk T n a5003) (nI q5004) (nI k5004) 0) (st := []) (d := 3) (bc := 0) (bs := 0) (c_MR_sign_l hst (ModS.sI (a := m + 17) (f := nb) hM) (hp_I_nx (f := nb) (show m + 2 ≠ m + 17 by omega) htf) hB hn a5003 bk 0 (by omega) 59 (by omega) (by omega) hr5004) vv_X11_sign dX11_book_147 wg_1467 ((ModS.sI (a := m + 17) (f := nb) hM).K0) rfl rfl rfl rfl (Nat.le_of_ble_eq_true rfl) (Nat.le_of_ble_eq_true rfl) (Nat.le_of_ble_eq_true rfl) (Nat.le_of_ble_eq_true rfl) ?_
                      refine ww_aload_n dX11_book_150 rfl rfl ?_
                      refine ww_cVr (M := m_X11_book) (pc := 151) (v := .int (nI 0)) (h1 := mrS (hp_sI h (m + 17) nb) m n (sk T n a5003) (nI q5004) (nI k5004) 0) (st := []) (d := 3) (bc := 0) (bs := 0) (c_MR_fine_f hst (ModS.sI (a := m + 17) (f := nb) hM) (hp_I_nx (f := nb) (show m + 2 ≠ m + 17 by omega) htf) hB hn (sk T n a5003) (nI k5004) 0 q5004 (by omega)) vv_X11_fine dX11_book_151 wg_1421 ((ModS.sI (a := m + 17) (f := nb) hM).K0) rfl rfl rfl rfl (Nat.le_of_ble_eq_true rfl) (Nat.le_of_ble_eq_true rfl) (Nat.le_of_ble_eq_true rfl) (Nat.le_of_ble_eq_true rfl) ?_
                      refine ww_if_neN (tgt := 160) dX11_book_154 (by decide) (by omega) (fun c154 => ?_) (fun c154 => ?_)
                      · exact absurd c154 (by decide)
                      · refine ww_goto (tgt := 188) dX11_book_157 (by decide) ?_
                        refine ww_fg (lv2 := [.ref m, .int (nI n), .int (nI s.1), UU, UU, UU]) ⟨Or.inr rfl, Or.inr rfl, Or.inr rfl, Or.inl rfl, Or.inl rfl, Or.inl rfl, trivial⟩ ?_
                        have hcl : blS T n s (sk T n a) = .inl (k5004, q5004) := (by rw [blS_r hr5002 hdup (by omega), hr5003, bS_r, hr5004, bS_l])
                        exact hL _ _ _ _ _ (by rw [bkL_i (by assumption), hcl, bS_l]) (by omega) (by omega)
                    · have hf5004 := sgnS_r hr5004
                      have hg5004 := sk_ge (T := T) (show a5003 ≤ n by omega)
                      refine ww_cV0 (M := m_X11_book) (pc := 147) (h1 := mrS (hp_sI h (m + 17) nb) m n a5004 (-1) bk 0) (st := []) (d := 3) (bc := 0) (bs := 0) (c_MR_sign_r hst (ModS.sI (a := m + 17) (f := nb) hM) (hp_I_nx (f := nb) (show m + 2 ≠ m + 17 by omega) htf) hB hn a5003 bk 0 (by omega) 59 (by omega) (by omega) hr5004) vv_X11_sign dX11_book_147 wg_1467 ((ModS.sI (a := m + 17) (f := nb) hM).K0) rfl rfl rfl rfl (Nat.le_of_ble_eq_true rfl) (Nat.le_of_ble_eq_true rfl) (Nat.le_of_ble_eq_true rfl) (Nat.le_of_ble_eq_true rfl) ?_
                      refine ww_aload_n dX11_book_150 rfl rfl ?_
                      refine ww_cVr (M := m_X11_book) (pc := 151) (v := .int (nI 1)) (h1 := mrS (hp_sI h (m + 17) nb) m n a5004 (-1) bk 0) (st := []) (d := 3) (bc := 0) (bs := 0) (c_MR_fine_t hst (ModS.sI (a := m + 17) (f := nb) hM) (hp_I_nx (f := nb) (show m + 2 ≠ m + 17 by omega) htf) hB hn a5004 bk 0) vv_X11_fine dX11_book_151 wg_1421 ((ModS.sI (a := m + 17) (f := nb) hM).K0) rfl rfl rfl rfl (Nat.le_of_ble_eq_true rfl) (Nat.le_of_ble_eq_true rfl) (Nat.le_of_ble_eq_true rfl) (Nat.le_of_ble_eq_true rfl) ?_
                      refine ww_if_neN (tgt := 160) dX11_book_154 (by decide) (by omega) (fun c154 => ?_) (fun c154 => ?_)
                      · refine ww_aload_n dX11_book_160 rfl rfl ?_
                        refine ww_get 36 dX11_book_161 ((ModS.sI (a := m + 17) (f := nb) hM).K0) rfl (by decide) inX11 wg_1276 (mrS_j _ _ _ _ _ (by decide) (ModS.sI (a := m + 17) (f := nb) hM).F17) ?_
                        refine ww_iconst (v := nI 2) dX11_book_164 (by decide) ?_
                        refine ww_iload_n dX11_book_165 rfl rfl ?_
                        refine ww_imulN dX11_book_166 ?_
                        refine ww_iload dX11_book_167 rfl ?_
                        refine ww_iastF dX11_book_169 ((ModS.sI (a := m + 17) (f := nb) hM).K17) (hp_I_eq h (m + 17) nb) (by omega) (by omega) ?_
                        refine ww_hp (h2 := mrS (hp_sI h (m + 17) (upd nb (2 * s.1) (nI v5002))) m n a5004 (-1) bk 0) (mb_s _ _ _ _ _ _ _ _ _) ?_
                        refine ww_aload_n dX11_book_170 rfl rfl ?_
                        refine ww_get 36 dX11_book_171 ((ModS.sI (a := m + 17) (f := upd nb (2 * s.1) (nI v5002)) hM).K0) rfl (by decide) inX11 wg_1276 (mrS_j _ _ _ _ _ (by decide) (ModS.sI (a := m + 17) (f := upd nb (2 * s.1) (nI v5002)) hM).F17) ?_
                        refine ww_iconst (v := nI 2) dX11_book_174 (by decide) ?_
                        refine ww_iload_n dX11_book_175 rfl rfl ?_
                        refine ww_imulN dX11_book_176 ?_
                        refine ww_iconst (v := nI 1) dX11_book_177 (by decide) ?_
                        refine ww_iaddN dX11_book_178 ?_
                        refine ww_iload dX11_book_179 rfl ?_
                        refine ww_iastF dX11_book_181 ((ModS.sI (a := m + 17) (f := upd nb (2 * s.1) (nI v5002)) hM).K17) (hp_I_eq h (m + 17) (upd nb (2 * s.1) (nI v5002))) (by omega) (by omega) ?_
                        refine ww_hp (h2 := mrS (hp_sI h (m + 17) (upd (upd nb (2 * s.1) (nI v5002)) ((2 * s.1) + 1) (nI v5003))) m n a5004 (-1) bk 0) (mb_s _ _ _ _ _ _ _ _ _) ?_
                        refine ww_incN (c := 1) (lv2 := [.ref m, .int (nI n), .int (nI (s.1 + 1)), .int (nI (sk T n a)), .int (nI v5002), .int (nI v5003)]) dX11_book_182 rfl rfl rfl (by decide) rfl ?_
                        refine ww_goto (tgt := 46) dX11_book_185 (by decide) ?_
                        refine ww_fg (lv2 := [.ref m, .int (nI n), .int (nI (s.1 + 1)), UU, UU, UU]) ⟨Or.inr rfl, Or.inr rfl, Or.inr rfl, Or.inl rfl, Or.inl rfl, Or.inl rfl, trivial⟩ ?_
                        have hcl : blS T n s (sk T n a) = .inr (a5004, (s.1 + 1, upd s.2.1 s.1 (nI v5002), upd s.2.2 s.1 (nI v5003))) := by rw [blS_r hr5002 hdup (by omega), hr5003, bS_r, hr5004, bS_r]
                        have hG := blS_G hs (by omega) hcl
                        exact ih (s.1 + 1, upd s.2.1 s.1 (nI v5002), upd s.2.2 s.1 (nI v5003)) a5004 _ (by have h9 : ((s.1 + 1, upd s.2.1 s.1 (nI v5002), upd s.2.2 s.1 (nI v5003)) : BKt).1 = s.1 + 1 := rfl; omega) hG.1 (by omega) (hmr.up _ _) (fun a9 s9 nb e1 e2 => hR a9 s9 nb (by rw [bkL_i (by assumption), hcl, bS_r]; exact e1) e2) (fun k9 q9 a9 nb mn e1 e2 e3 => hL k9 q9 a9 nb mn (by rw [bkL_i (by assumption), hcl, bS_r]; exact e1) e2 e3)
                      · exact absurd c154 (by decide)
                · refine ww_aload_n dX11_book_129 rfl rfl ?_
                  refine ww_iconst (v := nI 3) dX11_book_130 (by decide) ?_
                  refine ww_iload_n dX11_book_131 rfl rfl ?_
                  refine ww_cV0 (M := m_X11_book) (pc := 132) (h1 := mrS (hp_sI h (m + 17) nb) m n a5002 (nI (sk T n a)) (nI 3) 0) (st := []) (d := 3) (bc := 0) (bs := 0) (c_MR_wrong_t hst (ModS.sI (a := m + 17) (f := nb) hM) (hp_I_nx (f := nb) (show m + 2 ≠ m + 17 by omega) htf) hB hn a5002 bk 0 (nI 3) (nI (sk T n a))) vv_X11_wrong dX11_book_132 wg_1448 ((ModS.sI (a := m + 17) (f := nb) hM).K0) rfl rfl rfl rfl (Nat.le_of_ble_eq_true rfl) (Nat.le_of_ble_eq_true rfl) (Nat.le_of_ble_eq_true rfl) (Nat.le_of_ble_eq_true rfl) ?_
                  refine ww_aload_n dX11_book_135 rfl rfl ?_
                  refine ww_iconst (v := nI 1) dX11_book_136 (by decide) ?_
                  refine ww_bipush (v := nI 30) dX11_book_137 (by decide) ?_
                  refine ww_cVr (M := m_X11_book) (pc := 139) (v := .int (nI 0)) (h1 := mrS (hp_sI h (m + 17) nb) m n a5002 (nI (sk T n a)) (nI 3) 0) (st := []) (d := 3) (bc := 0) (bs := 0) (c_MR_num_f hst (ModS.sI (a := m + 17) (f := nb) hM) (hp_I_nx (f := nb) (show m + 2 ≠ m + 17 by omega) htf) hB hn a5002 (nI 3) 0 (sk T n a) (by omega) 1 (nI 30)) vv_X11_readNumber dX11_book_139 wg_1460 ((ModS.sI (a := m + 17) (f := nb) hM).K0) rfl rfl rfl rfl (Nat.le_of_ble_eq_true rfl) (Nat.le_of_ble_eq_true rfl) (Nat.le_of_ble_eq_true rfl) (Nat.le_of_ble_eq_true rfl) ?_
                  refine ww_sti (lv2 := [.ref m, .int (nI n), .int (nI s.1), .int (nI (sk T n a)), .int (nI v5002), .int (nI 0)]) dX11_book_142 rfl (by decide) rfl ?_
                  refine ww_aload_n dX11_book_144 rfl rfl ?_
                  refine ww_bipush (v := nI 59) dX11_book_145 (by decide) ?_
                  refine ww_cV0 (M := m_X11_book) (pc := 147) (h1 := mrS (hp_sI h (m + 17) nb) m n a5002 (nI (sk T n a)) (nI 3) 0) (st := []) (d := 3) (bc := 0) (bs := 0) (c_MR_sign_f hst (ModS.sI (a := m + 17) (f := nb) hM) (hp_I_nx (f := nb) (show m + 2 ≠ m + 17 by omega) htf) hB hn a5002 (nI 3) 0 (sk T n a) (by omega) 59) vv_X11_sign dX11_book_147 wg_1467 ((ModS.sI (a := m + 17) (f := nb) hM).K0) rfl rfl rfl rfl (Nat.le_of_ble_eq_true rfl) (Nat.le_of_ble_eq_true rfl) (Nat.le_of_ble_eq_true rfl) (Nat.le_of_ble_eq_true rfl) ?_
                  refine ww_aload_n dX11_book_150 rfl rfl ?_
                  refine ww_cVr (M := m_X11_book) (pc := 151) (v := .int (nI 0)) (h1 := mrS (hp_sI h (m + 17) nb) m n a5002 (nI (sk T n a)) (nI 3) 0) (st := []) (d := 3) (bc := 0) (bs := 0) (c_MR_fine_f hst (ModS.sI (a := m + 17) (f := nb) hM) (hp_I_nx (f := nb) (show m + 2 ≠ m + 17 by omega) htf) hB hn a5002 (nI 3) 0 (sk T n a) (by omega)) vv_X11_fine dX11_book_151 wg_1421 ((ModS.sI (a := m + 17) (f := nb) hM).K0) rfl rfl rfl rfl (Nat.le_of_ble_eq_true rfl) (Nat.le_of_ble_eq_true rfl) (Nat.le_of_ble_eq_true rfl) (Nat.le_of_ble_eq_true rfl) ?_
                  refine ww_if_neN (tgt := 160) dX11_book_154 (by decide) (by omega) (fun c154 => ?_) (fun c154 => ?_)
                  · exact absurd c154 (by decide)
                  · refine ww_goto (tgt := 188) dX11_book_157 (by decide) ?_
                    refine ww_fg (lv2 := [.ref m, .int (nI n), .int (nI s.1), UU, UU, UU]) ⟨Or.inr rfl, Or.inr rfl, Or.inr rfl, Or.inl rfl, Or.inl rfl, Or.inl rfl, trivial⟩ ?_
                    have hcl : blS T n s (sk T n a) = .inl (3, (sk T n a)) := (by rw [blS_3 hr5002 hdup (by omega), sk_id (by omega)])
                    exact hL _ _ _ _ _ (by rw [bkL_i (by assumption), hcl, bS_l]) (by omega) (by omega)
            · have hdup : hdF s v5002 = true := hdup
              refine ww_aload_n dX11_book_116 rfl rfl ?_
              refine ww_cVr (M := m_X11_book) (pc := 117) (v := .int (nI 0)) (h1 := mrS (hp_sI h (m + 17) nb) m n a5002 (nI (sk T n a)) (nI 2) 0) (st := []) (d := 3) (bc := 0) (bs := 0) (c_MR_fine_f hst (ModS.sI (a := m + 17) (f := nb) hM) (hp_I_nx (f := nb) (show m + 2 ≠ m + 17 by omega) htf) hB hn a5002 (nI 2) 0 (sk T n a) (by omega)) vv_X11_fine dX11_book_117 wg_1421 ((ModS.sI (a := m + 17) (f := nb) hM).K0) rfl rfl rfl rfl (Nat.le_of_ble_eq_true rfl) (Nat.le_of_ble_eq_true rfl) (Nat.le_of_ble_eq_true rfl) (Nat.le_of_ble_eq_true rfl) ?_
              refine ww_if_eqN (tgt := 135) dX11_book_120 (by decide) (by omega) (fun c120 => ?_) (fun c120 => ?_)
              · refine ww_aload_n dX11_book_135 rfl rfl ?_
                refine ww_iconst (v := nI 1) dX11_book_136 (by decide) ?_
                refine ww_bipush (v := nI 30) dX11_book_137 (by decide) ?_
                refine ww_cVr (M := m_X11_book) (pc := 139) (v := .int (nI 0)) (h1 := mrS (hp_sI h (m + 17) nb) m n a5002 (nI (sk T n a)) (nI 2) 0) (st := []) (d := 3) (bc := 0) (bs := 0) (c_MR_num_f hst (ModS.sI (a := m + 17) (f := nb) hM) (hp_I_nx (f := nb) (show m + 2 ≠ m + 17 by omega) htf) hB hn a5002 (nI 2) 0 (sk T n a) (by omega) 1 (nI 30)) vv_X11_readNumber dX11_book_139 wg_1460 ((ModS.sI (a := m + 17) (f := nb) hM).K0) rfl rfl rfl rfl (Nat.le_of_ble_eq_true rfl) (Nat.le_of_ble_eq_true rfl) (Nat.le_of_ble_eq_true rfl) (Nat.le_of_ble_eq_true rfl) ?_
                refine ww_sti (lv2 := [.ref m, .int (nI n), .int (nI s.1), .int (nI (sk T n a)), .int (nI v5002), .int (nI 0)]) dX11_book_142 rfl (by decide) rfl ?_
                refine ww_aload_n dX11_book_144 rfl rfl ?_
                refine ww_bipush (v := nI 59) dX11_book_145 (by decide) ?_
                refine ww_cV0 (M := m_X11_book) (pc := 147) (h1 := mrS (hp_sI h (m + 17) nb) m n a5002 (nI (sk T n a)) (nI 2) 0) (st := []) (d := 3) (bc := 0) (bs := 0) (c_MR_sign_f hst (ModS.sI (a := m + 17) (f := nb) hM) (hp_I_nx (f := nb) (show m + 2 ≠ m + 17 by omega) htf) hB hn a5002 (nI 2) 0 (sk T n a) (by omega) 59) vv_X11_sign dX11_book_147 wg_1467 ((ModS.sI (a := m + 17) (f := nb) hM).K0) rfl rfl rfl rfl (Nat.le_of_ble_eq_true rfl) (Nat.le_of_ble_eq_true rfl) (Nat.le_of_ble_eq_true rfl) (Nat.le_of_ble_eq_true rfl) ?_
                refine ww_aload_n dX11_book_150 rfl rfl ?_
                refine ww_cVr (M := m_X11_book) (pc := 151) (v := .int (nI 0)) (h1 := mrS (hp_sI h (m + 17) nb) m n a5002 (nI (sk T n a)) (nI 2) 0) (st := []) (d := 3) (bc := 0) (bs := 0) (c_MR_fine_f hst (ModS.sI (a := m + 17) (f := nb) hM) (hp_I_nx (f := nb) (show m + 2 ≠ m + 17 by omega) htf) hB hn a5002 (nI 2) 0 (sk T n a) (by omega)) vv_X11_fine dX11_book_151 wg_1421 ((ModS.sI (a := m + 17) (f := nb) hM).K0) rfl rfl rfl rfl (Nat.le_of_ble_eq_true rfl) (Nat.le_of_ble_eq_true rfl) (Nat.le_of_ble_eq_true rfl) (Nat.le_of_ble_eq_true rfl) ?_
                refine ww_if_neN (tgt := 160) dX11_book_154 (by decide) (by omega) (fun c154 => ?_) (fun c154 => ?_)
                · exact absurd c154 (by decide)
                · refine ww_goto (tgt := 188) dX11_book_157 (by decide) ?_
                  refine ww_fg (lv2 := [.ref m, .int (nI n), .int (nI s.1), UU, UU, UU]) ⟨Or.inr rfl, Or.inr rfl, Or.inr rfl, Or.inl rfl, Or.inl rfl, Or.inl rfl, trivial⟩ ?_
                  have hcl : blS T n s (sk T n a) = .inl (2, (sk T n a)) := (by rw [blS_2 hr5002 hdup, sk_id (by omega)])
                  exact hL _ _ _ _ _ (by rw [bkL_i (by assumption), hcl, bS_l]) (by omega) (by omega)
              · exact absurd c120 (by decide)
      · refine ww_cVr (M := m_X11_book) (pc := 54) (v := .int (nI 0)) (h1 := mrS (hp_sI h (m + 17) nb) m n n (-1) bk 0) (st := []) (d := 3) (bc := 0) (bs := 0) (c_MR_more_f hst (ModS.sI (a := m + 17) (f := nb) hM) (hp_I_nx (f := nb) (show m + 2 ≠ m + 17 by omega) htf) hB hn (-1) bk 0 a (by omega) hl5001) vv_X11_isMore dX11_book_54 wg_1425 ((ModS.sI (a := m + 17) (f := nb) hM).K0) rfl rfl rfl rfl (Nat.le_of_ble_eq_true rfl) (Nat.le_of_ble_eq_true rfl) (Nat.le_of_ble_eq_true rfl) (Nat.le_of_ble_eq_true rfl) ?_
        refine ww_if_eqN (tgt := 188) dX11_book_57 (by decide) (by omega) (fun c57 => ?_) (fun c57 => ?_)
        · exact hR _ _ _ (by rw [bkL_e (by assumption), show sk T n a = n by omega]) hmr
        · exact absurd c57 (by decide)
