/-! ===== work, as the reference answers it ===== -/
def wk2 (T : Nat → Nat) (n : Nat) (r : PR AF) : PR AF := bS r (fun a W1 => if sk T n a < n then .inl (1, sk T n a) else .inr (n, W1))
theorem wk2_e (np : Nat) (T : Nat → Nat) (n : Nat) (W : AF) : wkS np T n W = wk2 T n (slS (spS np (inK np T n 6) T n) T n 38 0 W) := rfl
theorem spS_93 (np : Nat) (inner : Option (Nat → AF → PR AF)) {T : Nat → Nat} {n a : Nat} (W : AF) (h1 : sk T n a = a) (h2 : T a = 93) : spS np inner T n a W = .inl (1, a) := by
  have hw : wrdS wWork T n a = .inl (1, a) := by
    unfold wrdS
    rw [h1, sc_stop (fun e => by have e9 := leB_t.mp e.2; omega), fdW_end wWork 0 wWork_ne]
  unfold spS stS; rw [hw, bS_l, bS_l]
theorem ma_start (h : PH) (m n a : Nat) (bd bk : Int32) (op : Nat) : hp_sF (mrS h m n a bd bk op) m 27 (.int (nI 0)) = mrS (maS h m 0 (hp_I h (m + 12))) m n a bd bk op := by
  refine hp_ext rfl (fun _ => rfl) (fun x j => ?_) (fun x => ?_) (fun _ => rfl)
  · show (if x = m ∧ j = 27 then _ else hp_F (mrS h m n a bd bk op) x j) = _
    rw [mrS_F, mrS_F, maS_F]
    by_cases e : x = m ∧ j = 27
    · rw [if_pos e]
      repeat rw [if_neg (by omega)]
      rw [if_pos e]
    · rw [if_neg e, if_neg e]
  · show hp_I h x = hp_I (maS h m 0 (hp_I h (m + 12))) x
    rw [maS_I]
    by_cases e : x = m + 12
    · rw [if_pos e, e]
    · rw [if_neg e]
theorem same_ma {h : PH} {m : Nat} (c : Nat) (ns : Nat → Int32) (n a : Nat) (bd bk : Int32) (op : Nat) : Same (SX m) (STY m) h (mrS (maS h m c ns) m n a bd bk op) :=
  Same.mr (Same.sF (Same.sI Same.rf (SX_in (by decide))) (STY_j (by decide))) (fun j hj => STY_r hj) n a bd bk op
theorem c_Ma_K {l : Launch} {Z : EE} (hst : l.stackTraces = false) {h : PH} {m : Nat} (hM : ModS h m) {tf : Nat → Int32} (htf : hp_I h (m + 2) = tf) {T : Nat → Nat} (hB : BT tf T) {n : Nat} (hn : n ≤ 600) {np : Nat} (hnp : hp_F h m 15 = .int (nI np)) (hn6 : np ≤ 6) (hn5 : n ≤ 150) (bk : Int32) : ∀ (k op : Nat), op + k = 6 → ∀ (a : Nat) (W : AF) (ns : Nat → Int32), a ≤ n → sk T n a = a → 4 * W.1 ≤ a → RsR W ns → CC l Z m_X11_readStep (k + 5) 0 0 [.ref m] (mrS (maS h m (4 * W.1) ns) m n a (-1) bk op) (RQ none (MaO h m n bk op (spS np (inK np T n k) T n a W))) := by
  intro k
  induction k with
  | zero =>
    intro op ho a W ns ha hk hW hr
    exact c_Ma_step0 hst hM htf hB hn hnp hn6 hn5 (d := 5) (by omega) bk op (by omega) a W ns ha hk hW hr
  | succ k ih =>
    intro op ho a W ns ha hk hW hr
    exact c_Ma_step1 hst hM htf hB hn hnp hn6 hn5 (d := k + 5) (by omega) bk op (by omega) (inK_G np T n k) (ih (op + 1) (by omega)) a W ns ha hk hW hr
set_option maxHeartbeats 4000000 in
set_option maxRecDepth 100000 in
theorem l_Mw_top {l : Launch} {Z : EE} (hst : l.stackTraces = false) {h : PH} {m : Nat} (hM : ModS h m) {tf : Nat → Int32} (htf : hp_I h (m + 2) = tf) {T : Nat → Nat} (hB : BT tf T) {n : Nat} (hn : n ≤ 600) {np : Nat} (hnp : hp_F h m 15 = .int (nI np)) (hn6 : np ≤ 6) (hn5 : n ≤ 150) (bk : Int32) {Post : Res → PH → Prop} : ∀ (j a : Nat) (W : AF) (ns : Nat → Int32), a ≤ n → n < a + 4 * j → 4 * W.1 ≤ a → RsR W ns → (∀ V ns9, wk2 T n (slS (spS np (inK np T n 6) T n) T n j a W) = .inr (n, V) → RsR V ns9 → WW l Z m_X11_work 14 0 0 89 [.ref m, .int (nI n), UU, UU] [] (mrS (maS h m (4 * V.1) ns9) m n n (-1) bk 0) Post) → (∀ k q a9 c9 ns9, wk2 T n (slS (spS np (inK np T n 6) T n) T n j a W) = .inl (k, q) → q ≤ n → a9 ≤ n → WW l Z m_X11_work 14 0 0 89 [.ref m, .int (nI n), UU, UU] [] (mrS (maS h m c9 ns9) m n a9 (nI q) (nI k) 0) Post) → WW l Z m_X11_work 14 0 0 68 [.ref m, .int (nI n), UU, UU] [] (mrS (maS h m (4 * W.1) ns) m n a (-1) bk 0) Post := by
  intro j
  induction j with
  | zero => intro a W ns ha hfu; exfalso; omega
  | succ j ih =>
    intro a W ns ha hfu hW hrs hR hL
    have hT9 := (hB (sk T n a)).2
    have hs9 := sk_a (T := T) ha
    refine ww_aload_n dX11_work_68 rfl rfl ?_
    refine ww_cVr (M := m_X11_work) (pc := 69) (v := .int (nI 1)) (h1 := mrS (maS h m (4 * W.1) ns) m n a (-1) bk 0) (st := []) (d := 14) (bc := 0) (bs := 0) (c_MR_fine_t hst (maS_M hM (4 * W.1) ns) (maS_t (c := 4 * W.1) (ns := ns) htf) hB hn a bk 0) vv_X11_fine dX11_work_69 wg_1421 ((maS_M hM (4 * W.1) ns).K0) rfl rfl rfl rfl (by omega) (Nat.le_of_ble_eq_true rfl) (Nat.le_of_ble_eq_true rfl) (Nat.le_of_ble_eq_true rfl) ?_
    refine ww_if_eqN (tgt := 89) dX11_work_72 (by decide) (by omega) (fun c72 => ?_) (fun c72 => ?_)
    · exact absurd c72 (by decide)
    · refine ww_aload_n dX11_work_75 rfl rfl ?_
      have hsl5001 := sk_le (T := T) (show a ≤ n by omega)
      by_cases hl5001 : sk T n a < n
      · refine ww_cVr (M := m_X11_work) (pc := 76) (v := .int (nI 1)) (h1 := mrS (maS h m (4 * W.1) ns) m n (sk T n a) (-1) bk 0) (st := []) (d := 14) (bc := 0) (bs := 0) (c_MR_more_t hst (maS_M hM (4 * W.1) ns) (maS_t (c := 4 * W.1) (ns := ns) htf) hB hn (-1) bk 0 a (by omega) hl5001) vv_X11_isMore dX11_work_76 wg_1425 ((maS_M hM (4 * W.1) ns).K0) rfl rfl rfl rfl (by omega) (Nat.le_of_ble_eq_true rfl) (Nat.le_of_ble_eq_true rfl) (Nat.le_of_ble_eq_true rfl) ?_
        refine ww_if_eqN (tgt := 89) dX11_work_79 (by decide) (by omega) (fun c79 => ?_) (fun c79 => ?_)
        · exact absurd c79 (by decide)
        · refine ww_aload_n dX11_work_82 rfl rfl ?_
          have hg5002 := spS_O (np := np) (T := T) (k := 6) (inK_G np T n 6) (a := sk T n a) (W := W) (by omega)
          refine ww_cVq0 (M := m_X11_work) (pc := 83) (st := []) (d := 14) (bc := 0) (bs := 0) (c_Ma_K hst hM htf hB hn hnp hn6 hn5 bk 6 0 rfl (sk T n a) W ns (by omega) (sk_id (by omega)) (by omega) hrs) vv_X11_readStep dX11_work_83 wg_1524 ((maS_M hM (4 * W.1) ns).K0) rfl rfl rfl rfl (by omega) (Nat.le_of_ble_eq_true rfl) (Nat.le_of_ble_eq_true rfl) (Nat.le_of_ble_eq_true rfl) (fun ho5002 qo5002 => ?_)
          rcases hr5002 : spS np (inK np T n 6) T n (sk T n a) W with ⟨k5002, q5002⟩ | ⟨a5002, W5002⟩
          · rw [hr5002] at qo5002
            obtain ⟨x5002, c5002, ns5002, hx5002, rfl⟩ := qo5002
            have hf5002 := hg5002.1 _ _ hr5002
            refine ww_goto (tgt := 68) dX11_work_86 (by decide) ?_
            refine ww_aload_n dX11_work_68 rfl rfl ?_
            refine ww_cVr (M := m_X11_work) (pc := 69) (v := .int (nI 0)) (h1 := mrS (maS h m c5002 ns5002) m n x5002 (nI q5002) (nI k5002) 0) (st := []) (d := 14) (bc := 0) (bs := 0) (c_MR_fine_f hst (maS_M hM c5002 ns5002) (maS_t (c := c5002) (ns := ns5002) htf) hB hn x5002 (nI k5002) 0 q5002 (by omega)) vv_X11_fine dX11_work_69 wg_1421 ((maS_M hM c5002 ns5002).K0) rfl rfl rfl rfl (by omega) (Nat.le_of_ble_eq_true rfl) (Nat.le_of_ble_eq_true rfl) (Nat.le_of_ble_eq_true rfl) ?_
            refine ww_if_eqN (tgt := 89) dX11_work_72 (by decide) (by omega) (fun c72 => ?_) (fun c72 => ?_)
            · by_cases h93 : T (sk T n a) = 93
              · have e93 := spS_93 np (inK np T n 6) W (sk_id (T := T) ha) h93
                rw [hr5002] at e93
                cases e93
                exact hL _ _ _ _ _ (by rw [slS_e (fun e => e.2 h93)]; show (if sk T n (sk T n a) < n then _ else _) = _; rw [sk_id ha, if_pos (by assumption)]) (by omega) (by omega)
              · exact hL _ _ _ _ _ (by rw [slS_i (by assumption) h93, hr5002, bS_l]; rfl) (by omega) (by omega)
            · exact absurd c72 (by decide)
          · rw [hr5002] at qo5002
            obtain ⟨ns5002, hs5002, rfl⟩ := qo5002
            have hf5002 := hg5002.2 _ _ hr5002
            refine ww_goto (tgt := 68) dX11_work_86 (by decide) ?_
            have h93 : ¬ T (sk T n a) = 93 := fun q => by have e93 := spS_93 np (inK np T n 6) W (sk_id (T := T) ha) q; rw [hr5002] at e93; cases e93
            exact ih a5002 W5002 _ (by omega) (by omega) (by omega) hs5002 (fun V ns9 e => hR V ns9 (by rw [slS_i (by assumption) h93, hr5002, bS_r]; exact e)) (fun k q a9 c9 ns9 e => hL k q a9 c9 ns9 (by rw [slS_i (by assumption) h93, hr5002, bS_r]; exact e))
      · refine ww_cVr (M := m_X11_work) (pc := 76) (v := .int (nI 0)) (h1 := mrS (maS h m (4 * W.1) ns) m n n (-1) bk 0) (st := []) (d := 14) (bc := 0) (bs := 0) (c_MR_more_f hst (maS_M hM (4 * W.1) ns) (maS_t (c := 4 * W.1) (ns := ns) htf) hB hn (-1) bk 0 a (by omega) hl5001) vv_X11_isMore dX11_work_76 wg_1425 ((maS_M hM (4 * W.1) ns).K0) rfl rfl rfl rfl (by omega) (Nat.le_of_ble_eq_true rfl) (Nat.le_of_ble_eq_true rfl) (Nat.le_of_ble_eq_true rfl) ?_
        refine ww_if_eqN (tgt := 89) dX11_work_79 (by decide) (by omega) (fun c79 => ?_) (fun c79 => ?_)
        · exact hR W ns (by rw [slS_e (fun e => by omega), show sk T n a = n by omega]; show (if sk T n n < n then _ else _) = _; rw [sk_n, if_neg (by omega)]) hrs
        · exact absurd c79 (by decide)
def wyY (m : Nat) : Nat → Nat → Prop := fun a j => a = m ∧ (j = 28 ∨ j = 29 ∨ j = 30 ∨ j = 31 ∨ j = 32)
theorem wyY_j {m j : Nat} (h : j = 28 ∨ j = 29 ∨ j = 30 ∨ j = 31 ∨ j = 32) : wyY m m j := ⟨rfl, h⟩
theorem RsR.cp {W : AF} {ns g : Nat → Int32} (h : RsR W ns) : RsR W (cpF ns g (4 * W.1)) := by
  intro i hi
  have e : ∀ k, k < 4 → cpF ns g (4 * W.1) (4 * i + k) = ns (4 * i + k) := fun k hk => by unfold cpF; rw [if_pos (by omega)]
  have e0 := e 0 (by omega)
  rw [Nat.add_zero] at e0
  rw [e0, e 1 (by omega), e 2 (by omega), e 3 (by omega)]
  exact h i hi
set_option maxHeartbeats 4000000 in
set_option maxRecDepth 100000 in
theorem l_Mw_keep {l : Launch} {Z : EE} (hst : l.stackTraces = false) {g : PH} {m : Nat} (hM : ModS g m) {f pf : Nat → Int32} (hf : hp_I g (m + 14) = f) {wk : Nat} (hwk : hp_F g m 28 = .int (nI wk)) (hwk16 : wk < 16) (n : Nat) {Post : Res → PH → Prop} : ∀ (j k : Nat), k + j = 190 → WW l Z m_X11_work 14 0 0 157 [.ref m, .int (nI n), UU, .int (nI 190)] [] (hp_sI g (m + 16) (toF f (190 * wk) pf 190)) Post → WW l Z m_X11_work 14 0 0 123 [.ref m, .int (nI n), UU, .int (nI k)] [] (hp_sI g (m + 16) (toF f (190 * wk) pf k)) Post := by
  intro j
  induction j with
  | zero =>
    intro k hk hexit
    have hk0 : k = 190 := by omega
    subst hk0
    refine ww_iload_n dX11_work_123 rfl rfl ?_
    refine ww_sipush (v := nI 190) dX11_work_124 (by decide) ?_
    refine ww_icmp_geN (tgt := 157) dX11_work_127 (by decide) (by omega) (by omega) (fun c127 => ?_) (fun c127 => ?_)
    · exact hexit
    · exfalso; omega
  | succ j ih =>
    intro k hk hexit
    refine ww_iload_n dX11_work_123 rfl rfl ?_
    refine ww_sipush (v := nI 190) dX11_work_124 (by decide) ?_
    refine ww_icmp_geN (tgt := 157) dX11_work_127 (by decide) (by omega) (by omega) (fun c127 => ?_) (fun c127 => ?_)
    · exfalso; omega
    · refine ww_aload_n dX11_work_130 rfl rfl ?_
      refine ww_get 35 dX11_work_131 hM.K0 rfl (by decide) inX11 wg_1275 hM.F16 ?_
      refine ww_sipush (v := nI 190) dX11_work_134 (by decide) ?_
      refine ww_aload_n dX11_work_137 rfl rfl ?_
      refine ww_get 28 dX11_work_138 hM.K0 rfl (by decide) inX11 wg_1268 hwk ?_
      refine ww_imulN dX11_work_141 ?_
      refine ww_iload_n dX11_work_142 rfl rfl ?_
      refine ww_iaddN dX11_work_143 ?_
      refine ww_aload_n dX11_work_144 rfl rfl ?_
      refine ww_get 33 dX11_work_145 hM.K0 rfl (by decide) inX11 wg_1273 hM.F14 ?_
      refine ww_iload_n dX11_work_148 rfl rfl ?_
      refine ww_ialdF dX11_work_149 hM.K14 (hp_I_nx (by omega) hf) (by omega) (by omega) ?_
      refine ww_iastC dX11_work_150 hM.K16 (by omega) (by omega) ?_
      refine ww_incN (c := 1) (lv2 := [.ref m, .int (nI n), UU, .int (nI (k + 1))]) dX11_work_151 rfl rfl rfl (by decide) rfl ?_
      refine ww_goto (tgt := 123) dX11_work_154 (by decide) ?_
      refine ww_hp (h2 := hp_sI g (m + 16) (toF f (190 * wk) pf (k + 1))) (by rw [toF_s]) ?_
      exact ih (k + 1) (by omega) hexit
set_option maxHeartbeats 4000000 in
set_option maxRecDepth 100000 in
theorem l_Mw_perf {l : Launch} {Z : EE} (hst : l.stackTraces = false) {g : PH} {m : Nat} (hM : ModS g m) {sz : Nat} {kf vf : Nat → Int32} (hQ : LawM g m sz kf vf) (hok : LawOK kf vf sz) {np : Nat} (h6 : np ≤ 6) {f g0 pf ns s0 : Nat → Int32} (hf : hp_I g (m + 14) = f) (hs : hp_I g (m + 15) = g0) (hpf : hp_I g (m + 16) = pf) (hns : hp_I g (m + 12) = ns) (hs0 : hp_I g (m + 13) = s0) (hu : RowOK f np) {V : AF} (hr : RsR V ns) (hV8 : V.1 ≤ 38) (hw : WfK np V 6 0 V.1) {wk : Nat} (hwk : hp_F g m 28 = .int (nI wk)) (hwk16 : wk < 16) (h27 : hp_F g m 27 = .int (nI (4 * V.1))) (n : Nat) : WW l Z m_X11_work 14 0 0 105 [.ref m, .int (nI n), UU, UU] [] g (RQ (some (.int (nI (pfK V (onX sz kf vf V) 6 0 V.1 (0, 0, 0, f)).2.1))) (fun h9 => Same (fun c => SX m c ∨ c = m + 14 ∨ c = m + 16) (wyY m) g h9 ∧ hp_I h9 (m + 14) = (pfK V (onX sz kf vf V) 6 0 V.1 (0, 0, 0, f)).2.2.2 ∧ hp_I h9 (m + 16) = toF f (190 * wk) pf 190 ∧ hp_F h9 m 28 = .int (nI (wk + 1)) ∧ hp_F h9 m 29 = .int (nI (pfK V (onX sz kf vf V) 6 0 V.1 (0, 0, 0, f)).2.2.1))) := by
  refine ww_aload_n dX11_work_105 rfl rfl ?_
  refine ww_aload_n dX11_work_106 rfl rfl ?_
  refine ww_get 25 dX11_work_107 hM.K0 rfl (by decide) inX11 wg_1265 hM.F12 ?_
  refine ww_aload_n dX11_work_110 rfl rfl ?_
  refine ww_get 26 dX11_work_111 hM.K0 rfl (by decide) inX11 wg_1266 hM.F13 ?_
  refine ww_aload_n dX11_work_114 rfl rfl ?_
  refine ww_get 27 dX11_work_115 hM.K0 rfl (by decide) inX11 wg_1267 h27 ?_
  refine ww_cV0 (M := m_X11_work) (pc := 118) (h1 := hp_sI g (m + 13) (cpF ns s0 (4 * V.1))) (st := []) (d := 14) (bc := 0) (bs := 0) (c_M_copies hst hM hM.K12 hM.K13 (by omega) hns hs0 (4 * V.1) (by omega) (by omega) (by omega) (by omega)) vv_X11_copies dX11_work_118 wg_1516 hM.K0 rfl rfl rfl rfl (by omega) (Nat.le_of_ble_eq_true rfl) (Nat.le_of_ble_eq_true rfl) (Nat.le_of_ble_eq_true rfl) ?_
  refine ww_iconst (v := nI 0) dX11_work_121 (by decide) ?_
  refine ww_sti_n (lv2 := [.ref m, .int (nI n), UU, .int (nI 0)]) dX11_work_122 rfl rfl (by decide) rfl ?_
  have s1 : Same (fun c => SX m c ∨ c = m + 14 ∨ c = m + 16) (wyY m) g (hp_sI g (m + 13) (cpF ns s0 (4 * V.1))) := Same.rf.sI (Or.inl (SX13 m))
  have hM1 : ModS (hp_sI g (m + 13) (cpF ns s0 (4 * V.1))) m := hM.sI
  have st1 : hp_I (hp_sI g (m + 13) (cpF ns s0 (4 * V.1))) (m + 13) = cpF ns s0 (4 * V.1) := hp_I_eq _ _ _
  have f1 : hp_I (hp_sI g (m + 13) (cpF ns s0 (4 * V.1))) (m + 14) = f := (hp_I_ne (by omega)).trans hf
  have g1 : hp_I (hp_sI g (m + 13) (cpF ns s0 (4 * V.1))) (m + 15) = g0 := (hp_I_ne (by omega)).trans hs
  have p1 : hp_I (hp_sI g (m + 13) (cpF ns s0 (4 * V.1))) (m + 16) = pf := (hp_I_ne (by omega)).trans hpf
  have w1 : hp_F (hp_sI g (m + 13) (cpF ns s0 (4 * V.1))) m 28 = .int (nI wk) := hwk
  have n1 : hp_F (hp_sI g (m + 13) (cpF ns s0 (4 * V.1))) m 27 = .int (nI (4 * V.1)) := h27
  have q1 : LawM (hp_sI g (m + 13) (cpF ns s0 (4 * V.1))) m sz kf vf := hQ.same (X := fun c => c = m + 13) (Y := fun _ _ => False) (Same.rf.sI rfl) (by omega) (by omega) (fun e => e)
  generalize hp_sI g (m + 13) (cpF ns s0 (4 * V.1)) = h1 at s1 hM1 st1 f1 g1 p1 w1 n1 q1 ⊢
  refine ww_hp (h2 := hp_sI h1 (m + 16) (toF f (190 * wk) pf 0)) (by rw [toF_0, ← p1, hp_sI_id]) ?_
  refine l_Mw_keep hst hM1 f1 w1 hwk16 n 190 0 rfl ?_
  have s2 : Same (fun c => SX m c ∨ c = m + 14 ∨ c = m + 16) (wyY m) g (hp_sI h1 (m + 16) (toF f (190 * wk) pf 190)) := s1.sI (Or.inr (Or.inr rfl))
  have hM2 : ModS (hp_sI h1 (m + 16) (toF f (190 * wk) pf 190)) m := hM1.sI
  have st2 : hp_I (hp_sI h1 (m + 16) (toF f (190 * wk) pf 190)) (m + 13) = cpF ns s0 (4 * V.1) := (hp_I_ne (by omega)).trans st1
  have f2 : hp_I (hp_sI h1 (m + 16) (toF f (190 * wk) pf 190)) (m + 14) = f := (hp_I_ne (by omega)).trans f1
  have g2 : hp_I (hp_sI h1 (m + 16) (toF f (190 * wk) pf 190)) (m + 15) = g0 := (hp_I_ne (by omega)).trans g1
  have p2 : hp_I (hp_sI h1 (m + 16) (toF f (190 * wk) pf 190)) (m + 16) = toF f (190 * wk) pf 190 := hp_I_eq _ _ _
  have w2 : hp_F (hp_sI h1 (m + 16) (toF f (190 * wk) pf 190)) m 28 = .int (nI wk) := w1
  have n2 : hp_F (hp_sI h1 (m + 16) (toF f (190 * wk) pf 190)) m 27 = .int (nI (4 * V.1)) := n1
  have q2 : LawM (hp_sI h1 (m + 16) (toF f (190 * wk) pf 190)) m sz kf vf := q1.same (X := fun c => c = m + 16) (Y := fun _ _ => False) (Same.rf.sI rfl) (by omega) (by omega) (fun e => e)
  generalize hp_sI h1 (m + 16) (toF f (190 * wk) pf 190) = h2 at s2 hM2 st2 f2 g2 p2 w2 n2 q2 ⊢
  refine ww_aload_n dX11_work_157 rfl rfl ?_
  refine ww_dup dX11_work_158 rfl ?_
  refine ww_get 28 dX11_work_159 hM2.K0 rfl (by decide) inX11 wg_1268 w2 ?_
  refine ww_iconst (v := nI 1) dX11_work_162 (by decide) ?_
  refine ww_iaddN dX11_work_163 ?_
  refine ww_pfI tyX11 28 dX11_work_164 hM2.K0 rfl (by decide) inX11 tyX11_ok nmX11 wg_1268 rfl rfl ?_
  refine ww_aload_n dX11_work_167 rfl rfl ?_
  refine ww_cV0 (M := m_X11_work) (pc := 168) (h1 := hp_sI (hp_sF h2 m 28 (.int (nI (wk + 1)))) (m + 15) (cpF f g0 190)) (st := []) (d := 14) (bc := 0) (bs := 0) (c_M_take hst (h := hp_sF h2 m 28 (.int (nI (wk + 1)))) (hM2.sF (by decide)) f2 g2) vv_X11_take dX11_work_168 wg_1539 hM2.K0 rfl rfl rfl rfl (by omega) (Nat.le_of_ble_eq_true rfl) (Nat.le_of_ble_eq_true rfl) (Nat.le_of_ble_eq_true rfl) ?_
  refine ww_aload_n dX11_work_171 rfl rfl ?_
  refine ww_iconst (v := nI 0) dX11_work_172 (by decide) ?_
  refine ww_pfI tyX11 30 dX11_work_173 hM2.K0 rfl (by decide) inX11 tyX11_ok nmX11 wg_1270 rfl rfl ?_
  refine ww_aload_n dX11_work_176 rfl rfl ?_
  refine ww_iconst (v := nI 0) dX11_work_177 (by decide) ?_
  refine ww_pfI tyX11 31 dX11_work_178 hM2.K0 rfl (by decide) inX11 tyX11_ok nmX11 wg_1271 rfl rfl ?_
  refine ww_aload_n dX11_work_181 rfl rfl ?_
  refine ww_iconst (v := nI 0) dX11_work_182 (by decide) ?_
  refine ww_pfI tyX11 32 dX11_work_183 hM2.K0 rfl (by decide) inX11 tyX11_ok nmX11 wg_1272 rfl rfl ?_
  refine ww_heq (h2 := hp_sI (hp_sF (hp_sF (hp_sF (hp_sI (hp_sF h2 m 28 (.int (nI (wk + 1)))) (m + 15) (cpF f g0 190)) m 30 (.int (nI 0))) m 31 (.int (nI 0))) m 32 (.int (nI 0))) (m + 15) f) (hq_row hM2.K15 (fun i hi => ?_)) ?_
  · show f i = (hp_I (hp_sF (hp_sF (hp_sF (hp_sI (hp_sF h2 m 28 (.int (nI (wk + 1)))) (m + 15) (cpF f g0 190)) m 30 (.int (nI 0))) m 31 (.int (nI 0))) m 32 (.int (nI 0))) (m + 15)) i
    rw [show hp_I (hp_sF (hp_sF (hp_sF (hp_sI (hp_sF h2 m 28 (.int (nI (wk + 1)))) (m + 15) (cpF f g0 190)) m 30 (.int (nI 0))) m 31 (.int (nI 0))) m 32 (.int (nI 0))) (m + 15) = cpF f g0 190 from hp_I_eq _ _ _, cpF_in hi]
  have s3 : Same (fun c => SX m c ∨ c = m + 14 ∨ c = m + 16) (wyY m) g (hp_sI (hp_sF (hp_sF (hp_sF (hp_sI (hp_sF h2 m 28 (.int (nI (wk + 1)))) (m + 15) (cpF f g0 190)) m 30 (.int (nI 0))) m 31 (.int (nI 0))) m 32 (.int (nI 0))) (m + 15) f) := (((((s2.sF (wyY_j (by decide))).sI (Or.inl (SX15 m))).sF (wyY_j (by decide))).sF (wyY_j (by decide))).sF (wyY_j (by decide))).sI (Or.inl (SX15 m))
  have w3 : hp_F (hp_sI (hp_sF (hp_sF (hp_sF (hp_sI (hp_sF h2 m 28 (.int (nI (wk + 1)))) (m + 15) (cpF f g0 190)) m 30 (.int (nI 0))) m 31 (.int (nI 0))) m 32 (.int (nI 0))) (m + 15) f) m 28 = .int (nI (wk + 1)) := hp_F_nj (by decide) (hp_F_nj (by decide) (hp_F_nj (by decide) (hp_F_eq _ _ _ _)))
  have n3 : hp_F (hp_sI (hp_sF (hp_sF (hp_sF (hp_sI (hp_sF h2 m 28 (.int (nI (wk + 1)))) (m + 15) (cpF f g0 190)) m 30 (.int (nI 0))) m 31 (.int (nI 0))) m 32 (.int (nI 0))) (m + 15) f) m 27 = .int (nI (4 * V.1)) := hp_F_nj (by decide) (hp_F_nj (by decide) (hp_F_nj (by decide) (hp_F_nj (by decide) n2)))
  have f3 : hp_I (hp_sI (hp_sF (hp_sF (hp_sF (hp_sI (hp_sF h2 m 28 (.int (nI (wk + 1)))) (m + 15) (cpF f g0 190)) m 30 (.int (nI 0))) m 31 (.int (nI 0))) m 32 (.int (nI 0))) (m + 15) f) (m + 14) = f := (hp_I_ne (by omega)).trans ((hp_I_ne (by omega)).trans f2)
  have p3 : hp_I (hp_sI (hp_sF (hp_sF (hp_sF (hp_sI (hp_sF h2 m 28 (.int (nI (wk + 1)))) (m + 15) (cpF f g0 190)) m 30 (.int (nI 0))) m 31 (.int (nI 0))) m 32 (.int (nI 0))) (m + 15) f) (m + 16) = toF f (190 * wk) pf 190 := (hp_I_ne (by omega)).trans ((hp_I_ne (by omega)).trans p2)
  have hA3 : PmA m sz kf vf (cpF ns s0 (4 * V.1)) (0, 0, 0, f) (hp_sI (hp_sF (hp_sF (hp_sF (hp_sI (hp_sF h2 m 28 (.int (nI (wk + 1)))) (m + 15) (cpF f g0 190)) m 30 (.int (nI 0))) m 31 (.int (nI 0))) m 32 (.int (nI 0))) (m + 15) f) := ⟨((((hM2.sF (by decide)).sI.sF (by decide)).sF (by decide)).sF (by decide)).sI, ⟨hp_F_nj (by decide) (hp_F_nj (by decide) (hp_F_nj (by decide) (hp_F_nj (by decide) q2.1))), q2.2.1, fun i hi k hk e => (by rw [show hp_I (hp_sI (hp_sF (hp_sF (hp_sF (hp_sI (hp_sF h2 m 28 (.int (nI (wk + 1)))) (m + 15) (cpF f g0 190)) m 30 (.int (nI 0))) m 31 (.int (nI 0))) m 32 (.int (nI 0))) (m + 15) f) (m + 8) = hp_I h2 (m + 8) from (hp_I_ne (by omega)).trans (hp_I_ne (by omega))]; exact q2.2.2.1 i hi k hk e), fun i hi => (by rw [show hp_I (hp_sI (hp_sF (hp_sF (hp_sF (hp_sI (hp_sF h2 m 28 (.int (nI (wk + 1)))) (m + 15) (cpF f g0 190)) m 30 (.int (nI 0))) m 31 (.int (nI 0))) m 32 (.int (nI 0))) (m + 15) f) (m + 9) = hp_I h2 (m + 9) from (hp_I_ne (by omega)).trans (hp_I_ne (by omega))]; exact q2.2.2.2 i hi)⟩, (hp_I_ne (by omega)).trans ((hp_I_ne (by omega)).trans st2), hp_I_eq _ _ _, hp_F_nj (by decide) (hp_F_nj (by decide) (hp_F_eq _ _ _ _)), hp_F_nj (by decide) (hp_F_eq _ _ _ _), hp_F_eq _ _ _ _⟩
  generalize hp_sI (hp_sF (hp_sF (hp_sF (hp_sI (hp_sF h2 m 28 (.int (nI (wk + 1)))) (m + 15) (cpF f g0 190)) m 30 (.int (nI 0))) m 31 (.int (nI 0))) m 32 (.int (nI 0))) (m + 15) f = h3 at s3 w3 n3 f3 p3 hA3 ⊢
  refine ww_aload_n dX11_work_186 rfl rfl ?_
  refine ww_iconst (v := nI 0) dX11_work_187 (by decide) ?_
  refine ww_aload_n dX11_work_188 rfl rfl ?_
  refine ww_get 27 dX11_work_189 hA3.1.K0 rfl (by decide) inX11 wg_1267 n3 ?_
  refine ww_cVq0 (M := m_X11_work) (pc := 192) (st := []) (d := 14) (bc := 0) (bs := 0) (c_Mg_K hst hok h6 hr.cp hV8 6 0 V.1 (Nat.le_refl _) hw (0, 0, 0, f) h3 hA3 ⟨hu, Nat.zero_le _, Nat.le_refl _⟩) vv_X11_goesSteps dX11_work_192 wg_1543 hA3.1.K0 rfl rfl rfl rfl (by omega) (Nat.le_of_ble_eq_true rfl) (Nat.le_of_ble_eq_true rfl) (Nat.le_of_ble_eq_true rfl) (fun h4 qq4 => ?_)
  have w4 : hp_F h4 m 28 = .int (nI (wk + 1)) := (qq4.2.2.2.1 _ _ (fun e => by unfold gmY at e; omega)).trans w3
  have f4 : hp_I h4 (m + 14) = f := (qq4.2.2.2.2.1 _ (by unfold gmX; omega)).trans f3
  have p4 : hp_I h4 (m + 16) = toF f (190 * wk) pf 190 := (qq4.2.2.2.2.1 _ (by unfold gmX; omega)).trans p3
  have s4 : Same (fun c => SX m c ∨ c = m + 14 ∨ c = m + 16) (wyY m) g h4 := s3.tr (qq4.2.mono (fun c hc => Or.inl (by rcases hc with rfl | rfl | rfl; exact SX10 m; exact SX11 m; exact SX15 m)) (fun a j hj => by obtain ⟨rfl, hj⟩ := hj; exact wyY_j (by omega)))
  refine ww_aload_n dX11_work_195 rfl rfl ?_
  refine ww_aload_n dX11_work_196 rfl rfl ?_
  refine ww_get 34 dX11_work_197 qq4.1.1.K0 rfl (by decide) inX11 wg_1274 qq4.1.1.F15 ?_
  refine ww_aload_n dX11_work_200 rfl rfl ?_
  refine ww_get 33 dX11_work_201 qq4.1.1.K0 rfl (by decide) inX11 wg_1273 qq4.1.1.F14 ?_
  refine ww_sipush (v := nI 190) dX11_work_204 (by decide) ?_
  refine ww_cV0 (M := m_X11_work) (pc := 207) (h1 := hp_sI h4 (m + 14) (cpF (pfK V (onX sz kf vf V) 6 0 V.1 (0, 0, 0, f)).2.2.2 f 190)) (st := []) (d := 14) (bc := 0) (bs := 0) (c_M_copies hst qq4.1.1 qq4.1.1.K15 qq4.1.1.K14 (by omega) qq4.1.2.2.2.1 f4 190 (by omega) (by omega) (by omega) (by omega)) vv_X11_copies dX11_work_207 wg_1516 qq4.1.1.K0 rfl rfl rfl rfl (by omega) (Nat.le_of_ble_eq_true rfl) (Nat.le_of_ble_eq_true rfl) (Nat.le_of_ble_eq_true rfl) ?_
  refine ww_aload_n dX11_work_210 rfl rfl ?_
  refine ww_aload_n dX11_work_211 rfl rfl ?_
  refine ww_get 32 dX11_work_212 qq4.1.1.K0 rfl (by decide) inX11 wg_1272 qq4.1.2.2.2.2.2.2 ?_
  refine ww_pfI tyX11 29 dX11_work_215 qq4.1.1.K0 rfl (by decide) inX11 tyX11_ok nmX11 wg_1269 rfl rfl ?_
  refine ww_aload_n dX11_work_218 rfl rfl ?_
  refine ww_get 31 dX11_work_219 qq4.1.1.K0 rfl (by decide) inX11 wg_1271 (hp_F_nj (by decide) qq4.1.2.2.2.2.2.1) ?_
  refine ww_heq (h2 := hp_sI (hp_sF (hp_sI h4 (m + 14) (cpF (pfK V (onX sz kf vf V) 6 0 V.1 (0, 0, 0, f)).2.2.2 f 190)) m 29 (.int (nI ((pfK V (onX sz kf vf V) 6 0 V.1 (0, 0, 0, f)).2.2.1)))) (m + 14) (pfK V (onX sz kf vf V) 6 0 V.1 (0, 0, 0, f)).2.2.2) (hq_row qq4.1.1.K14 (fun i hi => ?_)) ?_
  · show _ = (hp_I (hp_sF (hp_sI h4 (m + 14) (cpF (pfK V (onX sz kf vf V) 6 0 V.1 (0, 0, 0, f)).2.2.2 f 190)) m 29 (.int (nI ((pfK V (onX sz kf vf V) 6 0 V.1 (0, 0, 0, f)).2.2.1)))) (m + 14)) i
    rw [show hp_I (hp_sF (hp_sI h4 (m + 14) (cpF (pfK V (onX sz kf vf V) 6 0 V.1 (0, 0, 0, f)).2.2.2 f 190)) m 29 (.int (nI ((pfK V (onX sz kf vf V) 6 0 V.1 (0, 0, 0, f)).2.2.1)))) (m + 14) = cpF (pfK V (onX sz kf vf V) 6 0 V.1 (0, 0, 0, f)).2.2.2 f 190 from hp_I_eq _ _ _, cpF_in hi]
  exact ww_iret dX11_work_222 rfl ⟨rfl, ((s4.sI (Or.inr (Or.inl rfl))).sF (wyY_j (by decide))).sI (Or.inr (Or.inl rfl)), hp_I_eq _ _ _, (hp_I_ne (by omega)).trans ((hp_I_ne (by omega)).trans p4), hp_F_nj (by decide) w4, hp_F_eq _ _ _ _⟩
set_option maxHeartbeats 4000000 in
set_option maxRecDepth 100000 in
theorem c_M_work_20 {l : Launch} {Z : EE} (hst : l.stackTraces = false) {h : PH} {m : Nat} (hM : ModS h m) {tf : Nat → Int32} (htf : hp_I h (m + 2) = tf) {T : Nat → Nat} (hB : BT tf T) {tp : Nat} (htp : hp_F h m 2 = .int (nI tp)) (ht6 : tp ≤ 600) {bk : Int32} (hbk : hp_F h m 6 = .int bk) (n : Nat) (hnt : n ≤ tp) (hn5 : n ≤ 150) {wk : Nat} (hwk : hp_F h m 28 = .int (nI wk)) (hw16 : wk = 16) : CC l Z m_X11_work 14 0 0 [.ref m, .int (nI n)] h (RQ (some (.int (-20))) (fun h9 => Same (SX m) (SYt m) h h9 ∧ hp_F h9 m 0 = .int (nI 0) ∧ hp_F h9 m 2 = .int (nI 0) ∧ FtI h9 m (-1))) := by
  refine ee_entry hst (by decide +kernel) rfl rfl (by simp [Value.category]) (Nat.le_of_ble_eq_true rfl) ?_
  refine ww_lv (lv2 := [.ref m, .int (nI n), UU, UU]) rfl ?_
  have hn : n ≤ 600 := by omega
  refine ww_aload_n dX11_work_0 rfl rfl ?_
  refine ww_iconst (v := nI 0) dX11_work_1 (by decide) ?_
  refine ww_pfI tyX11 0 dX11_work_2 hM.K0 rfl (by decide) inX11 tyX11_ok nmX11 wg_1240 rfl rfl ?_
  refine ww_aload_n dX11_work_5 rfl rfl ?_
  refine ww_iload_n dX11_work_6 rfl rfl ?_
  refine ww_if_ltN (tgt := 29) dX11_work_7 (by decide) (by omega) ?_
  refine ww_iload_n dX11_work_10 rfl rfl ?_
  refine ww_aload_n dX11_work_11 rfl rfl ?_
  refine ww_get 2 dX11_work_12 hM.K0 rfl (by decide) inX11 wg_1242 (hp_F_nj (by decide) htp) ?_
  refine ww_icmp_gtN (tgt := 29) dX11_work_15 (by decide) (by omega) (by omega) (fun c15 => ?_) (fun c15 => ?_)
  · exfalso; omega
  · refine ww_iload_n dX11_work_18 rfl rfl ?_
    refine ww_sipush (v := nI 150) dX11_work_19 (by decide) ?_
    refine ww_icmp_gtN (tgt := 29) dX11_work_22 (by decide) (by omega) (by omega) (fun c22 => ?_) (fun c22 => ?_)
    · exfalso; omega
    · refine ww_iconst (v := nI 1) dX11_work_25 (by decide) ?_
      refine ww_goto (tgt := 30) dX11_work_26 (by decide) ?_
      refine ww_iconst (v := nI 1) dX11_work_30 (by decide) ?_
      refine ww_iconst (v := nI 1) dX11_work_31 (by decide) ?_
      refine ww_cVr (M := m_X11_work) (pc := 32) (v := .int (nI 1)) (h1 := hp_sF h m 0 (.int (nI 0))) (st := []) (d := 14) (bc := 0) (bs := 0) (c_M_may_t hst (h := hp_sF h m 0 (.int (nI 0))) (hM.sF (by decide)) (hp_F_eq _ _ _ _) (nI 1) (nI 1)) vv_X11_may dX11_work_32 wg_1413 hM.K0 rfl rfl rfl rfl (Nat.le_of_ble_eq_true rfl) (Nat.le_of_ble_eq_true rfl) (Nat.le_of_ble_eq_true rfl) (Nat.le_of_ble_eq_true rfl) ?_
      refine ww_if_neN (tgt := 40) dX11_work_35 (by decide) (by omega) (fun c35 => ?_) (fun c35 => ?_)
      · refine ww_aload_n dX11_work_40 rfl rfl ?_
        refine ww_iload_n dX11_work_41 rfl rfl ?_
        refine ww_cV0 (M := m_X11_work) (pc := 42) (h1 := mrS (bgS h m) m n 0 (-1) bk 0) (st := []) (d := 14) (bc := 0) (bs := 0) (c_MR_begins hst (h := hp_sF h m 0 (.int (nI 0))) (hM.sF (by decide)) n (hp_F_nj (by decide) hbk)) vv_X11_begins dX11_work_42 wg_1417 hM.K0 rfl rfl rfl rfl (Nat.le_of_ble_eq_true rfl) (Nat.le_of_ble_eq_true rfl) (Nat.le_of_ble_eq_true rfl) (Nat.le_of_ble_eq_true rfl) ?_
        refine ww_aload_n dX11_work_45 rfl rfl ?_
        refine ww_get 28 dX11_work_46 ((bgS_M hM).K0) rfl (by decide) inX11 wg_1268 (mrS_j _ _ _ _ _ (by decide) (bgS_j (by decide) (by decide) (by decide) hwk)) ?_
        refine ww_bipush (v := nI 16) dX11_work_49 (by decide) ?_
        refine ww_icmp_neN (tgt := 63) dX11_work_51 (by decide) (by omega) (by omega) (fun c51 => ?_) (fun c51 => ?_)
        · exfalso; omega
        · refine ww_aload_n dX11_work_54 rfl rfl ?_
          refine ww_iconst (v := nI 0) dX11_work_55 (by decide) ?_
          refine ww_cVr (M := m_X11_work) (pc := 56) (v := .int (nI 0)) (h1 := hp_sF (mrS (bgS h m) m n 0 (-1) bk 0) m 8 (.int (-1))) (st := []) (d := 14) (bc := 0) (bs := 0) (c_MR_result_t hst (bgS_M hM) htf hB hn 0 bk 0 (nI 0)) vv_X11_result dX11_work_56 wg_1471 ((bgS_M hM).K0) rfl rfl rfl rfl (Nat.le_of_ble_eq_true rfl) (Nat.le_of_ble_eq_true rfl) (Nat.le_of_ble_eq_true rfl) (Nat.le_of_ble_eq_true rfl) ?_
          refine ww_pop dX11_work_59 rfl ?_
          refine ww_bipush (v := -20) dX11_work_60 (by decide) ?_
          exact ww_iret dX11_work_62 rfl ⟨rfl, ((bgS_s.mr (fun j hj => STY_t (STY_r hj)) n 0 (-1) bk 0).sF (STY_t (STY_j (by decide)))), hp_F_nj (by decide) (mrS_j _ _ _ _ _ (by decide) (bgS_0 h m)), hp_F_nj (by decide) (mrS_j _ _ _ _ _ (by decide) (bgS_2 h m)), FtI.of _ _ _ _ _ _ _ _⟩
      · exact absurd c35 (by decide)
set_option maxHeartbeats 4000000 in
set_option maxRecDepth 100000 in
theorem c_M_work_l {l : Launch} {Z : EE} (hst : l.stackTraces = false) {h : PH} {m : Nat} (hM : ModS h m) {tf : Nat → Int32} (htf : hp_I h (m + 2) = tf) {T : Nat → Nat} (hB : BT tf T) {tp : Nat} (htp : hp_F h m 2 = .int (nI tp)) (ht6 : tp ≤ 600) {bk : Int32} (hbk : hp_F h m 6 = .int bk) (n : Nat) (hnt : n ≤ tp) (hn5 : n ≤ 150) {wk : Nat} (hwk : hp_F h m 28 = .int (nI wk)) (hw16 : wk < 16) {np : Nat} (hnp : hp_F h m 15 = .int (nI np)) (hn6 : np ≤ 6) (W : AF) {k9 q9 : Nat} (hr : wkS np T n (0, W.2.1, W.2.2.1, W.2.2.2.1, W.2.2.2.2) = .inl (k9, q9)) : CC l Z m_X11_work 14 0 0 [.ref m, .int (nI n)] h (RQ (some (.int (nI k9 - nI 10))) (fun h9 => Same (SX m) (SYt m) h h9 ∧ hp_F h9 m 0 = .int (nI 0) ∧ hp_F h9 m 2 = .int (nI 0) ∧ FtI h9 m (nI q9))) := by
  refine ee_entry hst (by decide +kernel) rfl rfl (by simp [Value.category]) (Nat.le_of_ble_eq_true rfl) ?_
  refine ww_lv (lv2 := [.ref m, .int (nI n), UU, UU]) rfl ?_
  have hn : n ≤ 600 := by omega
  refine ww_aload_n dX11_work_0 rfl rfl ?_
  refine ww_iconst (v := nI 0) dX11_work_1 (by decide) ?_
  refine ww_pfI tyX11 0 dX11_work_2 hM.K0 rfl (by decide) inX11 tyX11_ok nmX11 wg_1240 rfl rfl ?_
  refine ww_aload_n dX11_work_5 rfl rfl ?_
  refine ww_iload_n dX11_work_6 rfl rfl ?_
  refine ww_if_ltN (tgt := 29) dX11_work_7 (by decide) (by omega) ?_
  refine ww_iload_n dX11_work_10 rfl rfl ?_
  refine ww_aload_n dX11_work_11 rfl rfl ?_
  refine ww_get 2 dX11_work_12 hM.K0 rfl (by decide) inX11 wg_1242 (hp_F_nj (by decide) htp) ?_
  refine ww_icmp_gtN (tgt := 29) dX11_work_15 (by decide) (by omega) (by omega) (fun c15 => ?_) (fun c15 => ?_)
  · exfalso; omega
  · refine ww_iload_n dX11_work_18 rfl rfl ?_
    refine ww_sipush (v := nI 150) dX11_work_19 (by decide) ?_
    refine ww_icmp_gtN (tgt := 29) dX11_work_22 (by decide) (by omega) (by omega) (fun c22 => ?_) (fun c22 => ?_)
    · exfalso; omega
    · refine ww_iconst (v := nI 1) dX11_work_25 (by decide) ?_
      refine ww_goto (tgt := 30) dX11_work_26 (by decide) ?_
      refine ww_iconst (v := nI 1) dX11_work_30 (by decide) ?_
      refine ww_iconst (v := nI 1) dX11_work_31 (by decide) ?_
      refine ww_cVr (M := m_X11_work) (pc := 32) (v := .int (nI 1)) (h1 := hp_sF h m 0 (.int (nI 0))) (st := []) (d := 14) (bc := 0) (bs := 0) (c_M_may_t hst (h := hp_sF h m 0 (.int (nI 0))) (hM.sF (by decide)) (hp_F_eq _ _ _ _) (nI 1) (nI 1)) vv_X11_may dX11_work_32 wg_1413 hM.K0 rfl rfl rfl rfl (Nat.le_of_ble_eq_true rfl) (Nat.le_of_ble_eq_true rfl) (Nat.le_of_ble_eq_true rfl) (Nat.le_of_ble_eq_true rfl) ?_
      refine ww_if_neN (tgt := 40) dX11_work_35 (by decide) (by omega) (fun c35 => ?_) (fun c35 => ?_)
      · refine ww_aload_n dX11_work_40 rfl rfl ?_
        refine ww_iload_n dX11_work_41 rfl rfl ?_
        refine ww_cV0 (M := m_X11_work) (pc := 42) (h1 := mrS (bgS h m) m n 0 (-1) bk 0) (st := []) (d := 14) (bc := 0) (bs := 0) (c_MR_begins hst (h := hp_sF h m 0 (.int (nI 0))) (hM.sF (by decide)) n (hp_F_nj (by decide) hbk)) vv_X11_begins dX11_work_42 wg_1417 hM.K0 rfl rfl rfl rfl (Nat.le_of_ble_eq_true rfl) (Nat.le_of_ble_eq_true rfl) (Nat.le_of_ble_eq_true rfl) (Nat.le_of_ble_eq_true rfl) ?_
        refine ww_aload_n dX11_work_45 rfl rfl ?_
        refine ww_get 28 dX11_work_46 ((bgS_M hM).K0) rfl (by decide) inX11 wg_1268 (mrS_j _ _ _ _ _ (by decide) (bgS_j (by decide) (by decide) (by decide) hwk)) ?_
        refine ww_bipush (v := nI 16) dX11_work_49 (by decide) ?_
        refine ww_icmp_neN (tgt := 63) dX11_work_51 (by decide) (by omega) (by omega) (fun c51 => ?_) (fun c51 => ?_)
        · refine ww_aload_n dX11_work_63 rfl rfl ?_
          refine ww_iconst (v := nI 0) dX11_work_64 (by decide) ?_
          refine ww_pfI tyX11 27 dX11_work_65 ((bgS_M hM).K0) rfl (by decide) inX11 tyX11_ok nmX11 wg_1267 rfl rfl ?_
          have hnpB : hp_F (bgS h m) m 15 = .int (nI np) := bgS_j (by decide) (by decide) (by decide) hnp
          refine ww_hp (h2 := mrS (maS (bgS h m) m (4 * ((0, W.2.1, W.2.2.1, W.2.2.2.1, W.2.2.2.2) : AF).1) (hp_I (bgS h m) (m + 12))) m n 0 (-1) bk 0) (ma_start _ _ _ _ _ _ _) ?_
          refine l_Mw_top hst (h := bgS h m) (bgS_M hM) htf hB (by omega) hnpB hn6 hn5 bk 38 0 (0, W.2.1, W.2.2.1, W.2.2.2.1, W.2.2.2.2) _ (Nat.zero_le _) (by omega) (Nat.le_refl _) (fun i hi => absurd hi (Nat.not_lt_zero i)) (fun V ns9 e9 s9 => ?_) (fun k q a9 c9 ns9 e9 l9 x9 => ?_)
          all_goals rw [← wk2_e, hr] at e9
          · cases e9
          · cases e9
            refine ww_aload_n dX11_work_89 rfl rfl ?_
            refine ww_iconst (v := nI 0) dX11_work_90 (by decide) ?_
            refine ww_cVr (M := m_X11_work) (pc := 91) (v := .int (nI k9 - nI 10)) (h1 := hp_sF (mrS (maS (bgS h m) m c9 ns9) m n a9 (nI q9) (nI k9) 0) m 8 (.int (nI q9))) (st := []) (d := 14) (bc := 0) (bs := 0) (c_MR_result_f hst (maS_M (bgS_M hM) c9 ns9) (maS_t (c := c9) (ns := ns9) htf) hB hn a9 (nI k9) 0 q9 (by omega) (nI 0)) vv_X11_result dX11_work_91 wg_1471 ((maS_M (bgS_M hM) c9 ns9).K0) rfl rfl rfl rfl (by omega) (Nat.le_of_ble_eq_true rfl) (Nat.le_of_ble_eq_true rfl) (Nat.le_of_ble_eq_true rfl) ?_
            refine ww_sti_n (lv2 := [.ref m, .int (nI n), .int (nI k9 - nI 10), UU]) dX11_work_94 rfl rfl (by decide) rfl ?_
            refine ww_aload_n dX11_work_95 rfl rfl ?_
            refine ww_get 5 dX11_work_96 ((maS_M (bgS_M hM) c9 ns9).K0) rfl (by decide) inX11 wg_1245 (hp_F_nj (by decide) (mrS_5 _ _ _ _ _ _ _)) ?_
            refine ww_iconst (v := -1) dX11_work_99 (by decide) ?_
            refine ww_icmp_eq (tgt := 105) dX11_work_100 (by decide) (fun c100 => ?_) (fun c100 => ?_)
            · exact absurd c100 (nI_m1 (by omega))
            · refine ww_iload_n dX11_work_103 rfl rfl ?_
              exact ww_iret dX11_work_104 rfl ⟨rfl, (bgS_s.tr ((same_ma c9 ns9 n a9 (nI q9) (nI k9) 0).mono (fun _ e => e) (fun _ _ e => STY_t e))).sF (STY_t (STY_j (by decide))), hp_F_nj (by decide) (mrS_j _ _ _ _ _ (by decide) (maS_j (by decide) (bgS_0 h m))), hp_F_nj (by decide) (mrS_j _ _ _ _ _ (by decide) (maS_j (by decide) (bgS_2 h m))), FtI.of _ _ _ _ _ _ _ _⟩
        · exfalso; omega
      · exact absurd c35 (by decide)
set_option maxHeartbeats 4000000 in
set_option maxRecDepth 100000 in
theorem c_M_work_r {l : Launch} {Z : EE} (hst : l.stackTraces = false) {h : PH} {m : Nat} (hM : ModS h m) {tf : Nat → Int32} (htf : hp_I h (m + 2) = tf) {T : Nat → Nat} (hB : BT tf T) {tp : Nat} (htp : hp_F h m 2 = .int (nI tp)) (ht6 : tp ≤ 600) {bk : Int32} (hbk : hp_F h m 6 = .int bk) (n : Nat) (hnt : n ≤ tp) (hn5 : n ≤ 150) {wk : Nat} (hwk : hp_F h m 28 = .int (nI wk)) (hw16 : wk < 16) {np : Nat} (hnp : hp_F h m 15 = .int (nI np)) (hn6 : np ≤ 6) (W : AF) {sz : Nat} {kf vf : Nat → Int32} (hQ : LawM h m sz kf vf) (hok : LawOK kf vf sz) {f pf : Nat → Int32} (hf : hp_I h (m + 14) = f) (hpf : hp_I h (m + 16) = pf) (hu : RowOK f np) {b9 : Nat} {V9 : AF} (hr : wkS np T n (0, W.2.1, W.2.2.1, W.2.2.2.1, W.2.2.2.2) = .inr (b9, V9)) : CC l Z m_X11_work 14 0 0 [.ref m, .int (nI n)] h (RQ (some (.int (nI (pfK V9 (onX sz kf vf V9) 6 0 V9.1 (0, 0, 0, f)).2.1))) (fun h9 => Same (fun c => SX m c ∨ c = m + 14 ∨ c = m + 16) (fun a j => SYt m a j ∨ (a = m ∧ (j = 28 ∨ j = 29))) h h9 ∧ hp_I h9 (m + 14) = (pfK V9 (onX sz kf vf V9) 6 0 V9.1 (0, 0, 0, f)).2.2.2 ∧ hp_I h9 (m + 16) = toF f (190 * wk) pf 190 ∧ hp_F h9 m 28 = .int (nI (wk + 1)) ∧ hp_F h9 m 29 = .int (nI (pfK V9 (onX sz kf vf V9) 6 0 V9.1 (0, 0, 0, f)).2.2.1) ∧ hp_F h9 m 0 = .int (nI 0) ∧ hp_F h9 m 2 = .int (nI 0) ∧ FtI h9 m (-1))) := by
  refine ee_entry hst (by decide +kernel) rfl rfl (by simp [Value.category]) (Nat.le_of_ble_eq_true rfl) ?_
  refine ww_lv (lv2 := [.ref m, .int (nI n), UU, UU]) rfl ?_
  have hn : n ≤ 600 := by omega
  refine ww_aload_n dX11_work_0 rfl rfl ?_
  refine ww_iconst (v := nI 0) dX11_work_1 (by decide) ?_
  refine ww_pfI tyX11 0 dX11_work_2 hM.K0 rfl (by decide) inX11 tyX11_ok nmX11 wg_1240 rfl rfl ?_
  refine ww_aload_n dX11_work_5 rfl rfl ?_
  refine ww_iload_n dX11_work_6 rfl rfl ?_
  refine ww_if_ltN (tgt := 29) dX11_work_7 (by decide) (by omega) ?_
  refine ww_iload_n dX11_work_10 rfl rfl ?_
  refine ww_aload_n dX11_work_11 rfl rfl ?_
  refine ww_get 2 dX11_work_12 hM.K0 rfl (by decide) inX11 wg_1242 (hp_F_nj (by decide) htp) ?_
  refine ww_icmp_gtN (tgt := 29) dX11_work_15 (by decide) (by omega) (by omega) (fun c15 => ?_) (fun c15 => ?_)
  · exfalso; omega
  · refine ww_iload_n dX11_work_18 rfl rfl ?_
    refine ww_sipush (v := nI 150) dX11_work_19 (by decide) ?_
    refine ww_icmp_gtN (tgt := 29) dX11_work_22 (by decide) (by omega) (by omega) (fun c22 => ?_) (fun c22 => ?_)
    · exfalso; omega
    · refine ww_iconst (v := nI 1) dX11_work_25 (by decide) ?_
      refine ww_goto (tgt := 30) dX11_work_26 (by decide) ?_
      refine ww_iconst (v := nI 1) dX11_work_30 (by decide) ?_
      refine ww_iconst (v := nI 1) dX11_work_31 (by decide) ?_
      refine ww_cVr (M := m_X11_work) (pc := 32) (v := .int (nI 1)) (h1 := hp_sF h m 0 (.int (nI 0))) (st := []) (d := 14) (bc := 0) (bs := 0) (c_M_may_t hst (h := hp_sF h m 0 (.int (nI 0))) (hM.sF (by decide)) (hp_F_eq _ _ _ _) (nI 1) (nI 1)) vv_X11_may dX11_work_32 wg_1413 hM.K0 rfl rfl rfl rfl (Nat.le_of_ble_eq_true rfl) (Nat.le_of_ble_eq_true rfl) (Nat.le_of_ble_eq_true rfl) (Nat.le_of_ble_eq_true rfl) ?_
      refine ww_if_neN (tgt := 40) dX11_work_35 (by decide) (by omega) (fun c35 => ?_) (fun c35 => ?_)
      · refine ww_aload_n dX11_work_40 rfl rfl ?_
        refine ww_iload_n dX11_work_41 rfl rfl ?_
        refine ww_cV0 (M := m_X11_work) (pc := 42) (h1 := mrS (bgS h m) m n 0 (-1) bk 0) (st := []) (d := 14) (bc := 0) (bs := 0) (c_MR_begins hst (h := hp_sF h m 0 (.int (nI 0))) (hM.sF (by decide)) n (hp_F_nj (by decide) hbk)) vv_X11_begins dX11_work_42 wg_1417 hM.K0 rfl rfl rfl rfl (Nat.le_of_ble_eq_true rfl) (Nat.le_of_ble_eq_true rfl) (Nat.le_of_ble_eq_true rfl) (Nat.le_of_ble_eq_true rfl) ?_
        refine ww_aload_n dX11_work_45 rfl rfl ?_
        refine ww_get 28 dX11_work_46 ((bgS_M hM).K0) rfl (by decide) inX11 wg_1268 (mrS_j _ _ _ _ _ (by decide) (bgS_j (by decide) (by decide) (by decide) hwk)) ?_
        refine ww_bipush (v := nI 16) dX11_work_49 (by decide) ?_
        refine ww_icmp_neN (tgt := 63) dX11_work_51 (by decide) (by omega) (by omega) (fun c51 => ?_) (fun c51 => ?_)
        · refine ww_aload_n dX11_work_63 rfl rfl ?_
          refine ww_iconst (v := nI 0) dX11_work_64 (by decide) ?_
          refine ww_pfI tyX11 27 dX11_work_65 ((bgS_M hM).K0) rfl (by decide) inX11 tyX11_ok nmX11 wg_1267 rfl rfl ?_
          have hnpB : hp_F (bgS h m) m 15 = .int (nI np) := bgS_j (by decide) (by decide) (by decide) hnp
          refine ww_hp (h2 := mrS (maS (bgS h m) m (4 * ((0, W.2.1, W.2.2.1, W.2.2.2.1, W.2.2.2.2) : AF).1) (hp_I (bgS h m) (m + 12))) m n 0 (-1) bk 0) (ma_start _ _ _ _ _ _ _) ?_
          refine l_Mw_top hst (h := bgS h m) (bgS_M hM) htf hB (by omega) hnpB hn6 hn5 bk 38 0 (0, W.2.1, W.2.2.1, W.2.2.2.1, W.2.2.2.2) _ (Nat.zero_le _) (by omega) (Nat.le_refl _) (fun i hi => absurd hi (Nat.not_lt_zero i)) (fun V ns9 e9 s9 => ?_) (fun k q a9 c9 ns9 e9 l9 x9 => ?_)
          all_goals rw [← wk2_e, hr] at e9
          · cases e9
            refine ww_aload_n dX11_work_89 rfl rfl ?_
            refine ww_iconst (v := nI 0) dX11_work_90 (by decide) ?_
            refine ww_cVr (M := m_X11_work) (pc := 91) (v := .int (nI 0)) (h1 := hp_sF (mrS (maS (bgS h m) m (4 * V9.1) ns9) m n n (-1) bk 0) m 8 (.int (-1))) (st := []) (d := 14) (bc := 0) (bs := 0) (c_MR_result_t hst (maS_M (bgS_M hM) (4 * V9.1) ns9) (maS_t (c := 4 * V9.1) (ns := ns9) htf) hB hn n bk 0 (nI 0)) vv_X11_result dX11_work_91 wg_1471 ((maS_M (bgS_M hM) (4 * V9.1) ns9).K0) rfl rfl rfl rfl (by omega) (Nat.le_of_ble_eq_true rfl) (Nat.le_of_ble_eq_true rfl) (Nat.le_of_ble_eq_true rfl) ?_
            refine ww_sti_n (lv2 := [.ref m, .int (nI n), .int (nI 0), UU]) dX11_work_94 rfl rfl (by decide) rfl ?_
            refine ww_aload_n dX11_work_95 rfl rfl ?_
            refine ww_get 5 dX11_work_96 ((maS_M (bgS_M hM) (4 * V9.1) ns9).K0) rfl (by decide) inX11 wg_1245 (hp_F_nj (by decide) (mrS_5 _ _ _ _ _ _ _)) ?_
            refine ww_iconst (v := -1) dX11_work_99 (by decide) ?_
            refine ww_icmp_eq (tgt := 105) dX11_work_100 (by decide) (fun c100 => ?_) (fun c100 => ?_)
            · refine ww_fg (lv2 := [.ref m, .int (nI n), UU, UU]) ⟨Or.inr rfl, Or.inr rfl, Or.inl rfl, Or.inl rfl, trivial⟩ ?_
              have hO := (wkS_O (np := np) (T := T) (n := n) (W := (0, W.2.1, W.2.2.1, W.2.2.2.1, W.2.2.2.2)) rfl).2 _ _ hr
              have sg : Same (SX m) (SYt m) h (hp_sF (mrS (maS (bgS h m) m (4 * V9.1) ns9) m n n (-1) bk 0) m 8 (.int (-1))) := (bgS_s.tr ((same_ma (4 * V9.1) ns9 n n (-1) bk 0).mono (fun _ e => e) (fun _ _ e => STY_t e))).sF (STY_t (STY_j (by decide)))
              have hMg : ModS (hp_sF (mrS (maS (bgS h m) m (4 * V9.1) ns9) m n n (-1) bk 0) m 8 (.int (-1))) m := ((mrS_M (maS_M (bgS_M hM) (4 * V9.1) ns9) _ _ _ _ _).sF (by decide))
              have g27 : hp_F (hp_sF (mrS (maS (bgS h m) m (4 * V9.1) ns9) m n n (-1) bk 0) m 8 (.int (-1))) m 27 = .int (nI (4 * V9.1)) := hp_F_nj (by decide) (mrS_j _ _ _ _ _ (by decide) (maS_27 _ _ _ _))
              have g12 : hp_I (hp_sF (mrS (maS (bgS h m) m (4 * V9.1) ns9) m n n (-1) bk 0) m 8 (.int (-1))) (m + 12) = ns9 := maS_12 (bgS h m) m (4 * V9.1) ns9
              have g0 : hp_F (hp_sF (mrS (maS (bgS h m) m (4 * V9.1) ns9) m n n (-1) bk 0) m 8 (.int (-1))) m 0 = .int (nI 0) := hp_F_nj (by decide) (mrS_j _ _ _ _ _ (by decide) (maS_j (by decide) (bgS_0 h m)))
              have g2 : hp_F (hp_sF (mrS (maS (bgS h m) m (4 * V9.1) ns9) m n n (-1) bk 0) m 8 (.int (-1))) m 2 = .int (nI 0) := hp_F_nj (by decide) (mrS_j _ _ _ _ _ (by decide) (maS_j (by decide) (bgS_2 h m)))
              have g8 : FtI (hp_sF (mrS (maS (bgS h m) m (4 * V9.1) ns9) m n n (-1) bk 0) m 8 (.int (-1))) m (-1) := FtI.of _ _ _ _ _ _ _ _
              generalize hp_sF (mrS (maS (bgS h m) m (4 * V9.1) ns9) m n n (-1) bk 0) m 8 (.int (-1)) = hg at sg hMg g27 g12 g0 g2 g8 ⊢
              have y28 : ∀ j, j = 28 ∨ j = 23 → ¬ SYt m m j := fun j hj e => by rcases hj with rfl | rfl <;> rcases e with e | e <;> first | exact absurd e (SY_no (by decide)) | omega
              have sgQ : LawM hg m sz kf vf := hQ.same sg (SX_no (by decide)) (SX_no (by decide)) (y28 23 (Or.inr rfl))
              refine ww_post (fun r h9 hp => ?_) (l_Mw_perf hst hMg sgQ hok hn6 ((sg.2.2.2.1 _ (SX_no (by decide))).trans hf) rfl ((sg.2.2.2.1 _ (SX_no (by decide))).trans hpf) g12 rfl hu s9 (by omega) hO.2.2 ((sg.2.2.1 _ _ (y28 28 (Or.inl rfl))).trans hwk) hw16 g27 n)
              obtain ⟨e1, s1, a1, a2, a3, a4⟩ := hp
              have z0 : ∀ j, j < 28 → hp_F h9 m j = hp_F hg m j := fun j hj => s1.2.2.1 _ _ (fun e => by unfold wyY at e; omega)
              exact ⟨e1, (sg.mono (fun _ e => Or.inl e) (fun _ _ e => Or.inl e)).tr (s1.mono (fun _ e => e) (fun a j e => by obtain ⟨rfl, e⟩ := e; rcases e with rfl | rfl | rfl | rfl | rfl; exact Or.inr ⟨rfl, Or.inl rfl⟩; exact Or.inr ⟨rfl, Or.inr rfl⟩; exact Or.inl (Or.inl (SY30 _)); exact Or.inl (Or.inl (SY31 _)); exact Or.inl (Or.inl (SY32 _)))), a1, a2, a3, a4, (z0 0 (by omega)).trans g0, (z0 2 (by omega)).trans g2, ⟨(z0 8 (by omega)).trans g8.1, g8.2.imp fun _ e => (z0 6 (by omega)).trans e⟩⟩
            · exact absurd rfl c100
          · cases e9
        · exfalso; omega
      · exact absurd c35 (by decide)
set_option maxHeartbeats 4000000 in
set_option maxRecDepth 100000 in
theorem c_M_work_no {l : Launch} {Z : EE} (hst : l.stackTraces = false) {h : PH} {m : Nat} (hM : ModS h m) {tp : Nat} (htp : hp_F h m 2 = .int (nI tp)) (ht6 : tp ≤ 600) (n : Int32) (hout : ¬ (nI 0 ≤ n ∧ n ≤ nI (min tp 150))) : CC l Z m_X11_work 14 0 0 [.ref m, .int n] h (MNo 1 1 m h) := by
  refine ee_entry hst (by decide +kernel) rfl rfl (by simp [Value.category]) (Nat.le_of_ble_eq_true rfl) ?_
  refine ww_lv (lv2 := [.ref m, .int n, UU, UU]) rfl ?_
  refine ww_aload_n dX11_work_0 rfl rfl ?_
  refine ww_iconst (v := nI 0) dX11_work_1 (by decide) ?_
  refine ww_pfI tyX11 0 dX11_work_2 hM.K0 rfl (by decide) inX11 tyX11_ok nmX11 wg_1240 rfl rfl ?_
  refine ww_aload_n dX11_work_5 rfl rfl ?_
  refine ww_iload_n dX11_work_6 rfl rfl ?_
  refine ww_if_lt (tgt := 29) dX11_work_7 (by decide) (fun c7 => ?_) (fun c7 => ?_)
  · refine ww_iconst (v := nI 0) dX11_work_29 (by decide) ?_
    refine ww_iconst (v := nI 1) dX11_work_30 (by decide) ?_
    refine ww_iconst (v := nI 1) dX11_work_31 (by decide) ?_
    refine ww_cVr (M := m_X11_work) (pc := 32) (v := .int (nI 0)) (h1 := hp_sI (hp_sF (hp_sF h m 0 (.int (nI 0))) m 0 (.int (nI 1))) (m + 1) (upd (hp_I (hp_sF h m 0 (.int (nI 0))) (m + 1)) 1 (hp_I (hp_sF h m 0 (.int (nI 0))) (m + 1) 1 + nI 1))) (st := []) (d := 14) (bc := 0) (bs := 0) (c_M_may_f hst (h := hp_sF h m 0 (.int (nI 0))) (hM.sF (by decide)) (hp_F_eq _ _ _ _) 1 1 (by decide) (by decide) (by decide)) vv_X11_may dX11_work_32 wg_1413 hM.K0 rfl rfl rfl rfl (Nat.le_of_ble_eq_true rfl) (Nat.le_of_ble_eq_true rfl) (Nat.le_of_ble_eq_true rfl) (Nat.le_of_ble_eq_true rfl) ?_
    refine ww_if_neN (tgt := 40) dX11_work_35 (by decide) (by omega) (fun c35 => ?_) (fun c35 => ?_)
    · exact absurd c35 (by decide)
    · refine ww_iconst (v := nI 0) dX11_work_38 (by decide) ?_
      exact ww_iret dX11_work_39 rfl ⟨rfl, (((Same.rf.sF (SY0 m)).sF (SY0 m)).sI (Or.inr rfl)), (hp_F_sI (hp_F_eq _ _ _ _)), by rw [hp_I_eq]; rfl⟩
  · refine ww_iload_n dX11_work_10 rfl rfl ?_
    refine ww_aload_n dX11_work_11 rfl rfl ?_
    refine ww_get 2 dX11_work_12 hM.K0 rfl (by decide) inX11 wg_1242 (hp_F_nj (by decide) htp) ?_
    refine ww_icmp_gt (tgt := 29) dX11_work_15 (by decide) (fun c15 => ?_) (fun c15 => ?_)
    · refine ww_iconst (v := nI 0) dX11_work_29 (by decide) ?_
      refine ww_iconst (v := nI 1) dX11_work_30 (by decide) ?_
      refine ww_iconst (v := nI 1) dX11_work_31 (by decide) ?_
      refine ww_cVr (M := m_X11_work) (pc := 32) (v := .int (nI 0)) (h1 := hp_sI (hp_sF (hp_sF h m 0 (.int (nI 0))) m 0 (.int (nI 1))) (m + 1) (upd (hp_I (hp_sF h m 0 (.int (nI 0))) (m + 1)) 1 (hp_I (hp_sF h m 0 (.int (nI 0))) (m + 1) 1 + nI 1))) (st := []) (d := 14) (bc := 0) (bs := 0) (c_M_may_f hst (h := hp_sF h m 0 (.int (nI 0))) (hM.sF (by decide)) (hp_F_eq _ _ _ _) 1 1 (by decide) (by decide) (by decide)) vv_X11_may dX11_work_32 wg_1413 hM.K0 rfl rfl rfl rfl (Nat.le_of_ble_eq_true rfl) (Nat.le_of_ble_eq_true rfl) (Nat.le_of_ble_eq_true rfl) (Nat.le_of_ble_eq_true rfl) ?_
      refine ww_if_neN (tgt := 40) dX11_work_35 (by decide) (by omega) (fun c35 => ?_) (fun c35 => ?_)
      · exact absurd c35 (by decide)
      · refine ww_iconst (v := nI 0) dX11_work_38 (by decide) ?_
        exact ww_iret dX11_work_39 rfl ⟨rfl, (((Same.rf.sF (SY0 m)).sF (SY0 m)).sI (Or.inr rfl)), (hp_F_sI (hp_F_eq _ _ _ _)), by rw [hp_I_eq]; rfl⟩
    · refine ww_iload_n dX11_work_18 rfl rfl ?_
      refine ww_sipush (v := nI 150) dX11_work_19 (by decide) ?_
      refine ww_icmp_gt (tgt := 29) dX11_work_22 (by decide) (fun c22 => ?_) (fun c22 => ?_)
      · refine ww_iconst (v := nI 0) dX11_work_29 (by decide) ?_
        refine ww_iconst (v := nI 1) dX11_work_30 (by decide) ?_
        refine ww_iconst (v := nI 1) dX11_work_31 (by decide) ?_
        refine ww_cVr (M := m_X11_work) (pc := 32) (v := .int (nI 0)) (h1 := hp_sI (hp_sF (hp_sF h m 0 (.int (nI 0))) m 0 (.int (nI 1))) (m + 1) (upd (hp_I (hp_sF h m 0 (.int (nI 0))) (m + 1)) 1 (hp_I (hp_sF h m 0 (.int (nI 0))) (m + 1) 1 + nI 1))) (st := []) (d := 14) (bc := 0) (bs := 0) (c_M_may_f hst (h := hp_sF h m 0 (.int (nI 0))) (hM.sF (by decide)) (hp_F_eq _ _ _ _) 1 1 (by decide) (by decide) (by decide)) vv_X11_may dX11_work_32 wg_1413 hM.K0 rfl rfl rfl rfl (Nat.le_of_ble_eq_true rfl) (Nat.le_of_ble_eq_true rfl) (Nat.le_of_ble_eq_true rfl) (Nat.le_of_ble_eq_true rfl) ?_
        refine ww_if_neN (tgt := 40) dX11_work_35 (by decide) (by omega) (fun c35 => ?_) (fun c35 => ?_)
        · exact absurd c35 (by decide)
        · refine ww_iconst (v := nI 0) dX11_work_38 (by decide) ?_
          exact ww_iret dX11_work_39 rfl ⟨rfl, (((Same.rf.sF (SY0 m)).sF (SY0 m)).sI (Or.inr rfl)), (hp_F_sI (hp_F_eq _ _ _ _)), by rw [hp_I_eq]; rfl⟩
      · exact absurd ⟨Int32.not_lt.mp c7, min_le (Int32.not_lt.mp c15) (Int32.not_lt.mp c22)⟩ hout
