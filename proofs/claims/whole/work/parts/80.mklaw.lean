/-! ===== law, as the reference answers it ===== -/
def SYt (m : Nat) : Nat → Nat → Prop := fun a j => SY m a j ∨ (a = m ∧ (j = 2 ∨ j = 8 ∨ j = 6))
def SXl (m : Nat) : Nat → Prop := fun c => SX m c ∨ c = m + 8 ∨ c = m + 9
def STY (m : Nat) : Nat → Nat → Prop := fun a j => a = m ∧ ((3 ≤ j ∧ j ≤ 8) ∨ j = 13 ∨ j = 14 ∨ j = 22 ∨ j = 27)
def SYl (m : Nat) : Nat → Nat → Prop := fun a j => STY m a j ∨ (a = m ∧ j = 23)
theorem STY_j {m j : Nat} (h : (3 ≤ j ∧ j ≤ 8) ∨ j = 13 ∨ j = 14 ∨ j = 22 ∨ j = 27) : STY m m j := ⟨rfl, h⟩
theorem STY_t {m a j : Nat} (h : STY m a j) : SYt m a j := by
  obtain ⟨rfl, h⟩ := h
  by_cases e8 : j = 8
  · exact Or.inr ⟨rfl, Or.inr (Or.inl e8)⟩
  by_cases e6 : j = 6
  · exact Or.inr ⟨rfl, Or.inr (Or.inr e6)⟩
  · refine Or.inl ⟨rfl, ?_⟩
    rcases (show j = 3 ∨ j = 4 ∨ j = 5 ∨ j = 7 ∨ j = 13 ∨ j = 14 ∨ j = 22 ∨ j = 27 by omega) with rfl | rfl | rfl | rfl | rfl | rfl | rfl | rfl <;> decide
/-- the reference's fields as a text begins -/
def bgS (h : PH) (m : Nat) : PH := hp_sF (hp_sF (hp_sF h m 0 (.int (nI 0))) m 2 (.int (nI 0))) m 8 (.int (-1))
theorem bgS_M {h : PH} {m : Nat} (hM : ModS h m) : ModS (bgS h m) m := by
  unfold bgS
  exact ((hM.sF (by decide)).sF (by decide)).sF (by decide)
theorem bgS_0 (h : PH) (m : Nat) : hp_F (bgS h m) m 0 = .int (nI 0) := hp_F_nj (by decide) (hp_F_nj (by decide) (hp_F_eq _ _ _ _))
theorem bgS_2 (h : PH) (m : Nat) : hp_F (bgS h m) m 2 = .int (nI 0) := hp_F_nj (by decide) (hp_F_eq _ _ _ _)
theorem bgS_j {h : PH} {m j : Nat} {v : Value} (h0 : j ≠ 0) (h2 : j ≠ 2) (h8 : j ≠ 8) (e : hp_F h m j = v) : hp_F (bgS h m) m j = v := hp_F_nj h8 (hp_F_nj h2 (hp_F_nj h0 e))
theorem bgS_s {h : PH} {m : Nat} : Same (SX m) (SYt m) h (bgS h m) := by
  unfold bgS
  exact Same.sF (Same.sF (Same.sF Same.rf (Or.inl ⟨rfl, by decide⟩)) (Or.inr ⟨rfl, Or.inl rfl⟩)) (Or.inr ⟨rfl, Or.inr (Or.inl rfl)⟩)
theorem mw_new (h : PH) (m n a : Nat) (bd bk : Int32) (op v : Nat) : hp_sF (mrS h m n a bd bk op) m 22 (.int (nI v)) = mrS (mwS h m (v, hp_I h (m + 6), hp_I h (m + 7))) m n a bd bk op := by
  refine hp_ext rfl (fun _ => rfl) (fun x j => ?_) (fun x => ?_) (fun _ => rfl)
  · show (if x = m ∧ j = 22 then _ else hp_F (mrS h m n a bd bk op) x j) = _
    rw [mrS_F, mrS_F, mwS_F]
    by_cases e : x = m ∧ j = 22
    · rw [if_pos e, if_neg (by omega), if_neg (by omega), if_neg (by omega), if_neg (by omega), if_neg (by omega), if_pos e]
    · rw [if_neg e, if_neg e]
  · show hp_I h x = hp_I (mwS h m (v, hp_I h (m + 6), hp_I h (m + 7))) x
    rw [mwS_I]
    by_cases e7 : x = m + 7
    · rw [if_pos e7, e7]
    · rw [if_neg e7]
      by_cases e6 : x = m + 6
      · rw [if_pos e6, e6]
      · rw [if_neg e6]
theorem SYt_s {m j : Nat} (h : j ∈ ([0, 3, 4, 5, 7, 13, 14, 22, 27, 30, 31, 32, 42, 43, 44, 45, 48, 49] : List Nat)) : SYt m m j := Or.inl ⟨rfl, h⟩
theorem SYt_8 {m : Nat} : SYt m m 8 := Or.inr ⟨rfl, Or.inr (Or.inl rfl)⟩
theorem SYt_2 {m : Nat} : SYt m m 2 := Or.inr ⟨rfl, Or.inl rfl⟩
/-- the fault's place, and its kind some int -/
def FtI (h9 : PH) (m : Nat) (x : Int32) : Prop := hp_F h9 m 8 = .int x ∧ ∃ b6 : Int32, hp_F h9 m 6 = .int b6
theorem FtI.of (h : PH) (m n a : Nat) (bd bk : Int32) (op : Nat) (x : Int32) : FtI (hp_sF (mrS h m n a bd bk op) m 8 (.int x)) m x := ⟨hp_F_eq _ _ _ _, bk, hp_F_nj (by decide) (mrS_6 _ _ _ _ _ _ _)⟩
theorem FtI.same {h h9 : PH} {m : Nat} {x : Int32} {X : Nat → Prop} {Y : Nat → Nat → Prop} (f : FtI h m x) (s : Same X Y h h9) (h8 : ¬ Y m 8) (h6 : ¬ Y m 6) : FtI h9 m x := ⟨(s.2.2.1 _ _ h8).trans f.1, f.2.imp fun _ e => (s.2.2.1 _ _ h6).trans e⟩
theorem SX_in {m i : Nat} (h : i ∈ ([3, 4, 5, 6, 7, 10, 11, 12, 13, 15, 17, 19, 20, 21, 22, 23, 24] : List Nat)) : SX m (m + i) := List.mem_map.mpr ⟨i, h, rfl⟩
theorem Same.mr {X : Nat → Prop} {h h1 : PH} {m : Nat} {Y : Nat → Nat → Prop} (a : Same X Y h h1) (hY : ∀ j, j = 3 ∨ j = 4 ∨ j = 5 ∨ j = 6 ∨ j = 7 → Y m j) (n b : Nat) (bd bk : Int32) (op : Nat) : Same X Y h (mrS h1 m n b bd bk op) := by
  unfold mrS
  exact ((((a.sF (hY 3 (by decide))).sF (hY 4 (by decide))).sF (hY 5 (by decide))).sF (hY 6 (by decide))).sF (hY 7 (by decide))
theorem Same.mw {X : Nat → Prop} {h h1 : PH} {m : Nat} {Y : Nat → Nat → Prop} (a : Same X Y h h1) (hX6 : X (m + 6)) (hX7 : X (m + 7)) (hY : Y m 22) (W : LWt) : Same X Y h (mwS h1 m W) := by
  unfold mwS
  exact ((a.sI hX6).sI hX7).sF hY
theorem STY_r {m j : Nat} (h : j = 3 ∨ j = 4 ∨ j = 5 ∨ j = 6 ∨ j = 7) : STY m m j := STY_j (by omega)
theorem same_mw {h : PH} {m : Nat} (W : LWt) (n a : Nat) (bd bk : Int32) (op : Nat) : Same (SX m) (STY m) h (mrS (mwS h m W) m n a bd bk op) :=
  Same.mr (Same.mw Same.rf (SX_in (by decide)) (SX_in (by decide)) (STY_j (by decide)) W) (fun j hj => STY_r hj) n a bd bk op
set_option maxHeartbeats 4000000 in
set_option maxRecDepth 100000 in
theorem l_ML_law93 {l : Launch} {Z : EE} (hst : l.stackTraces = false) {g : PH} {m : Nat} (hM : ModS g m) {sz : Nat} {nc no : Nat → Int32} (h22 : hp_F g m 22 = .int (nI sz)) (hnc : hp_I g (m + 6) = nc) (hno : hp_I g (m + 7) = no) (hsz : sz ≤ 150) (n : Nat) : WW l Z m_X11_law 33 0 0 93 [.ref m, .int (nI n), .int (nI 1)] [] g (RQ (some (.int (nI 1))) (fun h9 => Same (fun c => c = m + 8 ∨ c = m + 9) (fun a j => a = m ∧ j = 23) g h9 ∧ hp_F h9 m 23 = .int (nI sz) ∧ hp_I h9 (m + 8) = cpF nc (hp_I g (m + 8)) sz ∧ hp_I h9 (m + 9) = cpF no (hp_I g (m + 9)) sz)) := by
  refine ww_aload_n dX11_law_93 rfl rfl ?_
  refine ww_aload_n dX11_law_94 rfl rfl ?_
  refine ww_get 22 dX11_law_95 hM.K0 rfl (by decide) inX11 wg_1262 h22 ?_
  refine ww_pfI tyX11 23 dX11_law_98 hM.K0 rfl (by decide) inX11 tyX11_ok nmX11 wg_1263 rfl rfl ?_
  refine ww_aload_n dX11_law_101 rfl rfl ?_
  refine ww_aload_n dX11_law_102 rfl rfl ?_
  refine ww_get 17 dX11_law_103 hM.K0 rfl (by decide) inX11 wg_1257 (hp_F_nj (by decide) hM.F6) ?_
  refine ww_aload_n dX11_law_106 rfl rfl ?_
  refine ww_get 19 dX11_law_107 hM.K0 rfl (by decide) inX11 wg_1259 (hp_F_nj (by decide) hM.F8) ?_
  refine ww_aload_n dX11_law_110 rfl rfl ?_
  refine ww_get 22 dX11_law_111 hM.K0 rfl (by decide) inX11 wg_1262 (hp_F_nj (by decide) h22) ?_
  refine ww_cV0 (M := m_X11_law) (pc := 114) (h1 := hp_sI (hp_sF g m 23 (.int (nI sz))) (m + 8) (cpF nc (hp_I g (m + 8)) sz)) (st := []) (d := 33) (bc := 0) (bs := 0) (c_M_copies hst (h := hp_sF g m 23 (.int (nI sz))) (hM.sF (by decide)) hM.K6 hM.K8 (by omega) hnc rfl sz (by omega) (by omega) (by omega) (by omega)) vv_X11_copies dX11_law_114 wg_1516 hM.K0 rfl rfl rfl rfl (Nat.le_of_ble_eq_true rfl) (Nat.le_of_ble_eq_true rfl) (Nat.le_of_ble_eq_true rfl) (Nat.le_of_ble_eq_true rfl) ?_
  refine ww_aload_n dX11_law_117 rfl rfl ?_
  refine ww_aload_n dX11_law_118 rfl rfl ?_
  refine ww_get 18 dX11_law_119 hM.K0 rfl (by decide) inX11 wg_1258 (hp_F_sI (hp_F_nj (by decide) hM.F7)) ?_
  refine ww_aload_n dX11_law_122 rfl rfl ?_
  refine ww_get 20 dX11_law_123 hM.K0 rfl (by decide) inX11 wg_1260 (hp_F_sI (hp_F_nj (by decide) hM.F9)) ?_
  refine ww_aload_n dX11_law_126 rfl rfl ?_
  refine ww_get 22 dX11_law_127 hM.K0 rfl (by decide) inX11 wg_1262 (hp_F_sI (hp_F_nj (by decide) h22)) ?_
  refine ww_cV0 (M := m_X11_law) (pc := 130) (h1 := hp_sI (hp_sI (hp_sF g m 23 (.int (nI sz))) (m + 8) (cpF nc (hp_I g (m + 8)) sz)) (m + 9) (cpF no (hp_I g (m + 9)) sz)) (st := []) (d := 33) (bc := 0) (bs := 0) (c_M_copies hst (h := hp_sI (hp_sF g m 23 (.int (nI sz))) (m + 8) (cpF nc (hp_I g (m + 8)) sz)) (hM.sF (by decide)) hM.K7 hM.K9 (by omega) (hp_I_nx (by omega) hno) (hp_I_nx (by omega) rfl) sz (by omega) (by omega) (by omega) (by omega)) vv_X11_copies dX11_law_130 wg_1516 hM.K0 rfl rfl rfl rfl (Nat.le_of_ble_eq_true rfl) (Nat.le_of_ble_eq_true rfl) (Nat.le_of_ble_eq_true rfl) (Nat.le_of_ble_eq_true rfl) ?_
  refine ww_iload_n dX11_law_133 rfl rfl ?_
  exact ww_iret dX11_law_134 rfl ⟨rfl, Same.sI (Same.sI (Same.sF Same.rf ⟨rfl, rfl⟩) (Or.inl rfl)) (Or.inr rfl), (hp_F_sI (hp_F_sI (hp_F_eq _ _ _ _))), (hp_I_nx (by omega) (hp_I_eq _ _ _)), (hp_I_eq _ _ _)⟩
set_option maxHeartbeats 4000000 in
set_option maxRecDepth 100000 in
theorem l_ML_law_r {l : Launch} {Z : EE} (hst : l.stackTraces = false) {h : PH} {m : Nat} (hM : ModS h m) {tf : Nat → Int32} (htf : hp_I h (m + 2) = tf) {T : Nat → Nat} (hB : BT tf T) {n : Nat} (hn : n ≤ 600) (bk : Int32) (hn5 : n ≤ 150) (kf0 vf0 : Nat → Int32) {a9 : Nat} {M9 : LWt} (hr : lawS T n (0, kf0, vf0) = .inr (a9, M9)) : WW l Z m_X11_law 33 0 0 45 [.ref m, .int (nI n), UU] [] (mrS h m n 0 (-1) bk 0) (RQ (some (.int (nI 1))) (fun h9 => Same (SXl m) (SYl m) h h9 ∧ LawM h9 m M9.1 M9.2.1 M9.2.2 ∧ FtI h9 m (-1))) := by
  refine ww_aload_n dX11_law_45 rfl rfl ?_
  refine ww_iconst (v := nI 0) dX11_law_46 (by decide) ?_
  refine ww_pfI tyX11 22 dX11_law_47 hM.K0 rfl (by decide) inX11 tyX11_ok nmX11 wg_1262 rfl rfl ?_
  refine ww_hp (h2 := mrS (mwS h m ((0, hp_I h (m + 6), hp_I h (m + 7)))) m n 0 (-1) bk 0) (mw_new _ _ _ _ _ _ _ _) ?_
  refine ww_aload_n dX11_law_50 rfl rfl ?_
  have hg5001 := sumS_G (T := T) (unitK_G T n 6) 0 (0, kf0, vf0) (Nat.zero_le _)
  refine ww_cVq0 (M := m_X11_law) (pc := 51) (st := []) (d := 33) (bc := 0) (bs := 0) (c_Mw_sumT hst hM htf hB hn bk hn5 0 (0, kf0, vf0) (0, hp_I h (m + 6), hp_I h (m + 7)) (Nat.zero_le _) (Nat.le_refl _) ⟨rfl, fun i hi => absurd hi (Nat.not_lt_zero i)⟩) vv_X11_readSum dX11_law_51 wg_1479 ((mwS_M hM ((0, hp_I h (m + 6), hp_I h (m + 7)))).K0) rfl rfl rfl rfl (Nat.le_of_ble_eq_true rfl) (Nat.le_of_ble_eq_true rfl) (Nat.le_of_ble_eq_true rfl) (Nat.le_of_ble_eq_true rfl) (fun ho5001 qo5001 => ?_)
  rcases hr5001 : sumS (unitK T n 6) T n 0 (0, kf0, vf0) with ⟨k5001, q5001⟩ | ⟨a5001, L5001⟩
  · rw [hr5001] at qo5001
    obtain ⟨x5001, W5001, hx5001, rfl⟩ := qo5001
    have hf5001 := (hg5001).l hr5001
    refine ww_aload_n dX11_law_54 rfl rfl ?_
    refine ww_cVr (M := m_X11_law) (pc := 55) (v := .int (nI 0)) (h1 := mrS (mwS h m W5001) m n x5001 (nI q5001) (nI k5001) 0) (st := []) (d := 33) (bc := 0) (bs := 0) (c_MR_fine_f hst (mwS_M hM W5001) (mwS_t (W := W5001) htf) hB hn x5001 (nI k5001) 0 q5001 (by omega)) vv_X11_fine dX11_law_55 wg_1421 ((mwS_M hM W5001).K0) rfl rfl rfl rfl (Nat.le_of_ble_eq_true rfl) (Nat.le_of_ble_eq_true rfl) (Nat.le_of_ble_eq_true rfl) (Nat.le_of_ble_eq_true rfl) ?_
    refine ww_if_eqN (tgt := 77) dX11_law_58 (by decide) (by omega) (fun c58 => ?_) (fun c58 => ?_)
    · refine ww_aload_n dX11_law_77 rfl rfl ?_
      refine ww_iconst (v := nI 1) dX11_law_78 (by decide) ?_
      refine ww_cVr (M := m_X11_law) (pc := 79) (v := .int (nI k5001 - nI 10)) (h1 := hp_sF (mrS (mwS h m W5001) m n x5001 (nI q5001) (nI k5001) 0) m 8 (.int (nI q5001))) (st := []) (d := 33) (bc := 0) (bs := 0) (c_MR_result_f hst (mwS_M hM W5001) (mwS_t (W := W5001) htf) hB hn x5001 (nI k5001) 0 q5001 (by omega) (nI 1)) vv_X11_result dX11_law_79 wg_1471 ((mwS_M hM W5001).K0) rfl rfl rfl rfl (Nat.le_of_ble_eq_true rfl) (Nat.le_of_ble_eq_true rfl) (Nat.le_of_ble_eq_true rfl) (Nat.le_of_ble_eq_true rfl) ?_
      refine ww_sti_n (lv2 := [.ref m, .int (nI n), .int (nI k5001 - nI 10)]) dX11_law_82 rfl rfl (by decide) rfl ?_
      refine ww_aload_n dX11_law_83 rfl rfl ?_
      refine ww_get 5 dX11_law_84 ((mwS_M hM W5001).K0) rfl (by decide) inX11 wg_1245 (hp_F_nj (by decide) (mrS_5 _ _ _ _ _ _ _)) ?_
      refine ww_iconst (v := -1) dX11_law_87 (by decide) ?_
      refine ww_icmp_eq (tgt := 93) dX11_law_88 (by decide) (fun c88 => ?_) (fun c88 => ?_)
      · exact absurd c88 (nI_m1 (by omega))
      · refine ww_iload_n dX11_law_91 rfl rfl ?_
        exact ww_iret dX11_law_92 rfl (by exfalso; unfold lawS at hr; rw [hr5001, bS_l] at hr; cases hr)
    · exact absurd c58 (by decide)
  · rw [hr5001] at qo5001
    obtain ⟨W5001, hw5001, rfl⟩ := qo5001
    have hf5001 := (hg5001).r hr5001
    have hw5001 : MwR L5001 W5001 := hw5001
    have hW5001 : W5001.1 = L5001.1 := hw5001.1
    refine ww_aload_n dX11_law_54 rfl rfl ?_
    refine ww_cVr (M := m_X11_law) (pc := 55) (v := .int (nI 1)) (h1 := mrS (mwS h m W5001) m n a5001 (-1) bk 0) (st := []) (d := 33) (bc := 0) (bs := 0) (c_MR_fine_t hst (mwS_M hM W5001) (mwS_t (W := W5001) htf) hB hn a5001 bk 0) vv_X11_fine dX11_law_55 wg_1421 ((mwS_M hM W5001).K0) rfl rfl rfl rfl (Nat.le_of_ble_eq_true rfl) (Nat.le_of_ble_eq_true rfl) (Nat.le_of_ble_eq_true rfl) (Nat.le_of_ble_eq_true rfl) ?_
    refine ww_if_eqN (tgt := 77) dX11_law_58 (by decide) (by omega) (fun c58 => ?_) (fun c58 => ?_)
    · exact absurd c58 (by decide)
    · refine ww_aload_n dX11_law_61 rfl rfl ?_
      have hsl5002 := sk_le (T := T) (show a5001 ≤ n by omega)
      by_cases hl5002 : sk T n a5001 < n
      · refine ww_cVr (M := m_X11_law) (pc := 62) (v := .int (nI 1)) (h1 := mrS (mwS h m W5001) m n (sk T n a5001) (-1) bk 0) (st := []) (d := 33) (bc := 0) (bs := 0) (c_MR_more_t hst (mwS_M hM W5001) (mwS_t (W := W5001) htf) hB hn (-1) bk 0 a5001 (by omega) hl5002) vv_X11_isMore dX11_law_62 wg_1425 ((mwS_M hM W5001).K0) rfl rfl rfl rfl (Nat.le_of_ble_eq_true rfl) (Nat.le_of_ble_eq_true rfl) (Nat.le_of_ble_eq_true rfl) (Nat.le_of_ble_eq_true rfl) ?_
        refine ww_if_eqN (tgt := 77) dX11_law_65 (by decide) (by omega) (fun c65 => ?_) (fun c65 => ?_)
        · exact absurd c65 (by decide)
        · refine ww_aload_n dX11_law_68 rfl rfl ?_
          refine ww_iconst (v := nI 1) dX11_law_69 (by decide) ?_
          refine ww_aload_n dX11_law_70 rfl rfl ?_
          refine ww_get 4 dX11_law_71 ((mwS_M hM W5001).K0) rfl (by decide) inX11 wg_1244 (mrS_4 _ _ _ _ _ _ _) ?_
          refine ww_cV0 (M := m_X11_law) (pc := 74) (h1 := mrS (mwS h m W5001) m n (sk T n a5001) (nI (sk T n a5001)) (nI 1) 0) (st := []) (d := 33) (bc := 0) (bs := 0) (c_MR_wrong_t hst (mwS_M hM W5001) (mwS_t (W := W5001) htf) hB hn (sk T n a5001) bk 0 (nI 1) (nI (sk T n a5001))) vv_X11_wrong dX11_law_74 wg_1448 ((mwS_M hM W5001).K0) rfl rfl rfl rfl (Nat.le_of_ble_eq_true rfl) (Nat.le_of_ble_eq_true rfl) (Nat.le_of_ble_eq_true rfl) (Nat.le_of_ble_eq_true rfl) ?_
          refine ww_aload_n dX11_law_77 rfl rfl ?_
          refine ww_iconst (v := nI 1) dX11_law_78 (by decide) ?_
          refine ww_cVr (M := m_X11_law) (pc := 79) (v := .int (nI 1 - nI 10)) (h1 := hp_sF (mrS (mwS h m W5001) m n (sk T n a5001) (nI (sk T n a5001)) (nI 1) 0) m 8 (.int (nI (sk T n a5001)))) (st := []) (d := 33) (bc := 0) (bs := 0) (c_MR_result_f hst (mwS_M hM W5001) (mwS_t (W := W5001) htf) hB hn (sk T n a5001) (nI 1) 0 (sk T n a5001) (by omega) (nI 1)) vv_X11_result dX11_law_79 wg_1471 ((mwS_M hM W5001).K0) rfl rfl rfl rfl (Nat.le_of_ble_eq_true rfl) (Nat.le_of_ble_eq_true rfl) (Nat.le_of_ble_eq_true rfl) (Nat.le_of_ble_eq_true rfl) ?_
          refine ww_sti_n (lv2 := [.ref m, .int (nI n), .int (nI 1 - nI 10)]) dX11_law_82 rfl rfl (by decide) rfl ?_
          refine ww_aload_n dX11_law_83 rfl rfl ?_
          refine ww_get 5 dX11_law_84 ((mwS_M hM W5001).K0) rfl (by decide) inX11 wg_1245 (hp_F_nj (by decide) (mrS_5 _ _ _ _ _ _ _)) ?_
          refine ww_iconst (v := -1) dX11_law_87 (by decide) ?_
          refine ww_icmp_eq (tgt := 93) dX11_law_88 (by decide) (fun c88 => ?_) (fun c88 => ?_)
          · exact absurd c88 (nI_m1 (by omega))
          · refine ww_iload_n dX11_law_91 rfl rfl ?_
            exact ww_iret dX11_law_92 rfl (by exfalso; unfold lawS at hr; rw [hr5001, bS_r, if_pos (by assumption)] at hr; cases hr)
      · refine ww_cVr (M := m_X11_law) (pc := 62) (v := .int (nI 0)) (h1 := mrS (mwS h m W5001) m n n (-1) bk 0) (st := []) (d := 33) (bc := 0) (bs := 0) (c_MR_more_f hst (mwS_M hM W5001) (mwS_t (W := W5001) htf) hB hn (-1) bk 0 a5001 (by omega) hl5002) vv_X11_isMore dX11_law_62 wg_1425 ((mwS_M hM W5001).K0) rfl rfl rfl rfl (Nat.le_of_ble_eq_true rfl) (Nat.le_of_ble_eq_true rfl) (Nat.le_of_ble_eq_true rfl) (Nat.le_of_ble_eq_true rfl) ?_
        refine ww_if_eqN (tgt := 77) dX11_law_65 (by decide) (by omega) (fun c65 => ?_) (fun c65 => ?_)
        · refine ww_aload_n dX11_law_77 rfl rfl ?_
          refine ww_iconst (v := nI 1) dX11_law_78 (by decide) ?_
          refine ww_cVr (M := m_X11_law) (pc := 79) (v := .int (nI 1)) (h1 := hp_sF (mrS (mwS h m W5001) m n n (-1) bk 0) m 8 (.int (-1))) (st := []) (d := 33) (bc := 0) (bs := 0) (c_MR_result_t hst (mwS_M hM W5001) (mwS_t (W := W5001) htf) hB hn n bk 0 (nI 1)) vv_X11_result dX11_law_79 wg_1471 ((mwS_M hM W5001).K0) rfl rfl rfl rfl (Nat.le_of_ble_eq_true rfl) (Nat.le_of_ble_eq_true rfl) (Nat.le_of_ble_eq_true rfl) (Nat.le_of_ble_eq_true rfl) ?_
          refine ww_sti_n (lv2 := [.ref m, .int (nI n), .int (nI 1)]) dX11_law_82 rfl rfl (by decide) rfl ?_
          refine ww_aload_n dX11_law_83 rfl rfl ?_
          refine ww_get 5 dX11_law_84 ((mwS_M hM W5001).K0) rfl (by decide) inX11 wg_1245 (hp_F_nj (by decide) (mrS_5 _ _ _ _ _ _ _)) ?_
          refine ww_iconst (v := -1) dX11_law_87 (by decide) ?_
          refine ww_icmp_eq (tgt := 93) dX11_law_88 (by decide) (fun c88 => ?_) (fun c88 => ?_)
          · unfold lawS at hr
            rw [hr5001, bS_r, if_neg (by assumption)] at hr
            cases hr
            refine ww_post (fun r h9 hp => ?_) (l_ML_law93 hst (g := hp_sF (mrS (mwS h m W5001) m n n (-1) bk 0) m 8 (.int (-1))) ((mrS_M (mwS_M hM W5001) _ _ _ _ _).sF (by decide)) (hp_F_nj (by decide) (mrS_j _ _ _ _ _ (by decide) (mwS_22 h m W5001))) (mwS_6 h m W5001) (mwS_7 h m W5001) (by omega) n)
            obtain ⟨e1, s1, f1, f2, f3⟩ := hp
            have s0 : Same (SXl m) (SYl m) h (hp_sF (mrS (mwS h m W5001) m n n (-1) bk 0) m 8 (.int (-1))) := (Same.sF (same_mw W5001 _ _ _ _ _) (STY_j (by decide))).mono (fun _ e => Or.inl e) (fun _ _ e => Or.inl e)
            have s2 := s0.tr (s1.mono (fun _ e => Or.inr e) (fun _ _ e => Or.inr e))
            refine ⟨e1, s2, ⟨by rw [← hW5001]; exact f1, by omega, fun i hi k hk e => ?_, fun i hi => ?_⟩, (FtI.of _ _ _ _ _ _ _ _).same s1 (fun e => by omega) (fun e => by omega)⟩
            · rw [f2]; show cpF _ _ _ i = _; unfold cpF; rw [if_pos (by omega)]; exact (hw5001.2 i hi).1 k hk e
            · rw [f3]; show cpF _ _ _ i = _; unfold cpF; rw [if_pos (by omega)]; exact (hw5001.2 i hi).2
          · exact absurd rfl c88
        · exact absurd c65 (by decide)
set_option maxHeartbeats 4000000 in
set_option maxRecDepth 100000 in
theorem l_ML_law_l {l : Launch} {Z : EE} (hst : l.stackTraces = false) {h : PH} {m : Nat} (hM : ModS h m) {tf : Nat → Int32} (htf : hp_I h (m + 2) = tf) {T : Nat → Nat} (hB : BT tf T) {n : Nat} (hn : n ≤ 600) (bk : Int32) (hn5 : n ≤ 150) (kf0 vf0 : Nat → Int32) {k9 q9 : Nat} (hr : lawS T n (0, kf0, vf0) = .inl (k9, q9)) : WW l Z m_X11_law 33 0 0 45 [.ref m, .int (nI n), UU] [] (mrS h m n 0 (-1) bk 0) (RQ (some (.int (nI k9 - nI 10))) (fun h9 => Same (SX m) (STY m) h h9 ∧ FtI h9 m (nI q9))) := by
  refine ww_aload_n dX11_law_45 rfl rfl ?_
  refine ww_iconst (v := nI 0) dX11_law_46 (by decide) ?_
  refine ww_pfI tyX11 22 dX11_law_47 hM.K0 rfl (by decide) inX11 tyX11_ok nmX11 wg_1262 rfl rfl ?_
  refine ww_hp (h2 := mrS (mwS h m ((0, hp_I h (m + 6), hp_I h (m + 7)))) m n 0 (-1) bk 0) (mw_new _ _ _ _ _ _ _ _) ?_
  refine ww_aload_n dX11_law_50 rfl rfl ?_
  have hg5003 := sumS_G (T := T) (unitK_G T n 6) 0 (0, kf0, vf0) (Nat.zero_le _)
  refine ww_cVq0 (M := m_X11_law) (pc := 51) (st := []) (d := 33) (bc := 0) (bs := 0) (c_Mw_sumT hst hM htf hB hn bk hn5 0 (0, kf0, vf0) (0, hp_I h (m + 6), hp_I h (m + 7)) (Nat.zero_le _) (Nat.le_refl _) ⟨rfl, fun i hi => absurd hi (Nat.not_lt_zero i)⟩) vv_X11_readSum dX11_law_51 wg_1479 ((mwS_M hM ((0, hp_I h (m + 6), hp_I h (m + 7)))).K0) rfl rfl rfl rfl (Nat.le_of_ble_eq_true rfl) (Nat.le_of_ble_eq_true rfl) (Nat.le_of_ble_eq_true rfl) (Nat.le_of_ble_eq_true rfl) (fun ho5003 qo5003 => ?_)
  rcases hr5003 : sumS (unitK T n 6) T n 0 (0, kf0, vf0) with ⟨k5003, q5003⟩ | ⟨a5003, L5003⟩
  · rw [hr5003] at qo5003
    obtain ⟨x5003, W5003, hx5003, rfl⟩ := qo5003
    have hf5003 := (hg5003).l hr5003
    refine ww_aload_n dX11_law_54 rfl rfl ?_
    refine ww_cVr (M := m_X11_law) (pc := 55) (v := .int (nI 0)) (h1 := mrS (mwS h m W5003) m n x5003 (nI q5003) (nI k5003) 0) (st := []) (d := 33) (bc := 0) (bs := 0) (c_MR_fine_f hst (mwS_M hM W5003) (mwS_t (W := W5003) htf) hB hn x5003 (nI k5003) 0 q5003 (by omega)) vv_X11_fine dX11_law_55 wg_1421 ((mwS_M hM W5003).K0) rfl rfl rfl rfl (Nat.le_of_ble_eq_true rfl) (Nat.le_of_ble_eq_true rfl) (Nat.le_of_ble_eq_true rfl) (Nat.le_of_ble_eq_true rfl) ?_
    refine ww_if_eqN (tgt := 77) dX11_law_58 (by decide) (by omega) (fun c58 => ?_) (fun c58 => ?_)
    · refine ww_aload_n dX11_law_77 rfl rfl ?_
      refine ww_iconst (v := nI 1) dX11_law_78 (by decide) ?_
      refine ww_cVr (M := m_X11_law) (pc := 79) (v := .int (nI k5003 - nI 10)) (h1 := hp_sF (mrS (mwS h m W5003) m n x5003 (nI q5003) (nI k5003) 0) m 8 (.int (nI q5003))) (st := []) (d := 33) (bc := 0) (bs := 0) (c_MR_result_f hst (mwS_M hM W5003) (mwS_t (W := W5003) htf) hB hn x5003 (nI k5003) 0 q5003 (by omega) (nI 1)) vv_X11_result dX11_law_79 wg_1471 ((mwS_M hM W5003).K0) rfl rfl rfl rfl (Nat.le_of_ble_eq_true rfl) (Nat.le_of_ble_eq_true rfl) (Nat.le_of_ble_eq_true rfl) (Nat.le_of_ble_eq_true rfl) ?_
      refine ww_sti_n (lv2 := [.ref m, .int (nI n), .int (nI k5003 - nI 10)]) dX11_law_82 rfl rfl (by decide) rfl ?_
      refine ww_aload_n dX11_law_83 rfl rfl ?_
      refine ww_get 5 dX11_law_84 ((mwS_M hM W5003).K0) rfl (by decide) inX11 wg_1245 (hp_F_nj (by decide) (mrS_5 _ _ _ _ _ _ _)) ?_
      refine ww_iconst (v := -1) dX11_law_87 (by decide) ?_
      refine ww_icmp_eq (tgt := 93) dX11_law_88 (by decide) (fun c88 => ?_) (fun c88 => ?_)
      · exact absurd c88 (nI_m1 (by omega))
      · refine ww_iload_n dX11_law_91 rfl rfl ?_
        exact ww_iret dX11_law_92 rfl (by unfold lawS at hr; rw [hr5003, bS_l] at hr; cases hr; exact ⟨rfl, Same.sF (same_mw W5003 _ _ _ _ _) (STY_j (by decide)), FtI.of _ _ _ _ _ _ _ _⟩)
    · exact absurd c58 (by decide)
  · rw [hr5003] at qo5003
    obtain ⟨W5003, hw5003, rfl⟩ := qo5003
    have hf5003 := (hg5003).r hr5003
    have hw5003 : MwR L5003 W5003 := hw5003
    have hW5003 : W5003.1 = L5003.1 := hw5003.1
    refine ww_aload_n dX11_law_54 rfl rfl ?_
    refine ww_cVr (M := m_X11_law) (pc := 55) (v := .int (nI 1)) (h1 := mrS (mwS h m W5003) m n a5003 (-1) bk 0) (st := []) (d := 33) (bc := 0) (bs := 0) (c_MR_fine_t hst (mwS_M hM W5003) (mwS_t (W := W5003) htf) hB hn a5003 bk 0) vv_X11_fine dX11_law_55 wg_1421 ((mwS_M hM W5003).K0) rfl rfl rfl rfl (Nat.le_of_ble_eq_true rfl) (Nat.le_of_ble_eq_true rfl) (Nat.le_of_ble_eq_true rfl) (Nat.le_of_ble_eq_true rfl) ?_
    refine ww_if_eqN (tgt := 77) dX11_law_58 (by decide) (by omega) (fun c58 => ?_) (fun c58 => ?_)
    · exact absurd c58 (by decide)
    · refine ww_aload_n dX11_law_61 rfl rfl ?_
      have hsl5004 := sk_le (T := T) (show a5003 ≤ n by omega)
      by_cases hl5004 : sk T n a5003 < n
      · refine ww_cVr (M := m_X11_law) (pc := 62) (v := .int (nI 1)) (h1 := mrS (mwS h m W5003) m n (sk T n a5003) (-1) bk 0) (st := []) (d := 33) (bc := 0) (bs := 0) (c_MR_more_t hst (mwS_M hM W5003) (mwS_t (W := W5003) htf) hB hn (-1) bk 0 a5003 (by omega) hl5004) vv_X11_isMore dX11_law_62 wg_1425 ((mwS_M hM W5003).K0) rfl rfl rfl rfl (Nat.le_of_ble_eq_true rfl) (Nat.le_of_ble_eq_true rfl) (Nat.le_of_ble_eq_true rfl) (Nat.le_of_ble_eq_true rfl) ?_
        refine ww_if_eqN (tgt := 77) dX11_law_65 (by decide) (by omega) (fun c65 => ?_) (fun c65 => ?_)
        · exact absurd c65 (by decide)
        · refine ww_aload_n dX11_law_68 rfl rfl ?_
          refine ww_iconst (v := nI 1) dX11_law_69 (by decide) ?_
          refine ww_aload_n dX11_law_70 rfl rfl ?_
          refine ww_get 4 dX11_law_71 ((mwS_M hM W5003).K0) rfl (by decide) inX11 wg_1244 (mrS_4 _ _ _ _ _ _ _) ?_
          refine ww_cV0 (M := m_X11_law) (pc := 74) (h1 := mrS (mwS h m W5003) m n (sk T n a5003) (nI (sk T n a5003)) (nI 1) 0) (st := []) (d := 33) (bc := 0) (bs := 0) (c_MR_wrong_t hst (mwS_M hM W5003) (mwS_t (W := W5003) htf) hB hn (sk T n a5003) bk 0 (nI 1) (nI (sk T n a5003))) vv_X11_wrong dX11_law_74 wg_1448 ((mwS_M hM W5003).K0) rfl rfl rfl rfl (Nat.le_of_ble_eq_true rfl) (Nat.le_of_ble_eq_true rfl) (Nat.le_of_ble_eq_true rfl) (Nat.le_of_ble_eq_true rfl) ?_
          refine ww_aload_n dX11_law_77 rfl rfl ?_
          refine ww_iconst (v := nI 1) dX11_law_78 (by decide) ?_
          refine ww_cVr (M := m_X11_law) (pc := 79) (v := .int (nI 1 - nI 10)) (h1 := hp_sF (mrS (mwS h m W5003) m n (sk T n a5003) (nI (sk T n a5003)) (nI 1) 0) m 8 (.int (nI (sk T n a5003)))) (st := []) (d := 33) (bc := 0) (bs := 0) (c_MR_result_f hst (mwS_M hM W5003) (mwS_t (W := W5003) htf) hB hn (sk T n a5003) (nI 1) 0 (sk T n a5003) (by omega) (nI 1)) vv_X11_result dX11_law_79 wg_1471 ((mwS_M hM W5003).K0) rfl rfl rfl rfl (Nat.le_of_ble_eq_true rfl) (Nat.le_of_ble_eq_true rfl) (Nat.le_of_ble_eq_true rfl) (Nat.le_of_ble_eq_true rfl) ?_
          refine ww_sti_n (lv2 := [.ref m, .int (nI n), .int (nI 1 - nI 10)]) dX11_law_82 rfl rfl (by decide) rfl ?_
          refine ww_aload_n dX11_law_83 rfl rfl ?_
          refine ww_get 5 dX11_law_84 ((mwS_M hM W5003).K0) rfl (by decide) inX11 wg_1245 (hp_F_nj (by decide) (mrS_5 _ _ _ _ _ _ _)) ?_
          refine ww_iconst (v := -1) dX11_law_87 (by decide) ?_
          refine ww_icmp_eq (tgt := 93) dX11_law_88 (by decide) (fun c88 => ?_) (fun c88 => ?_)
          · exact absurd c88 (nI_m1 (by omega))
          · refine ww_iload_n dX11_law_91 rfl rfl ?_
            exact ww_iret dX11_law_92 rfl (by unfold lawS at hr; rw [hr5003, bS_r, if_pos (by assumption)] at hr; cases hr; exact ⟨rfl, Same.sF (same_mw W5003 _ _ _ _ _) (STY_j (by decide)), FtI.of _ _ _ _ _ _ _ _⟩)
      · refine ww_cVr (M := m_X11_law) (pc := 62) (v := .int (nI 0)) (h1 := mrS (mwS h m W5003) m n n (-1) bk 0) (st := []) (d := 33) (bc := 0) (bs := 0) (c_MR_more_f hst (mwS_M hM W5003) (mwS_t (W := W5003) htf) hB hn (-1) bk 0 a5003 (by omega) hl5004) vv_X11_isMore dX11_law_62 wg_1425 ((mwS_M hM W5003).K0) rfl rfl rfl rfl (Nat.le_of_ble_eq_true rfl) (Nat.le_of_ble_eq_true rfl) (Nat.le_of_ble_eq_true rfl) (Nat.le_of_ble_eq_true rfl) ?_
        refine ww_if_eqN (tgt := 77) dX11_law_65 (by decide) (by omega) (fun c65 => ?_) (fun c65 => ?_)
        · refine ww_aload_n dX11_law_77 rfl rfl ?_
          refine ww_iconst (v := nI 1) dX11_law_78 (by decide) ?_
          refine ww_cVr (M := m_X11_law) (pc := 79) (v := .int (nI 1)) (h1 := hp_sF (mrS (mwS h m W5003) m n n (-1) bk 0) m 8 (.int (-1))) (st := []) (d := 33) (bc := 0) (bs := 0) (c_MR_result_t hst (mwS_M hM W5003) (mwS_t (W := W5003) htf) hB hn n bk 0 (nI 1)) vv_X11_result dX11_law_79 wg_1471 ((mwS_M hM W5003).K0) rfl rfl rfl rfl (Nat.le_of_ble_eq_true rfl) (Nat.le_of_ble_eq_true rfl) (Nat.le_of_ble_eq_true rfl) (Nat.le_of_ble_eq_true rfl) ?_
          refine ww_sti_n (lv2 := [.ref m, .int (nI n), .int (nI 1)]) dX11_law_82 rfl rfl (by decide) rfl ?_
          refine ww_aload_n dX11_law_83 rfl rfl ?_
          refine ww_get 5 dX11_law_84 ((mwS_M hM W5003).K0) rfl (by decide) inX11 wg_1245 (hp_F_nj (by decide) (mrS_5 _ _ _ _ _ _ _)) ?_
          refine ww_iconst (v := -1) dX11_law_87 (by decide) ?_
          refine ww_icmp_eq (tgt := 93) dX11_law_88 (by decide) (fun c88 => ?_) (fun c88 => ?_)
          · exfalso
            unfold lawS at hr
            rw [hr5003, bS_r, if_neg (by assumption)] at hr
            cases hr
          · exact absurd rfl c88
        · exact absurd c65 (by decide)
