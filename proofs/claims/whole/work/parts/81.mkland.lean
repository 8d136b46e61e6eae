/-! ===== land, as the reference answers it ===== -/
theorem ml_new (h : PH) (m n a : Nat) (bd bk : Int32) (op : Nat) : hp_sF (hp_sF (mrS h m n a bd bk op) m 13 (.int (nI 0))) m 14 (.int (nI 2)) = mrS (mlS h m 0 2 (hp_I h (m + 3)) (hp_I h (m + 4)) (hp_I h (m + 5))) m n a bd bk op := by
  refine hp_ext rfl (fun _ => rfl) (fun x j => ?_) (fun x => ?_) (fun _ => rfl)
  · show (if x = m ∧ j = 14 then _ else if x = m ∧ j = 13 then _ else hp_F (mrS h m n a bd bk op) x j) = _
    rw [mrS_F, mrS_F, mlS_F]
    by_cases e : x = m ∧ j = 14
    · rw [if_pos e, if_neg (by omega), if_neg (by omega), if_neg (by omega), if_neg (by omega), if_neg (by omega), if_pos e]
    · rw [if_neg e, if_neg e]
      by_cases e2 : x = m ∧ j = 13
      · rw [if_pos e2, if_neg (by omega), if_neg (by omega), if_neg (by omega), if_neg (by omega), if_neg (by omega), if_pos e2]
      · rw [if_neg e2, if_neg e2]
  · show hp_I h x = hp_I (mlS h m 0 2 (hp_I h (m + 3)) (hp_I h (m + 4)) (hp_I h (m + 5))) x
    rw [mlS_I]
    by_cases e5 : x = m + 5
    · rw [if_pos e5, e5]
    · rw [if_neg e5]
      by_cases e4 : x = m + 4
      · rw [if_pos e4, e4]
      · rw [if_neg e4]
        by_cases e3 : x = m + 3
        · rw [if_pos e3, e3]
        · rw [if_neg e3]
def s3F (no nr f : Nat → Int32) (k : Nat) : Nat → Int32 := fun i => if i < k then no i else if 61 ≤ i ∧ i < 61 + k then nr (i - 61) else f i
theorem s3F_0 (no nr f : Nat → Int32) : s3F no nr f 0 = f := by funext i; unfold s3F; rw [if_neg (by omega), if_neg (by omega)]
theorem s3F_s (no nr f : Nat → Int32) {k : Nat} (hk : k < 61) : upd (upd (s3F no nr f k) k (no k)) (61 + k) (nr k) = s3F no nr f (k + 1) := by
  funext i
  show (if i = 61 + k then nr k else if i = k then no k else if i < k then no i else if 61 ≤ i ∧ i < 61 + k then nr (i - 61) else f i) = if i < k + 1 then no i else if 61 ≤ i ∧ i < 61 + (k + 1) then nr (i - 61) else f i
  by_cases e1 : i = 61 + k
  · rw [if_pos e1, if_neg (by omega), if_pos (by omega), e1, show 61 + k - 61 = k by omega]
  · rw [if_neg e1]
    by_cases e2 : i = k
    · rw [if_pos e2, if_pos (by omega), e2]
    · rw [if_neg e2]
      by_cases e3 : i < k
      · rw [if_pos e3, if_pos (by omega)]
      · rw [if_neg e3, if_neg (show ¬ i < k + 1 by omega)]
        by_cases e4 : 61 ≤ i ∧ i < 61 + k
        · rw [if_pos e4, if_pos (by omega)]
        · rw [if_neg e4, if_neg (by omega)]
def stF (np : Nat) (nc no nr f : Nat → Int32) : Nat → Int32 := s3F no nr (toF nc 183 (fcF (fun _ => 0) f 190) np) 61
theorem stF_eq {s : LSt} {nc no nr f : Nat → Int32} (hs : LsG s) (hz : ∀ p, s.1 ≤ p → p < 6 → s.2.2 (183 + p) = 0) (hm : MlR s nc no nr) : EqR (stF s.1 nc no nr f) s.2.2 := by
  intro i hi
  obtain ⟨g1, g2, g3⟩ := hm
  obtain ⟨⟨k1, k2, k3⟩, k4, k5, k6, k7, k8⟩ := hs
  unfold stF s3F
  by_cases e1 : i < 61
  · rw [if_pos e1, g1 i e1]
  · rw [if_neg e1]
    by_cases e2 : 61 ≤ i ∧ i < 61 + 61
    · rw [if_pos e2, g2 (i - 61) (by omega), show 61 + (i - 61) = i by omega]
    · rw [if_neg e2]
      unfold toF
      by_cases e3 : 183 ≤ i ∧ i < 183 + s.1
      · rw [if_pos e3, g3 (i - 183) (by omega), show 183 + (i - 183) = i by omega]
      · rw [if_neg e3]
        show fcF (fun _ => 0) f 190 i = _
        rw [fcF_in (by omega)]
        rcases (show (122 ≤ i ∧ i ≤ 182) ∨ (183 + s.1 ≤ i ∧ i < 189) ∨ i = 189 by omega) with q | q | q
        · have h9 := k6 (i - 122) (by omega); rw [show 122 + (i - 122) = i by omega] at h9; exact h9.symm
        · have h9 := hz (i - 183) (by omega) (by omega); rw [show 183 + (i - 183) = i by omega] at h9; exact h9.symm
        · rw [q]; exact k8.symm
def setY (m : Nat) : Nat → Nat → Prop := fun a j => a = m ∧ (j = 15 ∨ j = 16 ∨ j = 23 ∨ j = 38 ∨ j = 28 ∨ j = 52 ∨ j = 29)
theorem hp_sI_2 (h : PH) (a : Nat) (f g : Nat → Int32) : hp_sI (hp_sI h a f) a g = hp_sI h a g := by
  refine hp_ext rfl (fun _ => rfl) (fun _ _ => rfl) (fun x => ?_) (fun _ => rfl)
  show (if x = a then g else if x = a then f else hp_I h x) = if x = a then g else hp_I h x
  by_cases e : x = a
  · rw [if_pos e, if_pos e]
  · rw [if_neg e, if_neg e, if_neg e]
set_option maxHeartbeats 4000000 in
set_option maxRecDepth 100000 in
theorem l_set1 {l : Launch} {Z : EE} (hst : l.stackTraces = false) {g : PH} {m : Nat} (hM : ModS g m) {np : Nat} (h15 : hp_F g m 15 = .int (nI np)) (h6 : np ≤ 6) {nc no nr : Nat → Int32} (hnc : hp_I g (m + 3) = nc) (hno : hp_I g (m + 4) = no) (hnr : hp_I g (m + 5) = nr) (f : Nat → Int32) {Post : Res → PH → Prop} : ∀ (j i : Nat), i + j = 190 → WW l Z m_X11_sets 0 0 0 63 [.ref m, .int (nI 190)] [] (hp_sI g (m + 14) (fcF (fun _ => 0) f 190)) Post → WW l Z m_X11_sets 0 0 0 43 [.ref m, .int (nI i)] [] (hp_sI g (m + 14) (fcF (fun _ => 0) f i)) Post := by
  intro j
  induction j with
  | zero =>
    intro i hi hexit
    have hi0 : i = 190 := by omega
    subst hi0
    refine ww_iload_n dX11_sets_43 rfl rfl ?_
    refine ww_sipush (v := nI 190) dX11_sets_44 (by decide) ?_
    refine ww_icmp_geN (tgt := 63) dX11_sets_47 (by decide) (by omega) (by omega) (fun c47 => ?_) (fun c47 => ?_)
    · exact hexit
    · exfalso; omega
  | succ j ih =>
    intro i hi hexit
    refine ww_iload_n dX11_sets_43 rfl rfl ?_
    refine ww_sipush (v := nI 190) dX11_sets_44 (by decide) ?_
    refine ww_icmp_geN (tgt := 63) dX11_sets_47 (by decide) (by omega) (by omega) (fun c47 => ?_) (fun c47 => ?_)
    · exfalso; omega
    · refine ww_aload_n dX11_sets_50 rfl rfl ?_
      refine ww_get 33 dX11_sets_51 hM.K0 rfl (by decide) inX11 wg_1273 hM.F14 ?_
      refine ww_iload_n dX11_sets_54 rfl rfl ?_
      refine ww_iconst (v := nI 0) dX11_sets_55 (by decide) ?_
      refine ww_iastF dX11_sets_56 hM.K14 (hp_I_eq _ _ _) (by omega) (by omega) ?_
      refine ww_hp (h2 := hp_sI g (m + 14) (upd (fcF (fun _ => 0) f i) i (nI 0))) (hp_sI_2 _ _ _ _) ?_
      refine ww_incN (c := 1) (lv2 := [.ref m, .int (nI (i + 1))]) dX11_sets_57 rfl rfl rfl (by decide) rfl ?_
      refine ww_goto (tgt := 43) dX11_sets_60 (by decide) ?_
      refine ww_hp (h2 := hp_sI g (m + 14) (fcF (fun _ => 0) f (i + 1))) (by rw [← fcF_s (fun _ => 0) f i]; rfl) ?_
      exact ih (i + 1) (by omega) hexit
set_option maxHeartbeats 4000000 in
set_option maxRecDepth 100000 in
theorem l_set2 {l : Launch} {Z : EE} (hst : l.stackTraces = false) {g : PH} {m : Nat} (hM : ModS g m) {np : Nat} (h15 : hp_F g m 15 = .int (nI np)) (h6 : np ≤ 6) {nc no nr : Nat → Int32} (hnc : hp_I g (m + 3) = nc) (hno : hp_I g (m + 4) = no) (hnr : hp_I g (m + 5) = nr) (f : Nat → Int32) {Post : Res → PH → Prop} : ∀ (j i : Nat), i + j = np → WW l Z m_X11_sets 0 0 0 95 [.ref m, .int (nI np)] [] (hp_sI g (m + 14) (toF nc 183 f np)) Post → WW l Z m_X11_sets 0 0 0 65 [.ref m, .int (nI i)] [] (hp_sI g (m + 14) (toF nc 183 f i)) Post := by
  intro j
  induction j with
  | zero =>
    intro i hi hexit
    have hi0 : i = np := by omega
    subst hi0
    refine ww_iload_n dX11_sets_65 rfl rfl ?_
    refine ww_aload_n dX11_sets_66 rfl rfl ?_
    refine ww_get 15 dX11_sets_67 hM.K0 rfl (by decide) inX11 wg_1255 h15 ?_
    refine ww_icmp_geN (tgt := 95) dX11_sets_70 (by decide) (by omega) (by omega) (fun c70 => ?_) (fun c70 => ?_)
    · exact hexit
    · exfalso; omega
  | succ j ih =>
    intro i hi hexit
    refine ww_iload_n dX11_sets_65 rfl rfl ?_
    refine ww_aload_n dX11_sets_66 rfl rfl ?_
    refine ww_get 15 dX11_sets_67 hM.K0 rfl (by decide) inX11 wg_1255 h15 ?_
    refine ww_icmp_geN (tgt := 95) dX11_sets_70 (by decide) (by omega) (by omega) (fun c70 => ?_) (fun c70 => ?_)
    · exfalso; omega
    · refine ww_aload_n dX11_sets_73 rfl rfl ?_
      refine ww_get 33 dX11_sets_74 hM.K0 rfl (by decide) inX11 wg_1273 hM.F14 ?_
      refine ww_sipush (v := nI 183) dX11_sets_77 (by decide) ?_
      refine ww_iload_n dX11_sets_80 rfl rfl ?_
      refine ww_iaddN dX11_sets_81 ?_
      refine ww_aload_n dX11_sets_82 rfl rfl ?_
      refine ww_get 10 dX11_sets_83 hM.K0 rfl (by decide) inX11 wg_1250 hM.F3 ?_
      refine ww_iload_n dX11_sets_86 rfl rfl ?_
      refine ww_ialdF dX11_sets_87 hM.K3 (hp_I_nx (by omega) hnc) (by omega) (by omega) ?_
      refine ww_iastF dX11_sets_88 hM.K14 (hp_I_eq _ _ _) (by omega) (by omega) ?_
      refine ww_hp (h2 := hp_sI g (m + 14) (upd (toF nc 183 f i) (183 + i) (nc i))) (hp_sI_2 _ _ _ _) ?_
      refine ww_incN (c := 1) (lv2 := [.ref m, .int (nI (i + 1))]) dX11_sets_89 rfl rfl rfl (by decide) rfl ?_
      refine ww_goto (tgt := 65) dX11_sets_92 (by decide) ?_
      refine ww_hp (h2 := hp_sI g (m + 14) (toF nc 183 f (i + 1))) (by rw [← toF_s nc 183 f i]) ?_
      exact ih (i + 1) (by omega) hexit
set_option maxHeartbeats 4000000 in
set_option maxRecDepth 100000 in
theorem l_set3 {l : Launch} {Z : EE} (hst : l.stackTraces = false) {g : PH} {m : Nat} (hM : ModS g m) {np : Nat} (h15 : hp_F g m 15 = .int (nI np)) (h6 : np ≤ 6) {nc no nr : Nat → Int32} (hnc : hp_I g (m + 3) = nc) (hno : hp_I g (m + 4) = no) (hnr : hp_I g (m + 5) = nr) (f : Nat → Int32) {Post : Res → PH → Prop} : ∀ (j i : Nat), i + j = 61 → WW l Z m_X11_sets 0 0 0 138 [.ref m, .int (nI 61)] [] (hp_sI g (m + 14) (s3F no nr f 61)) Post → WW l Z m_X11_sets 0 0 0 97 [.ref m, .int (nI i)] [] (hp_sI g (m + 14) (s3F no nr f i)) Post := by
  intro j
  induction j with
  | zero =>
    intro i hi hexit
    have hi0 : i = 61 := by omega
    subst hi0
    refine ww_iload_n dX11_sets_97 rfl rfl ?_
    refine ww_bipush (v := nI 61) dX11_sets_98 (by decide) ?_
    refine ww_icmp_geN (tgt := 138) dX11_sets_100 (by decide) (by omega) (by omega) (fun c100 => ?_) (fun c100 => ?_)
    · exact hexit
    · exfalso; omega
  | succ j ih =>
    intro i hi hexit
    refine ww_iload_n dX11_sets_97 rfl rfl ?_
    refine ww_bipush (v := nI 61) dX11_sets_98 (by decide) ?_
    refine ww_icmp_geN (tgt := 138) dX11_sets_100 (by decide) (by omega) (by omega) (fun c100 => ?_) (fun c100 => ?_)
    · exfalso; omega
    · refine ww_aload_n dX11_sets_103 rfl rfl ?_
      refine ww_get 33 dX11_sets_104 hM.K0 rfl (by decide) inX11 wg_1273 hM.F14 ?_
      refine ww_iconst (v := nI 0) dX11_sets_107 (by decide) ?_
      refine ww_iload_n dX11_sets_108 rfl rfl ?_
      refine ww_iadd0 dX11_sets_109 ?_
      refine ww_aload_n dX11_sets_110 rfl rfl ?_
      refine ww_get 11 dX11_sets_111 hM.K0 rfl (by decide) inX11 wg_1251 hM.F4 ?_
      refine ww_iload_n dX11_sets_114 rfl rfl ?_
      refine ww_ialdF dX11_sets_115 hM.K4 (hp_I_nx (by omega) hno) (by omega) (by omega) ?_
      refine ww_iastF dX11_sets_116 hM.K14 (hp_I_eq _ _ _) (by omega) (by omega) ?_
      refine ww_hp (h2 := hp_sI g (m + 14) (upd (s3F no nr f i) i (no i))) (hp_sI_2 _ _ _ _) ?_
      refine ww_aload_n dX11_sets_117 rfl rfl ?_
      refine ww_get 33 dX11_sets_118 hM.K0 rfl (by decide) inX11 wg_1273 hM.F14 ?_
      refine ww_bipush (v := nI 61) dX11_sets_121 (by decide) ?_
      refine ww_iload_n dX11_sets_123 rfl rfl ?_
      refine ww_iaddN dX11_sets_124 ?_
      refine ww_aload_n dX11_sets_125 rfl rfl ?_
      refine ww_get 12 dX11_sets_126 hM.K0 rfl (by decide) inX11 wg_1252 hM.F5 ?_
      refine ww_iload_n dX11_sets_129 rfl rfl ?_
      refine ww_ialdF dX11_sets_130 hM.K5 (hp_I_nx (by omega) hnr) (by omega) (by omega) ?_
      refine ww_iastF dX11_sets_131 hM.K14 (hp_I_eq _ _ _) (by omega) (by omega) ?_
      refine ww_hp (h2 := hp_sI g (m + 14) (upd (upd (s3F no nr f i) i (no i)) (61 + i) (nr i))) (hp_sI_2 _ _ _ _) ?_
      refine ww_incN (c := 1) (lv2 := [.ref m, .int (nI (i + 1))]) dX11_sets_132 rfl rfl rfl (by decide) rfl ?_
      refine ww_goto (tgt := 97) dX11_sets_135 (by decide) ?_
      refine ww_hp (h2 := hp_sI g (m + 14) (s3F no nr f (i + 1))) (by rw [← s3F_s no nr f (show i < 61 by omega)]) ?_
      exact ih (i + 1) (by omega) hexit
set_option maxHeartbeats 4000000 in
set_option maxRecDepth 100000 in
theorem c_M_sets {l : Launch} {Z : EE} (hst : l.stackTraces = false) {h : PH} {m : Nat} (hM : ModS h m) {np du : Nat} (h13 : hp_F h m 13 = .int (nI np)) (h14 : hp_F h m 14 = .int (nI du)) (h6 : np ≤ 6) {nc no nr f : Nat → Int32} (hnc : hp_I h (m + 3) = nc) (hno : hp_I h (m + 4) = no) (hnr : hp_I h (m + 5) = nr) (hf : hp_I h (m + 14) = f) : CC l Z m_X11_sets 0 0 0 [.ref m] h (RQ none (fun h9 => Same (fun c => c = m + 14) (setY m) h h9 ∧ hp_F h9 m 15 = .int (nI np) ∧ hp_F h9 m 16 = .int (nI du) ∧ hp_F h9 m 23 = .int (nI 0) ∧ hp_F h9 m 38 = .int (nI 0) ∧ hp_F h9 m 28 = .int (nI 0) ∧ hp_F h9 m 52 = .int (nI 0) ∧ hp_F h9 m 29 = .int (nI 0) ∧ hp_I h9 (m + 14) = stF np nc no nr f)) := by
  refine ee_entry hst (by decide +kernel) rfl rfl (by simp [Value.category]) (Nat.le_of_ble_eq_true rfl) ?_
  refine ww_lv (lv2 := [.ref m, UU]) rfl ?_
  refine ww_aload_n dX11_sets_0 rfl rfl ?_
  refine ww_aload_n dX11_sets_1 rfl rfl ?_
  refine ww_get 13 dX11_sets_2 hM.K0 rfl (by decide) inX11 wg_1253 h13 ?_
  refine ww_pfI tyX11 15 dX11_sets_5 hM.K0 rfl (by decide) inX11 tyX11_ok nmX11 wg_1255 rfl rfl ?_
  refine ww_aload_n dX11_sets_8 rfl rfl ?_
  refine ww_aload_n dX11_sets_9 rfl rfl ?_
  refine ww_get 14 dX11_sets_10 hM.K0 rfl (by decide) inX11 wg_1254 (hp_F_nj (by decide) h14) ?_
  refine ww_pfI tyX11 16 dX11_sets_13 hM.K0 rfl (by decide) inX11 tyX11_ok nmX11 wg_1256 rfl rfl ?_
  refine ww_aload_n dX11_sets_16 rfl rfl ?_
  refine ww_iconst (v := nI 0) dX11_sets_17 (by decide) ?_
  refine ww_pfI tyX11 23 dX11_sets_18 hM.K0 rfl (by decide) inX11 tyX11_ok nmX11 wg_1263 rfl rfl ?_
  refine ww_aload_n dX11_sets_21 rfl rfl ?_
  refine ww_iconst (v := nI 0) dX11_sets_22 (by decide) ?_
  refine ww_pfI tyX11 38 dX11_sets_23 hM.K0 rfl (by decide) inX11 tyX11_ok nmX11 wg_1278 rfl rfl ?_
  refine ww_aload_n dX11_sets_26 rfl rfl ?_
  refine ww_iconst (v := nI 0) dX11_sets_27 (by decide) ?_
  refine ww_pfI tyX11 28 dX11_sets_28 hM.K0 rfl (by decide) inX11 tyX11_ok nmX11 wg_1268 rfl rfl ?_
  refine ww_aload_n dX11_sets_31 rfl rfl ?_
  refine ww_iconst (v := nI 0) dX11_sets_32 (by decide) ?_
  refine ww_pfI tyX11 52 dX11_sets_33 hM.K0 rfl (by decide) inX11 tyX11_ok nmX11 wg_1292 rfl rfl ?_
  refine ww_aload_n dX11_sets_36 rfl rfl ?_
  refine ww_iconst (v := nI 0) dX11_sets_37 (by decide) ?_
  refine ww_pfI tyX11 29 dX11_sets_38 hM.K0 rfl (by decide) inX11 tyX11_ok nmX11 wg_1269 rfl rfl ?_
  refine ww_iconst (v := nI 0) dX11_sets_41 (by decide) ?_
  refine ww_sti_n (lv2 := [.ref m, .int (nI 0)]) dX11_sets_42 rfl rfl (by decide) rfl ?_
  have hg0 : hp_F (hp_sF (hp_sF (hp_sF (hp_sF (hp_sF (hp_sF (hp_sF h m 15 (.int (nI np))) m 16 (.int (nI du))) m 23 (.int (nI 0))) m 38 (.int (nI 0))) m 28 (.int (nI 0))) m 52 (.int (nI 0))) m 29 (.int (nI 0))) m 15 = .int (nI np) := (hp_F_nj (by decide) (hp_F_nj (by decide) (hp_F_nj (by decide) (hp_F_nj (by decide) (hp_F_nj (by decide) (hp_F_nj (by decide) (hp_F_eq _ _ _ _)))))))
  have hg1 : hp_F (hp_sF (hp_sF (hp_sF (hp_sF (hp_sF (hp_sF (hp_sF h m 15 (.int (nI np))) m 16 (.int (nI du))) m 23 (.int (nI 0))) m 38 (.int (nI 0))) m 28 (.int (nI 0))) m 52 (.int (nI 0))) m 29 (.int (nI 0))) m 16 = .int (nI du) := (hp_F_nj (by decide) (hp_F_nj (by decide) (hp_F_nj (by decide) (hp_F_nj (by decide) (hp_F_nj (by decide) (hp_F_eq _ _ _ _))))))
  have hg2 : hp_F (hp_sF (hp_sF (hp_sF (hp_sF (hp_sF (hp_sF (hp_sF h m 15 (.int (nI np))) m 16 (.int (nI du))) m 23 (.int (nI 0))) m 38 (.int (nI 0))) m 28 (.int (nI 0))) m 52 (.int (nI 0))) m 29 (.int (nI 0))) m 23 = .int (nI 0) := (hp_F_nj (by decide) (hp_F_nj (by decide) (hp_F_nj (by decide) (hp_F_nj (by decide) (hp_F_eq _ _ _ _)))))
  have hg3 : hp_F (hp_sF (hp_sF (hp_sF (hp_sF (hp_sF (hp_sF (hp_sF h m 15 (.int (nI np))) m 16 (.int (nI du))) m 23 (.int (nI 0))) m 38 (.int (nI 0))) m 28 (.int (nI 0))) m 52 (.int (nI 0))) m 29 (.int (nI 0))) m 38 = .int (nI 0) := (hp_F_nj (by decide) (hp_F_nj (by decide) (hp_F_nj (by decide) (hp_F_eq _ _ _ _))))
  have hg4 : hp_F (hp_sF (hp_sF (hp_sF (hp_sF (hp_sF (hp_sF (hp_sF h m 15 (.int (nI np))) m 16 (.int (nI du))) m 23 (.int (nI 0))) m 38 (.int (nI 0))) m 28 (.int (nI 0))) m 52 (.int (nI 0))) m 29 (.int (nI 0))) m 28 = .int (nI 0) := (hp_F_nj (by decide) (hp_F_nj (by decide) (hp_F_eq _ _ _ _)))
  have hg5 : hp_F (hp_sF (hp_sF (hp_sF (hp_sF (hp_sF (hp_sF (hp_sF h m 15 (.int (nI np))) m 16 (.int (nI du))) m 23 (.int (nI 0))) m 38 (.int (nI 0))) m 28 (.int (nI 0))) m 52 (.int (nI 0))) m 29 (.int (nI 0))) m 52 = .int (nI 0) := (hp_F_nj (by decide) (hp_F_eq _ _ _ _))
  have hg6 : hp_F (hp_sF (hp_sF (hp_sF (hp_sF (hp_sF (hp_sF (hp_sF h m 15 (.int (nI np))) m 16 (.int (nI du))) m 23 (.int (nI 0))) m 38 (.int (nI 0))) m 28 (.int (nI 0))) m 52 (.int (nI 0))) m 29 (.int (nI 0))) m 29 = .int (nI 0) := (hp_F_eq _ _ _ _)
  have hsm : Same (fun _ => False) (setY m) h (hp_sF (hp_sF (hp_sF (hp_sF (hp_sF (hp_sF (hp_sF h m 15 (.int (nI np))) m 16 (.int (nI du))) m 23 (.int (nI 0))) m 38 (.int (nI 0))) m 28 (.int (nI 0))) m 52 (.int (nI 0))) m 29 (.int (nI 0))) := Same.sF (Same.sF (Same.sF (Same.sF (Same.sF (Same.sF (Same.sF (Same.rf) ⟨rfl, by decide⟩) ⟨rfl, by decide⟩) ⟨rfl, by decide⟩) ⟨rfl, by decide⟩) ⟨rfl, by decide⟩) ⟨rfl, by decide⟩) ⟨rfl, by decide⟩
  have hMg : ModS (hp_sF (hp_sF (hp_sF (hp_sF (hp_sF (hp_sF (hp_sF h m 15 (.int (nI np))) m 16 (.int (nI du))) m 23 (.int (nI 0))) m 38 (.int (nI 0))) m 28 (.int (nI 0))) m 52 (.int (nI 0))) m 29 (.int (nI 0))) m := ((((((hM.sF (by decide)).sF (by decide)).sF (by decide)).sF (by decide)).sF (by decide)).sF (by decide)).sF (by decide)
  have hI3 : hp_I (hp_sF (hp_sF (hp_sF (hp_sF (hp_sF (hp_sF (hp_sF h m 15 (.int (nI np))) m 16 (.int (nI du))) m 23 (.int (nI 0))) m 38 (.int (nI 0))) m 28 (.int (nI 0))) m 52 (.int (nI 0))) m 29 (.int (nI 0))) (m + 3) = nc := hnc
  have hI4 : hp_I (hp_sF (hp_sF (hp_sF (hp_sF (hp_sF (hp_sF (hp_sF h m 15 (.int (nI np))) m 16 (.int (nI du))) m 23 (.int (nI 0))) m 38 (.int (nI 0))) m 28 (.int (nI 0))) m 52 (.int (nI 0))) m 29 (.int (nI 0))) (m + 4) = no := hno
  have hI5 : hp_I (hp_sF (hp_sF (hp_sF (hp_sF (hp_sF (hp_sF (hp_sF h m 15 (.int (nI np))) m 16 (.int (nI du))) m 23 (.int (nI 0))) m 38 (.int (nI 0))) m 28 (.int (nI 0))) m 52 (.int (nI 0))) m 29 (.int (nI 0))) (m + 5) = nr := hnr
  have hIf : hp_I (hp_sF (hp_sF (hp_sF (hp_sF (hp_sF (hp_sF (hp_sF h m 15 (.int (nI np))) m 16 (.int (nI du))) m 23 (.int (nI 0))) m 38 (.int (nI 0))) m 28 (.int (nI 0))) m 52 (.int (nI 0))) m 29 (.int (nI 0))) (m + 14) = f := hf
  generalize hp_sF (hp_sF (hp_sF (hp_sF (hp_sF (hp_sF (hp_sF h m 15 (.int (nI np))) m 16 (.int (nI du))) m 23 (.int (nI 0))) m 38 (.int (nI 0))) m 28 (.int (nI 0))) m 52 (.int (nI 0))) m 29 (.int (nI 0)) = g at hg0 hg1 hg2 hg3 hg4 hg5 hg6 hsm hMg hI3 hI4 hI5 hIf ⊢
  refine ww_hp (h2 := hp_sI g (m + 14) (fcF (fun _ => 0) f 0)) (by rw [fcF_0, ← hIf, hp_sI_id]) ?_
  refine l_set1 hst hMg hg0 h6 hI3 hI4 hI5 f 190 0 (by omega) ?_
  refine ww_iconst (v := nI 0) dX11_sets_63 (by decide) ?_
  refine ww_sti_n (lv2 := [.ref m, .int (nI 0)]) dX11_sets_64 rfl rfl (by decide) rfl ?_
  refine ww_hp (h2 := hp_sI g (m + 14) (toF nc 183 (fcF (fun _ => 0) f 190) 0)) (by rw [toF_0]) ?_
  refine l_set2 hst hMg hg0 h6 hI3 hI4 hI5 (fcF (fun _ => 0) f 190) np 0 (by omega) ?_
  refine ww_iconst (v := nI 0) dX11_sets_95 (by decide) ?_
  refine ww_sti_n (lv2 := [.ref m, .int (nI 0)]) dX11_sets_96 rfl rfl (by decide) rfl ?_
  refine ww_hp (h2 := hp_sI g (m + 14) (s3F no nr (toF nc 183 (fcF (fun _ => 0) f 190) np) 0)) (by rw [s3F_0]) ?_
  refine l_set3 hst hMg hg0 h6 hI3 hI4 hI5 (toF nc 183 (fcF (fun _ => 0) f 190) np) 61 0 (by omega) ?_
  exact ww_vret dX11_sets_138 rfl ⟨rfl, Same.sI (hsm.mono (fun _ e => e.elim) (fun _ _ e => e)) rfl, hg0, hg1, hg2, hg3, hg4, hg5, hg6, hp_I_eq _ _ _⟩
