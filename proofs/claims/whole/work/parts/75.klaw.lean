/-! ===== law, as the class answers it ===== -/
set_option maxHeartbeats 4000000 in
theorem c_Lw_unitK {l : Launch} {Z : EE} (hst : l.stackTraces = false) {h : PH} {tf : Nat → Int32} (hR : RdK h tf) {T : Nat → Nat} (hB : BT tf T) {n : Nat} (hn : n ≤ 600) {b : Nat} (hb : LwK h b) (hn5 : n ≤ 150) : ∀ (k o : Nat), o + k = 6 → ∀ (a : Nat) (L : LWt), a ≤ n → L.1 ≤ a → CC l Z m_X3_readUnit (4 * k + 6) 0 0 [.ref b, .ref 1, .int (nI o)] (rdS (lwS h b L) n a 0 (-1)) (RQ none (LwO h b n (unitK T n k a L))) := by
  intro k
  induction k with
  | zero =>
    intro o ho a L ha hL
    exact c_Lw_unit0 (d := 6) hst hR hB hn hb hn5 (by omega) o (by omega) a L ha hL
  | succ k ih =>
    intro o ho
    have hU := ih (o + 1) (by omega)
    have hG := unitK_G T n k
    have hP := fun a L ha hL => c_Lw_prod (Z := Z) (d := 4 * k + 6) hst hR hB hn hb hn5 (by omega) (o + 1) hG hU a L ha hL
    have hS := fun a L ha hL => c_Lw_sum (Z := Z) (d := 4 * k + 6) hst hR hB hn hb hn5 (by omega) (o + 1) hG hP a L ha hL
    have hQ := fun a L ha hL => c_Lw_pair (Z := Z) (d := 4 * k + 6) hst hR hB hn hb hn5 (by omega) (o + 1) (sumS_G (T := T) hG) hS a L ha hL
    intro a L ha hL
    rw [show 4 * (k + 1) + 6 = 4 * k + 6 + 4 by omega]
    exact c_Lw_unit1 (d := 4 * k + 6) hst hR hB hn hb hn5 (by omega) o (by omega) (sumS_G (T := T) hG) hS hQ a L ha hL
set_option maxHeartbeats 4000000 in
theorem c_Lw_sumT {l : Launch} {Z : EE} (hst : l.stackTraces = false) {h : PH} {tf : Nat → Int32} (hR : RdK h tf) {T : Nat → Nat} (hB : BT tf T) {n : Nat} (hn : n ≤ 600) {b : Nat} (hb : LwK h b) (hn5 : n ≤ 150) (a : Nat) (L : LWt) (ha : a ≤ n) (hL : L.1 ≤ a) : CC l Z m_X3_readSum 32 0 0 [.ref b, .ref 1, .int (nI 0)] (rdS (lwS h b L) n a 0 (-1)) (RQ none (LwO h b n (sumS (unitK T n 6) T n a L))) := by
  have hG := unitK_G T n 6
  have hU := c_Lw_unitK (Z := Z) hst hR hB hn hb hn5 6 0 (by omega)
  have hP := fun a L ha hL => c_Lw_prod (Z := Z) (d := 30) hst hR hB hn hb hn5 (by omega) 0 hG hU a L ha hL
  exact c_Lw_sum (Z := Z) (d := 30) hst hR hB hn hb hn5 (by omega) 0 hG hP a L ha hL
set_option maxHeartbeats 4000000 in
set_option maxRecDepth 100000 in
theorem c_Lw_read_r {l : Launch} {Z : EE} (hst : l.stackTraces = false) {h : PH} {tf : Nat → Int32} (hR : RdK h tf) {T : Nat → Nat} (hB : BT tf T) {n : Nat} (hn : n ≤ 600) {b : Nat} (hb : LwK h b) (hn5 : n ≤ 150) (L : LWt) {a9 : Nat} {M9 : LWt} (hr : lawS T n (0, L.2.1, L.2.2) = .inr (a9, M9)) : CC l Z m_X3_read 33 0 0 [.ref b, .ref 1] (rdS (lwS h b L) n 0 0 (-1)) (RT (some (.int (nI 1))) (rdS (lwS h b M9) n n 0 (-1))) := by
  refine ee_entry hst (by decide +kernel) rfl rfl (by simp [Value.category]) (Nat.le_of_ble_eq_true rfl) ?_
  refine ww_lv (lv2 := [.ref b, .ref 1]) rfl ?_
  have hb3 := hb.2.2.2.2.2
  refine ww_aload_n dX3_read_0 rfl rfl ?_
  refine ww_iconst (v := nI 0) dX3_read_1 (by decide) ?_
  refine ww_pfI tyX3 4 dX3_read_2 hb.1 rfl (by decide) inX3 tyX3_ok nmX3 wg_98 rfl rfl ?_
  refine ww_hp (h2 := rdS (lwS h b ((0, L.2.1, L.2.2))) n 0 0 (-1)) (lw_s4 hb3 _) ?_
  refine ww_aload_n dX3_read_5 rfl rfl ?_
  refine ww_aload_n dX3_read_6 rfl rfl ?_
  refine ww_iconst (v := nI 0) dX3_read_7 (by decide) ?_
  have hg1 := sumS_G (T := T) (unitK_G T n 6) 0 (0, L.2.1, L.2.2) (Nat.zero_le _)
  refine ww_cVq0 (M := m_X3_read) (pc := 8) (st := []) (d := 33) (bc := 0) (bs := 0) (c_Lw_sumT hst hR hB hn hb hn5 0 (0, L.2.1, L.2.2) (Nat.zero_le _) (Nat.le_refl _)) vv_X3_readSum dX3_read_8 wg_608 hb.1 rfl rfl rfl rfl (Nat.le_of_ble_eq_true rfl) (Nat.le_of_ble_eq_true rfl) (Nat.le_of_ble_eq_true rfl) (Nat.le_of_ble_eq_true rfl) (fun ho1 qo1 => ?_)
  rcases hr1 : sumS (unitK T n 6) T n 0 (0, L.2.1, L.2.2) with ⟨k1, q1⟩ | ⟨a1, L1⟩
  · rw [hr1] at qo1
    obtain ⟨L1, hL1, rfl⟩ := qo1
    have hf1 := (hg1).l hr1
    refine ww_aload_n dX3_read_11 rfl rfl ?_
    refine ww_cVr (M := m_X3_read) (pc := 12) (v := .int (nI 0)) (h1 := rdS (lwS h b L1) n n k1 (nI q1)) (st := []) (d := 33) (bc := 0) (bs := 0) (c_Rd_finish_f hst (hR.lw hb3 L1) hB hn k1 (by omega) (by omega) (nI q1)) vv_X5_finish dX3_read_12 wg_637 ((hR.lw hb3 L1).1) rfl rfl rfl rfl (Nat.le_of_ble_eq_true rfl) (Nat.le_of_ble_eq_true rfl) (Nat.le_of_ble_eq_true rfl) (Nat.le_of_ble_eq_true rfl) ?_
    exact ww_zret dX3_read_15 rfl (by first | rfl | exact nar_bI _) (by exfalso; unfold lawS at hr; rw [hr1, bS_l] at hr; cases hr)
  · rw [hr1] at qo1
    have qo1 : _ = _ := qo1
    subst qo1
    have hf1 := (hg1).r hr1
    refine ww_aload_n dX3_read_11 rfl rfl ?_
    have hsl2 := sk_le (T := T) (show a1 ≤ n by omega)
    by_cases hl2 : sk T n a1 < n
    · refine ww_cVr (M := m_X3_read) (pc := 12) (v := .int (nI 0)) (h1 := rdS (lwS h b L1) n n 1 (nI (sk T n a1))) (st := []) (d := 33) (bc := 0) (bs := 0) (c_Rd_finish_n hst (hR.lw hb3 L1) hB hn a1 (by omega) hl2) vv_X5_finish dX3_read_12 wg_637 ((hR.lw hb3 L1).1) rfl rfl rfl rfl (Nat.le_of_ble_eq_true rfl) (Nat.le_of_ble_eq_true rfl) (Nat.le_of_ble_eq_true rfl) (Nat.le_of_ble_eq_true rfl) ?_
      exact ww_zret dX3_read_15 rfl (by first | rfl | exact nar_bI _) (by exfalso; unfold lawS at hr; rw [hr1, bS_r, if_pos (by assumption)] at hr; cases hr)
    · refine ww_cVr (M := m_X3_read) (pc := 12) (v := .int (nI 1)) (h1 := rdS (lwS h b L1) n n 0 (-1)) (st := []) (d := 33) (bc := 0) (bs := 0) (c_Rd_finish_t hst (hR.lw hb3 L1) hB hn a1 (by omega) (by omega)) vv_X5_finish dX3_read_12 wg_637 ((hR.lw hb3 L1).1) rfl rfl rfl rfl (Nat.le_of_ble_eq_true rfl) (Nat.le_of_ble_eq_true rfl) (Nat.le_of_ble_eq_true rfl) (Nat.le_of_ble_eq_true rfl) ?_
      exact ww_zret dX3_read_15 rfl (by first | rfl | exact nar_bI _) ⟨rfl, (by unfold lawS at hr; rw [hr1, bS_r, if_neg (by assumption)] at hr; cases hr; rfl)⟩
set_option maxHeartbeats 4000000 in
set_option maxRecDepth 100000 in
theorem c_Lw_read_l {l : Launch} {Z : EE} (hst : l.stackTraces = false) {h : PH} {tf : Nat → Int32} (hR : RdK h tf) {T : Nat → Nat} (hB : BT tf T) {n : Nat} (hn : n ≤ 600) {b : Nat} (hb : LwK h b) (hn5 : n ≤ 150) (L : LWt) {k9 q9 : Nat} (hr : lawS T n (0, L.2.1, L.2.2) = .inl (k9, q9)) : CC l Z m_X3_read 33 0 0 [.ref b, .ref 1] (rdS (lwS h b L) n 0 0 (-1)) (RQ (some (.int (nI 0))) (fun h9 => ∃ M9 : LWt, M9.1 ≤ 150 ∧ h9 = rdS (lwS h b M9) n n k9 (nI q9))) := by
  refine ee_entry hst (by decide +kernel) rfl rfl (by simp [Value.category]) (Nat.le_of_ble_eq_true rfl) ?_
  refine ww_lv (lv2 := [.ref b, .ref 1]) rfl ?_
  have hb3 := hb.2.2.2.2.2
  refine ww_aload_n dX3_read_0 rfl rfl ?_
  refine ww_iconst (v := nI 0) dX3_read_1 (by decide) ?_
  refine ww_pfI tyX3 4 dX3_read_2 hb.1 rfl (by decide) inX3 tyX3_ok nmX3 wg_98 rfl rfl ?_
  refine ww_hp (h2 := rdS (lwS h b ((0, L.2.1, L.2.2))) n 0 0 (-1)) (lw_s4 hb3 _) ?_
  refine ww_aload_n dX3_read_5 rfl rfl ?_
  refine ww_aload_n dX3_read_6 rfl rfl ?_
  refine ww_iconst (v := nI 0) dX3_read_7 (by decide) ?_
  have hg3 := sumS_G (T := T) (unitK_G T n 6) 0 (0, L.2.1, L.2.2) (Nat.zero_le _)
  refine ww_cVq0 (M := m_X3_read) (pc := 8) (st := []) (d := 33) (bc := 0) (bs := 0) (c_Lw_sumT hst hR hB hn hb hn5 0 (0, L.2.1, L.2.2) (Nat.zero_le _) (Nat.le_refl _)) vv_X3_readSum dX3_read_8 wg_608 hb.1 rfl rfl rfl rfl (Nat.le_of_ble_eq_true rfl) (Nat.le_of_ble_eq_true rfl) (Nat.le_of_ble_eq_true rfl) (Nat.le_of_ble_eq_true rfl) (fun ho3 qo3 => ?_)
  rcases hr3 : sumS (unitK T n 6) T n 0 (0, L.2.1, L.2.2) with ⟨k3, q3⟩ | ⟨a3, L3⟩
  · rw [hr3] at qo3
    obtain ⟨L3, hL3, rfl⟩ := qo3
    have hf3 := (hg3).l hr3
    refine ww_aload_n dX3_read_11 rfl rfl ?_
    refine ww_cVr (M := m_X3_read) (pc := 12) (v := .int (nI 0)) (h1 := rdS (lwS h b L3) n n k3 (nI q3)) (st := []) (d := 33) (bc := 0) (bs := 0) (c_Rd_finish_f hst (hR.lw hb3 L3) hB hn k3 (by omega) (by omega) (nI q3)) vv_X5_finish dX3_read_12 wg_637 ((hR.lw hb3 L3).1) rfl rfl rfl rfl (Nat.le_of_ble_eq_true rfl) (Nat.le_of_ble_eq_true rfl) (Nat.le_of_ble_eq_true rfl) (Nat.le_of_ble_eq_true rfl) ?_
    exact ww_zret dX3_read_15 rfl (by first | rfl | exact nar_bI _) ⟨rfl, (by unfold lawS at hr; rw [hr3, bS_l] at hr; cases hr; exact ⟨L3, hL3, rfl⟩)⟩
  · rw [hr3] at qo3
    have qo3 : _ = _ := qo3
    subst qo3
    have hf3 := (hg3).r hr3
    refine ww_aload_n dX3_read_11 rfl rfl ?_
    have hsl4 := sk_le (T := T) (show a3 ≤ n by omega)
    by_cases hl4 : sk T n a3 < n
    · refine ww_cVr (M := m_X3_read) (pc := 12) (v := .int (nI 0)) (h1 := rdS (lwS h b L3) n n 1 (nI (sk T n a3))) (st := []) (d := 33) (bc := 0) (bs := 0) (c_Rd_finish_n hst (hR.lw hb3 L3) hB hn a3 (by omega) hl4) vv_X5_finish dX3_read_12 wg_637 ((hR.lw hb3 L3).1) rfl rfl rfl rfl (Nat.le_of_ble_eq_true rfl) (Nat.le_of_ble_eq_true rfl) (Nat.le_of_ble_eq_true rfl) (Nat.le_of_ble_eq_true rfl) ?_
      exact ww_zret dX3_read_15 rfl (by first | rfl | exact nar_bI _) ⟨rfl, (by unfold lawS at hr; rw [hr3, bS_r, if_pos (by assumption)] at hr; cases hr; exact ⟨L3, by have h9 := hf3; omega, rfl⟩)⟩
    · refine ww_cVr (M := m_X3_read) (pc := 12) (v := .int (nI 1)) (h1 := rdS (lwS h b L3) n n 0 (-1)) (st := []) (d := 33) (bc := 0) (bs := 0) (c_Rd_finish_t hst (hR.lw hb3 L3) hB hn a3 (by omega) (by omega)) vv_X5_finish dX3_read_12 wg_637 ((hR.lw hb3 L3).1) rfl rfl rfl rfl (Nat.le_of_ble_eq_true rfl) (Nat.le_of_ble_eq_true rfl) (Nat.le_of_ble_eq_true rfl) (Nat.le_of_ble_eq_true rfl) ?_
      exact ww_zret dX3_read_15 rfl (by first | rfl | exact nar_bI _) (by exfalso; unfold lawS at hr; rw [hr3, bS_r, if_neg (by assumption)] at hr; cases hr)
theorem lwS_id {h : PH} {b sz : Nat} {kf vf : Nat → Int32} (hW : LawAt h b sz kf vf) : lwS h b (sz, kf, vf) = h := by
  refine hp_ext rfl (fun _ => rfl) (fun x j => ?_) (fun x => ?_) (fun _ => rfl)
  · rw [lwS_F]
    by_cases e : x = b ∧ j = 4
    · rw [if_pos e, e.1, e.2]; exact hW.2.2.2.2.2.2.2.2.2.1.symm
    · rw [if_neg e]
  · rw [lwS_I]
    by_cases e2 : x = b + 2
    · rw [if_pos e2, e2]; exact hW.2.2.2.2.2.2.2.2.2.2.2.1.symm
    · rw [if_neg e2]
      by_cases e1 : x = b + 1
      · rw [if_pos e1, e1]; exact hW.2.2.2.2.2.2.2.2.2.2.1.symm
      · rw [if_neg e1]
def lawX (b : Nat) : Nat → Prop := fun c => c = b + 1 ∨ c = b + 2
def lawF (b : Nat) : Nat → Nat → Prop := fun a j => (a = 1 ∧ 1 ≤ j) ∨ (a = b ∧ j = 4)
def lawY (b : Nat) : Nat → Nat → Prop := fun a j => (a = 1 ∧ 1 ≤ j) ∨ (a = b ∧ j = 4) ∨ (a = 0 ∧ (j = 3 ∨ j = 4))
theorem lawF_1 {b j : Nat} (h : 1 ≤ j) : lawF b 1 j := Or.inl ⟨rfl, h⟩
theorem lawF_b {b : Nat} : lawF b b 4 := Or.inr ⟨rfl, rfl⟩
theorem lawF_Y {b a j : Nat} (h : lawF b a j) : lawY b a j := h.elim (fun e => Or.inl e) (fun e => Or.inr (Or.inl e))
theorem lawY_0 {b j : Nat} (h : j = 3 ∨ j = 4) : lawY b 0 j := Or.inr (Or.inr ⟨rfl, h⟩)
theorem lawX_1 {b : Nat} : lawX b (b + 1) := Or.inl rfl
theorem lawX_2 {b : Nat} : lawX b (b + 2) := Or.inr rfl
theorem lawF_no {b a j : Nat} (h1 : a ≠ 1) (h2 : a ≠ b) : ¬ lawF b a j := fun e => by unfold lawF at e; omega
theorem lawF_nj {b j : Nat} (h1 : b ≠ 1) (h2 : j ≠ 4) : ¬ lawF b b j := fun e => by unfold lawF at e; omega
theorem Same.lw {X : Nat → Prop} {Y : Nat → Nat → Prop} {h h1 : PH} (a : Same X Y h h1) {b : Nat} (hX1 : X (b + 1)) (hX2 : X (b + 2)) (hY : Y b 4) (L : LWt) : Same X Y h (lwS h1 b L) := by
  unfold lwS
  exact ((a.sI hX1).sI hX2).sF hY
theorem LawAt.s11 {h : PH} {b sz : Nat} {kf vf : Nat → Int32} {v : Value} (hW : LawAt h b sz kf vf) (hb : b ≠ 1) : LawAt (hp_sF h 1 1 v) b sz kf vf := by
  obtain ⟨a1, a2, a3, a4, a5, a6, a7, a8, a9, a10, a11⟩ := hW
  exact ⟨a1, a2, a3, a4, a5, hp_F_na hb a6, hp_F_na hb a7, hp_F_na hb a8, hp_F_na hb a9, hp_F_na hb a10, a11⟩
theorem LawAt.lwr {h : PH} {b sz : Nat} {kf vf : Nat → Int32} (hW : LawAt h b sz kf vf) (hb : b ≠ 1) {L : LWt} (hL : L.1 ≤ 150) (n a k : Nat) (pl : Int32) : LawAt (rdS (lwS h b L) n a k pl) b L.1 L.2.1 L.2.2 := by
  obtain ⟨a1, a2, a3, a4, a5, a6, a7, a8, a9, a10, a11⟩ := hW
  exact ⟨a1, a2, a3, a4, a5, rdS_o _ _ _ _ hb (lwS_j (by decide) a6), rdS_o _ _ _ _ hb (lwS_j (by decide) a7), rdS_o _ _ _ _ hb (lwS_j (by decide) a8), rdS_o _ _ _ _ hb (lwS_j (by decide) a9), rdS_o _ _ _ _ hb (lwS_4 h b L), lwS_1 h b L, lwS_2 h b L, hL⟩
set_option maxHeartbeats 4000000 in
theorem c_Lw_readK_r {l : Launch} {Z : EE} (hst : l.stackTraces = false) {h : PH} {la lw bk : Nat} (hC : CL h la lw bk) {tf : Nat → Int32} (htf : hp_I h 2 = tf) {T : Nat → Nat} (hB : BT tf T) {tp : Nat} (htp : hp_F h 1 1 = .int (nI tp)) (ht6 : tp ≤ 600) {sz0 : Nat} {kf0 vf0 : Nat → Int32} (hS : LawAt h (19 - lw) sz0 kf0 vf0) (n : Nat) (hnt : n ≤ tp) (hn5 : n ≤ 150) {a9 : Nat} {M9 : LWt} (hr : lawS T n (0, kf0, vf0) = .inr (a9, M9)) : CC l Z m_X3_read 33 0 0 [.ref (19 - lw), .ref 1] (rdS (hp_sF h 1 1 (.int (nI 0))) n 0 0 (-1)) (RQ (some (.int (nI 1))) (fun g => Same (lawX (19 - lw)) (lawF (19 - lw)) h g ∧ LawAt g (19 - lw) M9.1 M9.2.1 M9.2.2 ∧ hp_F g 1 1 = .int (nI 0) ∧ hp_F g 1 5 = .int (-1))) := by
  have hla := hC.la
  have hlw := hC.lw
  have hbk := hC.bk
  have hR : RdK (hp_sF h 1 1 (.int (nI 0))) tf := ⟨hC.K1, hC.K2, hp_F_nj (by decide) hC.R1_0, htf⟩
  have hS1 := hS.s11 (v := .int (nI 0)) (by omega)
  have hb : LwK (hp_sF h 1 1 (.int (nI 0))) (19 - lw) := ⟨hS1.1, hS1.2.1, hS1.2.2.1, hS1.2.2.2.2.2.1, hS1.2.2.2.2.2.2.1, by omega⟩
  have hM := lawS_r rfl hr
  have h9 := c_Lw_read_r (Z := Z) hst hR hB (by omega) hb hn5 (sz0, kf0, vf0) hr
  rw [lwS_id hS1] at h9
  refine cc_post (fun r h' hp => ?_) h9
  obtain ⟨e1, rfl⟩ := hp
  exact ⟨e1, Same.rd (Same.lw (Same.sF Same.rf (lawF_1 (by decide))) lawX_1 lawX_2 lawF_b M9) (fun j hj => lawF_1 hj) n n 0 (-1), hS1.lwr (by omega) (by omega) n n 0 (-1), rdS_j _ _ _ _ (by decide) (lwS_o (by omega) (hp_F_eq _ _ _ _)), rdS_5 _ _ _ _ _⟩
set_option maxHeartbeats 4000000 in
theorem c_Lw_readK_l {l : Launch} {Z : EE} (hst : l.stackTraces = false) {h : PH} {la lw bk : Nat} (hC : CL h la lw bk) {tf : Nat → Int32} (htf : hp_I h 2 = tf) {T : Nat → Nat} (hB : BT tf T) {tp : Nat} (htp : hp_F h 1 1 = .int (nI tp)) (ht6 : tp ≤ 600) {sz0 : Nat} {kf0 vf0 : Nat → Int32} (hS : LawAt h (19 - lw) sz0 kf0 vf0) (n : Nat) (hnt : n ≤ tp) (hn5 : n ≤ 150) {k9 q9 : Nat} (hr : lawS T n (0, kf0, vf0) = .inl (k9, q9)) : CC l Z m_X3_read 33 0 0 [.ref (19 - lw), .ref 1] (rdS (hp_sF h 1 1 (.int (nI 0))) n 0 0 (-1)) (RQ (some (.int (nI 0))) (fun g => Same (lawX (19 - lw)) (lawF (19 - lw)) h g ∧ (∃ M9 : LWt, LawAt g (19 - lw) M9.1 M9.2.1 M9.2.2) ∧ hp_F g 1 1 = .int (nI 0) ∧ hp_F g 1 4 = .int (nI k9) ∧ hp_F g 1 5 = .int (nI q9))) := by
  have hla := hC.la
  have hlw := hC.lw
  have hbk := hC.bk
  have hR : RdK (hp_sF h 1 1 (.int (nI 0))) tf := ⟨hC.K1, hC.K2, hp_F_nj (by decide) hC.R1_0, htf⟩
  have hS1 := hS.s11 (v := .int (nI 0)) (by omega)
  have hb : LwK (hp_sF h 1 1 (.int (nI 0))) (19 - lw) := ⟨hS1.1, hS1.2.1, hS1.2.2.1, hS1.2.2.2.2.2.1, hS1.2.2.2.2.2.2.1, by omega⟩
  have h9 := c_Lw_read_l (Z := Z) hst hR hB (by omega) hb hn5 (sz0, kf0, vf0) hr
  rw [lwS_id hS1] at h9
  refine cc_post (fun r h' hp => ?_) h9
  obtain ⟨e1, M9, hM, rfl⟩ := hp
  exact ⟨e1, Same.rd (Same.lw (Same.sF Same.rf (lawF_1 (by decide))) lawX_1 lawX_2 lawF_b M9) (fun j hj => lawF_1 hj) n n k9 (nI q9), ⟨M9, hS1.lwr (by omega) hM n n k9 (nI q9)⟩, rdS_j _ _ _ _ (by decide) (lwS_o (by omega) (hp_F_eq _ _ _ _)), rdS_4 _ _ _ _ _, rdS_5 _ _ _ _ _⟩
theorem clR_law : ∀ e ∈ clR, ∀ b : Nat, (b = 7 ∨ b = 12) → ¬ ((e.1 = 1 ∧ 1 ≤ e.2.1) ∨ (e.1 = b ∧ e.2.1 = 4) ∨ (e.1 = 0 ∧ (e.2.1 = 3 ∨ e.2.1 = 4))) := by
  intro e he b hb
  rcases hb with rfl | rfl <;> revert e he <;> decide
theorem CL.law {h h' : PH} {la lw bk : Nat} {X : Nat → Prop} (hC : CL h la lw bk) (hS : Same X (lawY (19 - lw)) h h') (h1 : hp_F h' 0 3 = .ref (19 - lw)) (h2 : hp_F h' 0 4 = .ref lw) : CL h' la (19 - lw) bk := by
  have hlw := hC.lw
  have hn : ∀ j, j ≠ 3 → j ≠ 4 → ¬ lawY (19 - lw) 0 j := fun j g1 g2 e => by
    unfold lawY at e
    omega
  refine ⟨fun i hi => (hS.2.1 i).trans (hC.kk i hi), fun e he => (hS.2.2.1 _ _ (clR_law e he _ (by omega))).trans (hC.rr e he), (hS.2.2.1 _ _ (hn 1 (by decide) (by decide))).trans hC.D1, (hS.2.2.1 _ _ (hn 2 (by decide) (by decide))).trans hC.D2, h1, ?_, (hS.2.2.1 _ _ (hn 5 (by decide) (by decide))).trans hC.D5, (hS.2.2.1 _ _ (hn 6 (by decide) (by decide))).trans hC.D6, hC.la, by omega, hC.bk⟩
  rw [show 19 - (19 - lw) = lw by omega]
  exact h2
theorem LawAt.oth {h : PH} {b sz a j : Nat} {kf vf : Nat → Int32} {v : Value} (hW : LawAt h b sz kf vf) (hb : b ≠ a) : LawAt (hp_sF h a j v) b sz kf vf := by
  obtain ⟨a1, a2, a3, a4, a5, a6, a7, a8, a9, a10, a11⟩ := hW
  exact ⟨a1, a2, a3, a4, a5, hp_F_na hb a6, hp_F_na hb a7, hp_F_na hb a8, hp_F_na hb a9, hp_F_na hb a10, a11⟩
set_option maxHeartbeats 4000000 in
set_option maxRecDepth 100000 in
theorem c_K_law {l : Launch} {Z : EE} (hst : l.stackTraces = false) {h : PH} {la lw bk : Nat} (hC : CL h la lw bk) {tf : Nat → Int32} (htf : hp_I h 2 = tf) {T : Nat → Nat} (hB : BT tf T) {tp : Nat} (htp : hp_F h 1 1 = .int (nI tp)) (ht6 : tp ≤ 600) {sz0 : Nat} {kf0 vf0 : Nat → Int32} (hS : LawAt h (19 - lw) sz0 kf0 vf0) (n : Nat) (hnt : n ≤ tp) (hn5 : n ≤ 150) {a9 : Nat} {M9 : LWt} (hr : lawS T n (0, kf0, vf0) = .inr (a9, M9)) : CC l Z m_X10_law 35 0 0 [.ref 0, .int (nI n)] h (RQ (some (.int (nI 1))) (fun h9 => Same (lawX (19 - lw)) (lawY (19 - lw)) h h9 ∧ CL h9 la (19 - lw) bk ∧ LawAt h9 (19 - lw) M9.1 M9.2.1 M9.2.2 ∧ hp_F h9 1 1 = .int (nI 0) ∧ hp_F h9 1 5 = .int (-1))) := by
  refine ee_entry hst (by decide +kernel) rfl rfl (by simp [Value.category]) (Nat.le_of_ble_eq_true rfl) ?_
  refine ww_lv (lv2 := [.ref 0, .int (nI n), UU]) rfl ?_
  have hla := hC.la
  have hlw := hC.lw
  have hbk := hC.bk
  have hR : RdK (hp_sF h 1 1 (.int (nI 0))) tf := ⟨hC.K1, hC.K2, hp_F_nj (by decide) hC.R1_0, htf⟩
  have hS1 := hS.s11 (v := .int (nI 0)) (by omega)
  have hb : LwK (hp_sF h 1 1 (.int (nI 0))) (19 - lw) := ⟨hS1.1, hS1.2.1, hS1.2.2.1, hS1.2.2.2.2.2.1, hS1.2.2.2.2.2.2.1, by omega⟩
  have hW0 : hp_K h lw = (3, 5) := by rcases hlw with e | e; rw [e]; exact hC.K7; rw [e]; exact hC.K12
  refine ww_aload_n dX10_law_0 rfl rfl ?_
  refine ww_iload_n dX10_law_1 rfl rfl ?_
  refine ww_iconst (v := nI 0) dX10_law_2 (by decide) ?_
  refine ww_aload_n dX10_law_3 rfl rfl ?_
  refine ww_get 0 dX10_law_4 (hC.K0) rfl (by decide) inX10 wg_264 (hC.R0_0) ?_
  refine ww_getN 1 dX10_law_7 (hC.K1) rfl (by decide) inX5 wn_40 htp ?_
  refine ww_sipush (v := nI 150) dX10_law_10 (by decide) ?_
  refine ww_cSr (M := m_X10_law) (pc := 13) (v := .int (nI (min tp 150))) (h1 := h) (st := [.int (nI 0), .int (nI n), .ref 0]) (d := 35) (bc := 0) (bs := 0) (c_minN hst tp 150 (by omega) (by omega) h) vv_J9_min_7cf53 dX10_law_13 wg_603 rfl rfl rfl (Nat.le_of_ble_eq_true rfl) (Nat.le_of_ble_eq_true rfl) (Nat.le_of_ble_eq_true rfl) (Nat.le_of_ble_eq_true rfl) ?_
  refine ww_cV0 (M := m_X10_law) (pc := 16) (h1 := h) (st := []) (d := 35) (bc := 0) (bs := 0) (c_within_t hst (nI n) (nI 0) (nI (min tp 150)) (nI_le (by omega) (by omega)) (nI_le (by omega) (by omega)) _) vv_X10_within dX10_law_16 wg_410 (hC.K0) rfl rfl rfl rfl (Nat.le_of_ble_eq_true rfl) (Nat.le_of_ble_eq_true rfl) (Nat.le_of_ble_eq_true rfl) (Nat.le_of_ble_eq_true rfl) ?_
  refine ww_aload_n dX10_law_19 rfl rfl ?_
  refine ww_get 0 dX10_law_20 (hC.K0) rfl (by decide) inX10 wg_264 (hC.R0_0) ?_
  refine ww_iload_n dX10_law_23 rfl rfl ?_
  refine ww_cV0 (M := m_X10_law) (pc := 24) (h1 := rdS (hp_sF h 1 1 (.int (nI 0))) n 0 0 (-1)) (st := []) (d := 35) (bc := 0) (bs := 0) (c_Rd_open hst (tf := tf) ⟨hC.K1, hC.K2, hC.R1_0, htf⟩ n) vv_X5_open dX10_law_24 wg_481 (hC.K1) rfl rfl rfl rfl (Nat.le_of_ble_eq_true rfl) (Nat.le_of_ble_eq_true rfl) (Nat.le_of_ble_eq_true rfl) (Nat.le_of_ble_eq_true rfl) ?_
  refine ww_aload_n dX10_law_27 rfl rfl ?_
  refine ww_get 4 dX10_law_28 (hC.K0) rfl (by decide) inX10 wg_268 (rdS_o _ _ _ _ (by omega) (hp_F_na (by omega) hC.D4)) ?_
  refine ww_aload_n dX10_law_31 rfl rfl ?_
  refine ww_get 0 dX10_law_32 (hC.K0) rfl (by decide) inX10 wg_264 (rdS_o _ _ _ _ (by omega) (hp_F_na (by omega) (hC.R0_0))) ?_
  refine ww_cVq (M := m_X10_law) (pc := 35) (v := .int (nI 1)) (st := []) (d := 35) (bc := 0) (bs := 0) (c_Lw_readK_r hst hC htf hB htp ht6 hS n hnt hn5 hr) vv_X3_read dX10_law_35 wg_604 hS.1 rfl rfl rfl rfl (Nat.le_of_ble_eq_true rfl) (Nat.le_of_ble_eq_true rfl) (Nat.le_of_ble_eq_true rfl) (Nat.le_of_ble_eq_true rfl) (fun hq qq => ?_)
  obtain ⟨sq, qL, q11, q15⟩ := qq
  refine ww_if_neN (tgt := 49) dX10_law_38 (by decide) (by omega) (fun c38 => ?_) (fun c38 => ?_)
  · refine ww_aload_n dX10_law_49 rfl rfl ?_
    refine ww_get 3 dX10_law_50 ((sq.2.1 _).trans (hC.K0)) rfl (by decide) inX10 wg_267 ((sq.2.2.1 _ _ (lawF_no (by omega) (by omega))).trans hC.D3) ?_
    refine ww_sta_n (lv2 := [.ref 0, .int (nI n), .ref lw]) dX10_law_53 rfl rfl (by decide) rfl ?_
    refine ww_aload_n dX10_law_54 rfl rfl ?_
    refine ww_aload_n dX10_law_55 rfl rfl ?_
    refine ww_get 4 dX10_law_56 ((sq.2.1 _).trans (hC.K0)) rfl (by decide) inX10 wg_268 ((sq.2.2.1 _ _ (lawF_no (by omega) (by omega))).trans hC.D4) ?_
    refine ww_put tyX10 3 dX10_law_59 ((sq.2.1 _).trans (hC.K0)) rfl (by decide) inX10 tyX10_ok nmX10 wg_267 rfl (ee_na_ref (Or.inl ⟨_, rfl⟩)) ?_
    refine ww_aload_n dX10_law_62 rfl rfl ?_
    refine ww_aload_n dX10_law_63 rfl rfl ?_
    refine ww_put tyX10 4 dX10_law_64 ((sq.2.1 _).trans (hC.K0)) rfl (by decide) inX10 tyX10_ok nmX10 wg_268 rfl (ee_na_ref (Or.inl ⟨_, rfl⟩)) ?_
    refine ww_iconst (v := nI 1) dX10_law_67 (by decide) ?_
    exact ww_iret dX10_law_68 rfl ⟨rfl, Same.sF (Same.sF (sq.mono (fun _ e => e) (fun _ _ e => lawF_Y e)) (lawY_0 (by decide))) (lawY_0 (by decide)), CL.law hC (Same.sF (Same.sF (sq.mono (fun _ e => e) (fun _ _ e => lawF_Y e)) (lawY_0 (by decide))) (lawY_0 (by decide))) (hp_F_nj (by decide) (hp_F_eq _ _ _ _)) (hp_F_eq _ _ _ _), (qL.oth (by omega)).oth (by omega), (hp_F_nj (by decide) (hp_F_nj (by decide) q11)), (hp_F_nj (by decide) (hp_F_nj (by decide) q15))⟩
  · exact absurd c38 (by decide)
set_option maxHeartbeats 4000000 in
set_option maxRecDepth 100000 in
theorem c_K_law_l {l : Launch} {Z : EE} (hst : l.stackTraces = false) {h : PH} {la lw bk : Nat} (hC : CL h la lw bk) {tf : Nat → Int32} (htf : hp_I h 2 = tf) {T : Nat → Nat} (hB : BT tf T) {tp : Nat} (htp : hp_F h 1 1 = .int (nI tp)) (ht6 : tp ≤ 600) {sz0 : Nat} {kf0 vf0 : Nat → Int32} (hS : LawAt h (19 - lw) sz0 kf0 vf0) (n : Nat) (hnt : n ≤ tp) (hn5 : n ≤ 150) {k9 q9 : Nat} (hr : lawS T n (0, kf0, vf0) = .inl (k9, q9)) : CC l Z m_X10_law 35 0 0 [.ref 0, .int (nI n)] h (RQ (some (.int (nI k9 - nI 10))) (fun h9 => Same (lawX (19 - lw)) (lawF (19 - lw)) h h9 ∧ (∃ M9 : LWt, LawAt h9 (19 - lw) M9.1 M9.2.1 M9.2.2) ∧ hp_F h9 1 1 = .int (nI 0) ∧ hp_F h9 1 5 = .int (nI q9))) := by
  refine ee_entry hst (by decide +kernel) rfl rfl (by simp [Value.category]) (Nat.le_of_ble_eq_true rfl) ?_
  refine ww_lv (lv2 := [.ref 0, .int (nI n), UU]) rfl ?_
  have hla := hC.la
  have hlw := hC.lw
  have hbk := hC.bk
  have hR : RdK (hp_sF h 1 1 (.int (nI 0))) tf := ⟨hC.K1, hC.K2, hp_F_nj (by decide) hC.R1_0, htf⟩
  have hS1 := hS.s11 (v := .int (nI 0)) (by omega)
  have hb : LwK (hp_sF h 1 1 (.int (nI 0))) (19 - lw) := ⟨hS1.1, hS1.2.1, hS1.2.2.1, hS1.2.2.2.2.2.1, hS1.2.2.2.2.2.2.1, by omega⟩
  have hW0 : hp_K h lw = (3, 5) := by rcases hlw with e | e; rw [e]; exact hC.K7; rw [e]; exact hC.K12
  refine ww_aload_n dX10_law_0 rfl rfl ?_
  refine ww_iload_n dX10_law_1 rfl rfl ?_
  refine ww_iconst (v := nI 0) dX10_law_2 (by decide) ?_
  refine ww_aload_n dX10_law_3 rfl rfl ?_
  refine ww_get 0 dX10_law_4 (hC.K0) rfl (by decide) inX10 wg_264 (hC.R0_0) ?_
  refine ww_getN 1 dX10_law_7 (hC.K1) rfl (by decide) inX5 wn_40 htp ?_
  refine ww_sipush (v := nI 150) dX10_law_10 (by decide) ?_
  refine ww_cSr (M := m_X10_law) (pc := 13) (v := .int (nI (min tp 150))) (h1 := h) (st := [.int (nI 0), .int (nI n), .ref 0]) (d := 35) (bc := 0) (bs := 0) (c_minN hst tp 150 (by omega) (by omega) h) vv_J9_min_7cf53 dX10_law_13 wg_603 rfl rfl rfl (Nat.le_of_ble_eq_true rfl) (Nat.le_of_ble_eq_true rfl) (Nat.le_of_ble_eq_true rfl) (Nat.le_of_ble_eq_true rfl) ?_
  refine ww_cV0 (M := m_X10_law) (pc := 16) (h1 := h) (st := []) (d := 35) (bc := 0) (bs := 0) (c_within_t hst (nI n) (nI 0) (nI (min tp 150)) (nI_le (by omega) (by omega)) (nI_le (by omega) (by omega)) _) vv_X10_within dX10_law_16 wg_410 (hC.K0) rfl rfl rfl rfl (Nat.le_of_ble_eq_true rfl) (Nat.le_of_ble_eq_true rfl) (Nat.le_of_ble_eq_true rfl) (Nat.le_of_ble_eq_true rfl) ?_
  refine ww_aload_n dX10_law_19 rfl rfl ?_
  refine ww_get 0 dX10_law_20 (hC.K0) rfl (by decide) inX10 wg_264 (hC.R0_0) ?_
  refine ww_iload_n dX10_law_23 rfl rfl ?_
  refine ww_cV0 (M := m_X10_law) (pc := 24) (h1 := rdS (hp_sF h 1 1 (.int (nI 0))) n 0 0 (-1)) (st := []) (d := 35) (bc := 0) (bs := 0) (c_Rd_open hst (tf := tf) ⟨hC.K1, hC.K2, hC.R1_0, htf⟩ n) vv_X5_open dX10_law_24 wg_481 (hC.K1) rfl rfl rfl rfl (Nat.le_of_ble_eq_true rfl) (Nat.le_of_ble_eq_true rfl) (Nat.le_of_ble_eq_true rfl) (Nat.le_of_ble_eq_true rfl) ?_
  refine ww_aload_n dX10_law_27 rfl rfl ?_
  refine ww_get 4 dX10_law_28 (hC.K0) rfl (by decide) inX10 wg_268 (rdS_o _ _ _ _ (by omega) (hp_F_na (by omega) hC.D4)) ?_
  refine ww_aload_n dX10_law_31 rfl rfl ?_
  refine ww_get 0 dX10_law_32 (hC.K0) rfl (by decide) inX10 wg_264 (rdS_o _ _ _ _ (by omega) (hp_F_na (by omega) (hC.R0_0))) ?_
  refine ww_cVq (M := m_X10_law) (pc := 35) (v := .int (nI 0)) (st := []) (d := 35) (bc := 0) (bs := 0) (c_Lw_readK_l hst hC htf hB htp ht6 hS n hnt hn5 hr) vv_X3_read dX10_law_35 wg_604 hS.1 rfl rfl rfl rfl (Nat.le_of_ble_eq_true rfl) (Nat.le_of_ble_eq_true rfl) (Nat.le_of_ble_eq_true rfl) (Nat.le_of_ble_eq_true rfl) (fun hq qq => ?_)
  obtain ⟨sq, qL, q11, q14, q15⟩ := qq
  refine ww_if_neN (tgt := 49) dX10_law_38 (by decide) (by omega) (fun c38 => ?_) (fun c38 => ?_)
  · exact absurd c38 (by decide)
  · refine ww_aload_n dX10_law_41 rfl rfl ?_
    refine ww_get 0 dX10_law_42 ((sq.2.1 _).trans (hC.K0)) rfl (by decide) inX10 wg_264 ((sq.2.2.1 _ _ (lawF_no (by omega) (by omega))).trans (hC.R0_0)) ?_
    refine ww_cVr (M := m_X10_law) (pc := 45) (v := .int (nI k9 - nI 10)) (h1 := hq) (st := []) (d := 35) (bc := 0) (bs := 0) (c_Rd_answerK hst ((sq.2.1 _).trans hC.K1) q14) vv_X5_answer dX10_law_45 wg_584 ((sq.2.1 _).trans (hC.K1)) rfl rfl rfl rfl (Nat.le_of_ble_eq_true rfl) (Nat.le_of_ble_eq_true rfl) (Nat.le_of_ble_eq_true rfl) (Nat.le_of_ble_eq_true rfl) ?_
    exact ww_iret dX10_law_48 rfl ⟨rfl, sq, qL, q11, q15⟩
set_option maxHeartbeats 4000000 in
set_option maxRecDepth 100000 in
theorem c_K_law_no {l : Launch} {Z : EE} (hst : l.stackTraces = false) {h : PH} {la lw bk : Nat} (hC : CL h la lw bk) {tp : Nat} (htp : hp_F h 1 1 = .int (nI tp)) (ht6 : tp ≤ 600) {wr : Int32} (hwr : hp_F h 0 13 = .int wr) (n : Int32) (hout : ¬ (nI 0 ≤ n ∧ n ≤ nI (min tp 150))) : CC l Z m_X10_law 7 1 6 [.ref 0, .int n] h (TH iaX (hp_sF h 0 13 (.int (wr + nI 1)))) := by
  refine ee_entry hst (by decide +kernel) rfl rfl (by simp [Value.category]) (Nat.le_of_ble_eq_true rfl) ?_
  refine ww_lv (lv2 := [.ref 0, .int n, UU]) rfl ?_
  refine ww_aload_n dX10_law_0 rfl rfl ?_
  refine ww_iload_n dX10_law_1 rfl rfl ?_
  refine ww_iconst (v := nI 0) dX10_law_2 (by decide) ?_
  refine ww_aload_n dX10_law_3 rfl rfl ?_
  refine ww_get 0 dX10_law_4 (hC.K0) rfl (by decide) inX10 wg_264 (hC.R0_0) ?_
  refine ww_getN 1 dX10_law_7 (hC.K1) rfl (by decide) inX5 wn_40 htp ?_
  refine ww_sipush (v := nI 150) dX10_law_10 (by decide) ?_
  refine ww_cSr (M := m_X10_law) (pc := 13) (v := .int (nI (min tp 150))) (h1 := h) (st := [.int (nI 0), .int n, .ref 0]) (d := 7) (bc := 1) (bs := 6) (c_minN hst tp 150 (by omega) (by omega) h) vv_J9_min_7cf53 dX10_law_13 wg_603 rfl rfl rfl (Nat.le_of_ble_eq_true rfl) (Nat.le_of_ble_eq_true rfl) (Nat.le_of_ble_eq_true rfl) (Nat.le_of_ble_eq_true rfl) ?_
  exact ww_cVt (M := m_X10_law) (pc := 16) (st := []) (d := 7) (bc := 0) (bs := 0) (c_within_f hst hC.K0 hwr n (nI 0) (nI (min tp 150)) hout) vv_X10_within dX10_law_16 wg_410 (hC.K0) rfl rfl rfl rfl (Nat.le_of_ble_eq_true rfl) (Nat.le_of_ble_eq_true rfl) (Nat.le_of_ble_eq_true rfl) (Nat.le_of_ble_eq_true rfl) ⟨rfl, rfl⟩
