/-! ===== land, as the class answers it ===== -/
theorem lnS_o {h : PH} {b np du : Nat} {f : Nat → Int32} {x j : Nat} {v : Value} (hx : x ≠ b) (e : hp_F h x j = v) : hp_F (lnS h b np du f) x j = v := by rw [lnS_F, if_neg (by omega), if_neg (by omega)]; exact e
theorem lnS_id {h : PH} {b np du : Nat} {f : Nat → Int32} (hL : LandAt h b np du f) : lnS h b np du f = h := by
  refine hp_ext rfl (fun _ => rfl) (fun x j => ?_) (fun x => ?_) (fun _ => rfl)
  · rw [lnS_F]
    by_cases e2 : x = b ∧ j = 2
    · rw [if_pos e2, e2.1, e2.2, hL.2.2.2.2.1]
    · rw [if_neg e2]
      by_cases e1 : x = b ∧ j = 1
      · rw [if_pos e1, e1.1, e1.2, hL.2.2.2.1]
      · rw [if_neg e1]
  · show (if x = b + 1 then f else hp_I h x) = hp_I h x
    by_cases e : x = b + 1
    · rw [if_pos e, e, hL.2.2.2.2.2.1]
    · rw [if_neg e]
theorem Same.rd {X : Nat → Prop} {Y : Nat → Nat → Prop} {h h1 : PH} (a : Same X Y h h1) (hY : ∀ j, 1 ≤ j → Y 1 j) (n b k : Nat) (pl : Int32) : Same X Y h (rdS h1 n b k pl) := by
  unfold rdS
  exact (((a.sF (hY 2 (by decide))).sF (hY 3 (by decide))).sF (hY 4 (by decide))).sF (hY 5 (by decide))
theorem Same.ln {X : Nat → Prop} {Y : Nat → Nat → Prop} {h h1 : PH} (a : Same X Y h h1) {b : Nat} (hX : X (b + 1)) (hY1 : Y b 1) (hY2 : Y b 2) (np du : Nat) (f : Nat → Int32) : Same X Y h (lnS h1 b np du f) := by
  unfold lnS
  exact ((a.sI hX).sF hY1).sF hY2
theorem LandAt.s11 {h : PH} {b np du : Nat} {f : Nat → Int32} {v : Value} (hL : LandAt h b np du f) (hb : b ≠ 1) : LandAt (hp_sF h 1 1 v) b np du f :=
  ⟨hL.1, hL.2.1, hp_F_na hb hL.2.2.1, hp_F_na hb hL.2.2.2.1, hp_F_na hb hL.2.2.2.2.1, hL.2.2.2.2.2⟩
def landX (b : Nat) : Nat → Prop := fun c => c = b + 1
def landY (b lw bk : Nat) : Nat → Nat → Prop := fun a j => (a = 1 ∧ 1 ≤ j) ∨ (a = b ∧ 1 ≤ j) ∨ (a = 0 ∧ (j = 1 ∨ j = 2 ∨ j = 8 ∨ j = 10 ∨ j = 11)) ∨ (a = lw ∧ j = 4) ∨ (a = bk ∧ j = 2) ∨ a = 28
def landF (b : Nat) : Nat → Nat → Prop := fun a j => (a = 1 ∧ 1 ≤ j) ∨ (a = b ∧ 1 ≤ j)
set_option maxHeartbeats 4000000 in
set_option maxRecDepth 100000 in
theorem c_Law_forget {l : Launch} {Z : EE} (hst : l.stackTraces = false) {h : PH} {b : Nat} (hk : hp_K h b = (3, 5)) : CC l Z m_X3_forget 0 0 0 [.ref b] h (RT none (hp_sF h b 4 (.int (nI 0)))) := by
  refine ee_entry hst (by decide +kernel) rfl rfl (by simp [Value.category]) (Nat.le_of_ble_eq_true rfl) ?_
  refine ww_lv (lv2 := [.ref b]) rfl ?_
  refine ww_aload_n dX3_forget_0 rfl rfl ?_
  refine ww_iconst (v := nI 0) dX3_forget_1 (by decide) ?_
  refine ww_pfI tyX3 4 dX3_forget_2 hk rfl (by decide) inX3 tyX3_ok nmX3 wg_98 rfl rfl ?_
  exact ww_vret dX3_forget_5 rfl ⟨rfl, rfl⟩
set_option maxHeartbeats 4000000 in
set_option maxRecDepth 100000 in
theorem c_Book_forget {l : Launch} {Z : EE} (hst : l.stackTraces = false) {h : PH} {b : Nat} (hk : hp_K h b = (1, 3)) : CC l Z m_X1_forget 0 0 0 [.ref b] h (RT none (hp_sF h b 2 (.int (nI 0)))) := by
  refine ee_entry hst (by decide +kernel) rfl rfl (by simp [Value.category]) (Nat.le_of_ble_eq_true rfl) ?_
  refine ww_lv (lv2 := [.ref b]) rfl ?_
  refine ww_aload_n dX1_forget_0 rfl rfl ?_
  refine ww_iconst (v := nI 0) dX1_forget_1 (by decide) ?_
  refine ww_pfI tyX1 2 dX1_forget_2 hk rfl (by decide) inX1 tyX1_ok nmX1 wg_118 rfl rfl ?_
  exact ww_vret dX1_forget_5 rfl ⟨rfl, rfl⟩
theorem landX_b {b : Nat} : landX b (b + 1) := rfl
theorem landF_1 {b j : Nat} (h : 1 ≤ j) : landF b 1 j := Or.inl ⟨rfl, h⟩
theorem landF_b {b j : Nat} (h : 1 ≤ j) : landF b b j := Or.inr ⟨rfl, h⟩
theorem landY_1 {b lw bk j : Nat} (h : 1 ≤ j) : landY b lw bk 1 j := Or.inl ⟨rfl, h⟩
theorem landY_b {b lw bk j : Nat} (h : 1 ≤ j) : landY b lw bk b j := Or.inr (Or.inl ⟨rfl, h⟩)
theorem landY_0 {b lw bk j : Nat} (h : j = 1 ∨ j = 2 ∨ j = 8 ∨ j = 10 ∨ j = 11) : landY b lw bk 0 j := Or.inr (Or.inr (Or.inl ⟨rfl, h⟩))
theorem landY_l {b lw bk : Nat} : landY b lw bk lw 4 := Or.inr (Or.inr (Or.inr (Or.inl ⟨rfl, rfl⟩)))
theorem landY_k {b lw bk : Nat} : landY b lw bk bk 2 := Or.inr (Or.inr (Or.inr (Or.inr (Or.inl ⟨rfl, rfl⟩))))
theorem landY_28 {b lw bk j : Nat} : landY b lw bk 28 j := Or.inr (Or.inr (Or.inr (Or.inr (Or.inr rfl))))
theorem clR_in : ∀ e ∈ clR, e.2.1 ≠ 4 ∨ e.1 = 30 := by decide
theorem clR_land : ∀ e ∈ clR, ∀ b lw bk : Nat, (b = 3 ∨ b = 5) → (lw = 7 ∨ lw = 12) → (bk = 17 ∨ bk = 20) → ¬ ((e.1 = 1 ∧ 1 ≤ e.2.1) ∨ (e.1 = b ∧ 1 ≤ e.2.1) ∨ (e.1 = 0 ∧ (e.2.1 = 1 ∨ e.2.1 = 2 ∨ e.2.1 = 8 ∨ e.2.1 = 10 ∨ e.2.1 = 11)) ∨ (e.1 = lw ∧ e.2.1 = 4) ∨ (e.1 = bk ∧ e.2.1 = 2) ∨ e.1 = 28) := by
  intro e he b lw bk hb hl hk
  rcases hb with rfl | rfl <;> rcases hl with rfl | rfl <;> rcases hk with rfl | rfl <;> revert e he <;> decide
theorem CL.land {h h' : PH} {la lw bk : Nat} {X : Nat → Prop} (hC : CL h la lw bk) (hS : Same X (landY (8 - la) lw bk) h h') (h1 : hp_F h' 0 1 = .ref (8 - la)) (h2 : hp_F h' 0 2 = .ref la) : CL h' (8 - la) lw bk := by
  have hla := hC.la
  have hlw := hC.lw
  have hbk := hC.bk
  have hn : ∀ j, 3 ≤ j → j ≤ 6 → ¬ landY (8 - la) lw bk 0 j := fun j g1 g2 e => by
    unfold landY at e
    omega
  refine ⟨fun i hi => (hS.2.1 i).trans (hC.kk i hi), fun e he => (hS.2.2.1 _ _ (clR_land e he _ _ _ (by omega) hlw hbk)).trans (hC.rr e he), h1, ?_, (hS.2.2.1 _ _ (hn 3 (by decide) (by decide))).trans hC.D3, (hS.2.2.1 _ _ (hn 4 (by decide) (by decide))).trans hC.D4, (hS.2.2.1 _ _ (hn 5 (by decide) (by decide))).trans hC.D5, (hS.2.2.1 _ _ (hn 6 (by decide) (by decide))).trans hC.D6, by omega, hlw, hbk⟩
  rw [show 8 - (8 - la) = la by omega]
  exact h2
theorem landF_no {b a j : Nat} (h1 : a ≠ 1) (h2 : a ≠ b) : ¬ landF b a j := fun e => by unfold landF at e; omega
theorem landF_Y {b lw bk a j : Nat} (h : landF b a j) : landY b lw bk a j := h.elim (fun e => Or.inl e) (fun e => Or.inr (Or.inl e))
set_option maxHeartbeats 4000000 in
theorem c_Ln_readK_r {l : Launch} {Z : EE} (hst : l.stackTraces = false) {h : PH} {la lw bk : Nat} (hC : CL h la lw bk) {tf : Nat → Int32} (htf : hp_I h 2 = tf) {T : Nat → Nat} (hB : BT tf T) {tp : Nat} (htp : hp_F h 1 1 = .int (nI tp)) (ht6 : tp ≤ 600) {np0 du0 : Nat} {f0 : Nat → Int32} (hS : LandAt h (8 - la) np0 du0 f0) (hz : RowZ f0) (n : Nat) (hnt : n ≤ tp) {a9 : Nat} {s9 : LSt} (hr : ldS T n 61 0 em0 0 = .inr (a9, s9)) : CC l Z m_X2_read 7 0 0 [.ref (8 - la), .ref 1] (rdS (hp_sF h 1 1 (.int (nI 0))) n 0 0 (-1)) (RQ (some (.int (nI 1))) (fun g => Same (landX (8 - la)) (landF (8 - la)) h g ∧ LandAt g (8 - la) s9.1 s9.2.1 s9.2.2 ∧ hp_F g 1 1 = .int (nI 0) ∧ hp_F g 1 5 = .int (-1))) := by
  have hla := hC.la
  have hlw := hC.lw
  have hbk := hC.bk
  have hR : RdK (hp_sF h 1 1 (.int (nI 0))) tf := ⟨hC.K1, hC.K2, hp_F_nj (by decide) hC.R1_0, htf⟩
  have hb : LnK (hp_sF h 1 1 (.int (nI 0))) (8 - la) := ⟨hS.1, hS.2.1, hp_F_na (by omega) hS.2.2.1, by omega⟩
  have hG : LsG s9 := by have h9 := ldS_x (T := T) (n := n) 61 0 em0 0 em0_G (by omega) (by omega); rw [hr] at h9; exact h9.1
  have h9 := c_Ln_read_r (Z := Z) hst hR hB (by omega) hb (np := np0) (du := du0) (f := f0) hz hr
  rw [lnS_id (hS.s11 (by omega))] at h9
  refine cc_post (fun r h' hp => ?_) h9
  obtain ⟨e1, rfl⟩ := hp
  refine ⟨e1, Same.rd (Same.ln (Same.sF Same.rf (landF_1 (by decide))) landX_b (landF_b (by decide)) (landF_b (by decide)) s9.1 s9.2.1 s9.2.2) (fun j hj => landF_1 hj) n n 0 (-1), ⟨hS.1, hS.2.1, rdS_o _ _ _ _ (by omega) (lnS_0 hb.2.2.1), rdS_o _ _ _ _ (by omega) (lnS_1 _ _ _ _ _), rdS_o _ _ _ _ (by omega) (lnS_2 _ _ _ _ _), lnS_I (hp_sF h 1 1 (.int (nI 0))) (8 - la) s9.1 s9.2.1 s9.2.2, hG.1.1, hG.1.2.1⟩, rdS_j _ _ _ _ (by decide) (lnS_o (by omega) (hp_F_eq _ _ _ _)), rdS_5 _ _ _ _ _⟩
set_option maxHeartbeats 4000000 in
theorem c_Ln_readK_l {l : Launch} {Z : EE} (hst : l.stackTraces = false) {h : PH} {la lw bk : Nat} (hC : CL h la lw bk) {tf : Nat → Int32} (htf : hp_I h 2 = tf) {T : Nat → Nat} (hB : BT tf T) {tp : Nat} (htp : hp_F h 1 1 = .int (nI tp)) (ht6 : tp ≤ 600) {np0 du0 : Nat} {f0 : Nat → Int32} (hS : LandAt h (8 - la) np0 du0 f0) (hz : RowZ f0) (n : Nat) (hnt : n ≤ tp) {k9 q9 : Nat} (hr : ldS T n 61 0 em0 0 = .inl (k9, q9)) : CC l Z m_X2_read 7 0 0 [.ref (8 - la), .ref 1] (rdS (hp_sF h 1 1 (.int (nI 0))) n 0 0 (-1)) (RQ (some (.int (nI 0))) (fun g => Same (landX (8 - la)) (landF (8 - la)) h g ∧ (∃ s9 : LSt, LsI s9 ∧ LandAt g (8 - la) s9.1 s9.2.1 s9.2.2) ∧ hp_F g 1 1 = .int (nI 0) ∧ hp_F g 1 4 = .int (nI k9) ∧ hp_F g 1 5 = .int (nI q9))) := by
  have hla := hC.la
  have hlw := hC.lw
  have hbk := hC.bk
  have hR : RdK (hp_sF h 1 1 (.int (nI 0))) tf := ⟨hC.K1, hC.K2, hp_F_nj (by decide) hC.R1_0, htf⟩
  have hb : LnK (hp_sF h 1 1 (.int (nI 0))) (8 - la) := ⟨hS.1, hS.2.1, hp_F_na (by omega) hS.2.2.1, by omega⟩
  have h9 := c_Ln_read_l (Z := Z) hst hR hB (by omega) hb (np := np0) (du := du0) (f := f0) hz hr
  rw [lnS_id (hS.s11 (by omega))] at h9
  refine cc_post (fun r h' hp => ?_) h9
  obtain ⟨e1, s9, hz9, rfl⟩ := hp
  refine ⟨e1, Same.rd (Same.ln (Same.sF Same.rf (landF_1 (by decide))) landX_b (landF_b (by decide)) (landF_b (by decide)) s9.1 s9.2.1 s9.2.2) (fun j hj => landF_1 hj) n n k9 (nI q9), ⟨s9, hz9, hS.1, hS.2.1, rdS_o _ _ _ _ (by omega) (lnS_0 hb.2.2.1), rdS_o _ _ _ _ (by omega) (lnS_1 _ _ _ _ _), rdS_o _ _ _ _ (by omega) (lnS_2 _ _ _ _ _), lnS_I (hp_sF h 1 1 (.int (nI 0))) (8 - la) s9.1 s9.2.1 s9.2.2, hz9.1, hz9.2.1⟩, rdS_j _ _ _ _ (by decide) (lnS_o (by omega) (hp_F_eq _ _ _ _)), rdS_4 _ _ _ _ _, rdS_5 _ _ _ _ _⟩
theorem landY_28a {b lw bk a j : Nat} (h : a = 28) : landY b lw bk a j := by rw [h]; exact landY_28
theorem landY_0a {b lw bk a j : Nat} (h : a = 0) (hj : j = 1 ∨ j = 2 ∨ j = 8 ∨ j = 10 ∨ j = 11) : landY b lw bk a j := by rw [h]; exact landY_0 hj
theorem CL.sd {h h' : PH} {la lw bk q : Nat} (hC : CL h la lw bk) (hS : Same (fun _ => False) (fun a j => (a = 28 ∧ q ≤ j ∧ j < 3) ∨ (a = 0 ∧ j = 10)) h h') : CL h' la lw bk :=
  hC.same hS (fun e he => (by decide : ∀ e ∈ clR, ¬ (e.1 = 28 ∨ (e.1 = 0 ∧ e.2.1 = 10))) e he ∘ (fun z => z.imp (fun y => y.1) id)) (fun j h1 h2 e => by omega)
theorem CL.s11 {h : PH} {la lw bk : Nat} {v : Value} (hC : CL h la lw bk) : CL (hp_sF h 0 11 v) la lw bk :=
  hC.same (X := fun _ => False) (Y := fun a j => a = 0 ∧ j = 11) (Same.rf.sF ⟨rfl, rfl⟩) (by decide) (fun j h1 h2 e => by omega)
