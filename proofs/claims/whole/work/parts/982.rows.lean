/-! ===== what was meant in the class ===== -/
def MtA (h : PH) (fr : Nat → Nat) (s : MT) : Prop := hp_K h 39 = (6, 4) ∧ hp_K h 40 = (20, 61) ∧ hp_K h 29 = (20, 61) ∧ hp_F h 39 0 = .ref 40 ∧ hp_F h 39 1 = .ref 29 ∧ hp_F h 39 2 = .int (nI s.1) ∧ hp_F h 39 3 = .int (ftV s) ∧ (∀ i, i < 61 → hp_I h 40 i = nI (s.2.2 i)) ∧ ∀ i, i < 61 → hp_I h 29 i = nI (fr i)
def mtX : Nat → Prop := fun c => c = 40
def mtY : Nat → Nat → Prop := fun a j => a = 39 ∧ (j = 2 ∨ j = 3)
theorem MtA.hold {h : PH} {fr : Nat → Nat} {s : MT} (hA : MtA h fr s) {n : Nat} {F : Nat → Int32} (hF : F = upd (hp_I h 40) n (hp_I h 40 n + nI 1)) (hn : n < 61) : MtA (hp_sI h 40 F) fr (s.1, s.2.1, hld s.2.2 n) :=
  ⟨hA.1, hA.2.1, hA.2.2.1, hA.2.2.2.1, hA.2.2.2.2.1, hA.2.2.2.2.2.1, hA.2.2.2.2.2.2.1, fun i hi => by
    rw [hp_I_eq, hF]
    by_cases e : i = n
    · subst e
      rw [pk_us, hA.2.2.2.2.2.2.2.1 i hi, nI_add]
      show _ = nI (if i = i then _ else _)
      rw [if_pos rfl]
    · rw [pk_un e, hA.2.2.2.2.2.2.2.1 i hi]
      show _ = nI (if i = n then _ else _)
      rw [if_neg e], fun i hi => by rw [hp_I_ne (by decide)]; exact hA.2.2.2.2.2.2.2.2 i hi⟩
theorem ftV_f {s : MT} {d : Nat} {w : Nat → Nat} (h : s.1 = 0) : ftV (s.1 + 1, (if s.1 = 0 then d else s.2.1), w) = nI d := by
  show (if s.1 + 1 = 0 then _ else nI (if s.1 = 0 then d else s.2.1)) = _
  rw [if_neg (by omega), if_pos h]
theorem ftV_n {s : MT} {d : Nat} {w : Nat → Nat} (h : ¬ s.1 = 0) : ftV (s.1 + 1, (if s.1 = 0 then d else s.2.1), w) = ftV s := by
  show (if s.1 + 1 = 0 then _ else nI (if s.1 = 0 then d else s.2.1)) = (if s.1 = 0 then _ else _)
  rw [if_neg (by omega), if_neg h, if_neg h]
def foF (d : Nat) (s : MT) : MT := (s.1 + 1, (if s.1 = 0 then d else s.2.1), s.2.2)
set_option maxHeartbeats 4000000 in
set_option maxRecDepth 100000 in
theorem c_Rw_found {l : Launch} {Z : EE} (hst : l.stackTraces = false) {h : PH} {fr : Nat → Nat} {s : MT} (hA : MtA h fr s) (h9s : s.1 ≤ 1000000) (d : Nat) : CC l Z m_X6_found 0 0 0 [.ref 39, .int (nI d)] h (RQ none (fun h9 => MtA h9 fr (foF d s) ∧ Same mtX mtY h h9)) := by
  refine ee_entry hst (by decide +kernel) rfl rfl (by simp [Value.category]) (Nat.le_of_ble_eq_true rfl) ?_
  refine ww_lv (lv2 := [.ref 39, .int (nI d)]) rfl ?_
  refine ww_aload_n dX6_found_0 rfl rfl ?_
  refine ww_get 2 dX6_found_1 hA.1 rfl (by decide) inX6 wg_224 hA.2.2.2.2.2.1 ?_
  refine ww_if_neN (tgt := 12) dX6_found_4 (by decide) (by omega) (fun c4 => ?_) (fun c4 => ?_)
  · refine ww_aload_n dX6_found_12 rfl rfl ?_
    refine ww_dup dX6_found_13 rfl ?_
    refine ww_get 2 dX6_found_14 hA.1 rfl (by decide) inX6 wg_224 hA.2.2.2.2.2.1 ?_
    refine ww_iconst (v := nI 1) dX6_found_17 (by decide) ?_
    refine ww_iaddN dX6_found_18 ?_
    refine ww_pfI tyX6 2 dX6_found_19 hA.1 rfl (by decide) inX6 tyX6_ok nmX6 wg_224 rfl rfl ?_
    exact ww_vret dX6_found_22 rfl ⟨rfl, ⟨hA.1, hA.2.1, hA.2.2.1, hp_F_nj (by decide) hA.2.2.2.1, hp_F_nj (by decide) hA.2.2.2.2.1, hp_F_eq _ _ _ _, (by rw [show foF d s = (s.1 + 1, (if s.1 = 0 then d else s.2.1), s.2.2) from rfl, ftV_n (by omega)]; exact hp_F_nj (by decide) hA.2.2.2.2.2.2.1), hA.2.2.2.2.2.2.2.1, hA.2.2.2.2.2.2.2.2⟩, Same.rf.sF (show mtY 39 2 from ⟨rfl, Or.inl rfl⟩)⟩
  · refine ww_aload_n dX6_found_7 rfl rfl ?_
    refine ww_iload_n dX6_found_8 rfl rfl ?_
    refine ww_pfI tyX6 3 dX6_found_9 hA.1 rfl (by decide) inX6 tyX6_ok nmX6 wg_226 rfl rfl ?_
    refine ww_aload_n dX6_found_12 rfl rfl ?_
    refine ww_dup dX6_found_13 rfl ?_
    refine ww_get 2 dX6_found_14 hA.1 rfl (by decide) inX6 wg_224 (hp_F_nj (by decide) hA.2.2.2.2.2.1) ?_
    refine ww_iconst (v := nI 1) dX6_found_17 (by decide) ?_
    refine ww_iaddN dX6_found_18 ?_
    refine ww_pfI tyX6 2 dX6_found_19 hA.1 rfl (by decide) inX6 tyX6_ok nmX6 wg_224 rfl rfl ?_
    exact ww_vret dX6_found_22 rfl ⟨rfl, ⟨hA.1, hA.2.1, hA.2.2.1, hp_F_nj (by decide) (hp_F_nj (by decide) hA.2.2.2.1), hp_F_nj (by decide) (hp_F_nj (by decide) hA.2.2.2.2.1), hp_F_eq _ _ _ _, (by rw [show foF d s = (s.1 + 1, (if s.1 = 0 then d else s.2.1), s.2.2) from rfl, ftV_f (by omega)]; exact hp_F_nj (by decide) (hp_F_eq _ _ _ _)), hA.2.2.2.2.2.2.2.1, hA.2.2.2.2.2.2.2.2⟩, (Same.rf.sF (show mtY 39 3 from ⟨rfl, Or.inr rfl⟩)).sF (show mtY 39 2 from ⟨rfl, Or.inl rfl⟩)⟩
set_option maxHeartbeats 4000000 in
set_option maxRecDepth 100000 in
theorem c_Rw_both {l : Launch} {Z : EE} (hst : l.stackTraces = false) {h : PH} {fr : Nat → Nat} {s : MT} (hA : MtA h fr s) (a b : Nat) (ha : a ≤ 60) (hb : b ≤ 60) : CC l Z m_X6_holdBoth 0 0 0 [.ref 39, .int (nI a), .int (nI b)] h (RQ none (fun h9 => MtA h9 fr (s.1, s.2.1, hB2 s.2.2 a b) ∧ Same mtX mtY h h9)) := by
  refine ee_entry hst (by decide +kernel) rfl rfl (by simp [Value.category]) (Nat.le_of_ble_eq_true rfl) ?_
  refine ww_lv (lv2 := [.ref 39, .int (nI a), .int (nI b)]) rfl ?_
  refine ww_aload_n dX6_holdBoth_0 rfl rfl ?_
  refine ww_get 0 dX6_holdBoth_1 hA.1 rfl (by decide) inX6 wg_222 hA.2.2.2.1 ?_
  refine ww_iload_n dX6_holdBoth_4 rfl rfl ?_
  refine ww_dup2 dX6_holdBoth_5 rfl rfl ?_
  refine ww_ialdF dX6_holdBoth_6 hA.2.1 rfl (by omega) (by omega) ?_
  refine ww_iconst (v := nI 1) dX6_holdBoth_7 (by decide) ?_
  refine ww_iadd dX6_holdBoth_8 ?_
  refine ww_iastF dX6_holdBoth_9 hA.2.1 rfl (by omega) (by omega) ?_
  have hA1 : MtA (hp_sI h 40 (upd (hp_I h 40) a (((hp_I h 40) a) + (nI 1)))) fr (s.1, s.2.1, hld s.2.2 a) := hA.hold rfl (by omega)
  have hS1 : Same mtX mtY h (hp_sI h 40 (upd (hp_I h 40) a (((hp_I h 40) a) + (nI 1)))) := Same.rf.sI rfl
  generalize hp_sI h 40 (upd (hp_I h 40) a (((hp_I h 40) a) + (nI 1))) = hr at hA1 hS1 ⊢
  refine ww_iload_n dX6_holdBoth_10 rfl rfl ?_
  refine ww_iload_n dX6_holdBoth_11 rfl rfl ?_
  refine ww_icmp_eqN (tgt := 25) dX6_holdBoth_12 (by decide) (by omega) (by omega) (fun c12 => ?_) (fun c12 => ?_)
  · exact ww_vret dX6_holdBoth_25 rfl ⟨rfl, (by unfold hB2; rw [if_pos c12]; exact hA1), hS1⟩
  · refine ww_aload_n dX6_holdBoth_15 rfl rfl ?_
    refine ww_get 0 dX6_holdBoth_16 hA1.1 rfl (by decide) inX6 wg_222 hA1.2.2.2.1 ?_
    refine ww_iload_n dX6_holdBoth_19 rfl rfl ?_
    refine ww_dup2 dX6_holdBoth_20 rfl rfl ?_
    refine ww_ialdF dX6_holdBoth_21 hA1.2.1 rfl (by omega) (by omega) ?_
    refine ww_iconst (v := nI 1) dX6_holdBoth_22 (by decide) ?_
    refine ww_iadd dX6_holdBoth_23 ?_
    refine ww_iastF dX6_holdBoth_24 hA1.2.1 rfl (by omega) (by omega) ?_
    exact ww_vret dX6_holdBoth_25 rfl ⟨rfl, (by unfold hB2; rw [if_neg c12]; exact hA1.hold rfl (by omega)), hS1.sI rfl⟩
set_option maxHeartbeats 4000000 in
set_option maxRecDepth 100000 in
theorem l_Rw_tri {l : Launch} {Z : EE} (hst : l.stackTraces = false) {h : PH} {fr : Nat → Nat} (hfr : ∀ n, n ≤ 60 → fr n ≤ 99) (v : Nat) (hv : v ≤ 297) (a b A : Nat) (hab : a ≤ b) (hb : b ≤ 60) (h1 : A ≤ v) (h2 : v - A ≤ 99) : ∀ (j n : Nat) (s : MT) (hq : PH), n + j = 61 → b ≤ n → MtA hq fr s → MtG s → s.1 + j ≤ 1000000 → Same mtX mtY h hq → WW l Z m_X6_gatherTriples 2 0 0 14 [.ref 39, .int (nI a), .int (nI b), .int (nI (v - A)), .int (nI n)] [] hq (RQ none (fun h9 => MtA h9 fr (lp (fun c s => if A + fr c = v then lf3 a b c s else s) n j s) ∧ Same mtX mtY h h9)) := by
  intro j
  induction j with
  | zero =>
    intro n s hq hj hbn hA hg hs hS
    have hb9 : n = 61 := by omega
    subst hb9
    refine ww_iload dX6_gatherTriples_14 rfl ?_
    refine ww_bipush (v := nI 60) dX6_gatherTriples_16 (by decide) ?_
    refine ww_icmp_gtN (tgt := 78) dX6_gatherTriples_18 (by decide) (by omega) (by omega) (fun c18 => ?_) (fun c18 => ?_)
    · exact ww_vret dX6_gatherTriples_78 rfl ⟨rfl, hA, hS⟩
    · exfalso; omega
  | succ j ih =>
    intro n s hq hj hbn hA hg hs hS
    have hfn := hfr n (by omega)
    refine ww_iload dX6_gatherTriples_14 rfl ?_
    refine ww_bipush (v := nI 60) dX6_gatherTriples_16 (by decide) ?_
    refine ww_icmp_gtN (tgt := 78) dX6_gatherTriples_18 (by decide) (by omega) (by omega) (fun c18 => ?_) (fun c18 => ?_)
    · exfalso; omega
    · refine ww_aload_n dX6_gatherTriples_21 rfl rfl ?_
      refine ww_get 1 dX6_gatherTriples_22 hA.1 rfl (by decide) inX6 wg_223 hA.2.2.2.2.1 ?_
      refine ww_iload dX6_gatherTriples_25 rfl ?_
      refine ww_ialdF dX6_gatherTriples_27 hA.2.2.1 rfl (by omega) (by omega) ?_
      refine ww_sk (st2 := [.int (nI (fr n))]) (by rw [hA.2.2.2.2.2.2.2.2 n (by omega)]) ?_
      refine ww_iload_n dX6_gatherTriples_28 rfl rfl ?_
      refine ww_icmp_neN (tgt := 72) dX6_gatherTriples_29 (by decide) (by omega) (by omega) (fun c29 => ?_) (fun c29 => ?_)
      · refine ww_incN (c := 1) (lv2 := [.ref 39, .int (nI a), .int (nI b), .int (nI (v - A)), .int (nI (n + 1))]) dX6_gatherTriples_72 rfl rfl rfl (by decide) rfl ?_
        refine ww_goto (tgt := 14) dX6_gatherTriples_75 (by decide) ?_
        rw [show lp (fun c s => if A + fr c = v then lf3 a b c s else s) n (j + 1) s = lp (fun c s => if A + fr c = v then lf3 a b c s else s) (n + 1) j s from by show lp _ (n + 1) j (if A + fr n = v then _ else _) = _; rw [if_neg (by omega)]]
        exact ih (n + 1) s hq (by omega) (by omega) hA hg (by omega) hS
      · refine ww_aload_n dX6_gatherTriples_32 rfl rfl ?_
        refine ww_sipush (v := nI 10000) dX6_gatherTriples_33 (by decide) ?_
        refine ww_iload_n dX6_gatherTriples_36 rfl rfl ?_
        refine ww_imulN dX6_gatherTriples_37 ?_
        refine ww_bipush (v := nI 100) dX6_gatherTriples_38 (by decide) ?_
        refine ww_iload_n dX6_gatherTriples_40 rfl rfl ?_
        refine ww_imulN dX6_gatherTriples_41 ?_
        refine ww_iaddN dX6_gatherTriples_42 ?_
        refine ww_iload dX6_gatherTriples_43 rfl ?_
        refine ww_iaddN dX6_gatherTriples_45 ?_
        refine ww_cVq0 (M := m_X6_gatherTriples) (pc := 46) (st := []) (d := 2) (bc := 0) (bs := 0) (c_Rw_found hst hA (by omega) (((10000 * a) + (100 * b)) + n)) vv_X6_found dX6_gatherTriples_46 wg_1050 hA.1 rfl rfl rfl rfl (Nat.le_of_ble_eq_true rfl) (Nat.le_of_ble_eq_true rfl) (Nat.le_of_ble_eq_true rfl) (Nat.le_of_ble_eq_true rfl) (fun hr1 q1 => ?_)
        refine ww_aload_n dX6_gatherTriples_49 rfl rfl ?_
        refine ww_iload_n dX6_gatherTriples_50 rfl rfl ?_
        refine ww_iload_n dX6_gatherTriples_51 rfl rfl ?_
        refine ww_cVq0 (M := m_X6_gatherTriples) (pc := 52) (st := []) (d := 2) (bc := 0) (bs := 0) (c_Rw_both hst q1.1 a b (by omega) (by omega)) vv_X6_holdBoth dX6_gatherTriples_52 wg_1054 q1.1.1 rfl rfl rfl rfl (Nat.le_of_ble_eq_true rfl) (Nat.le_of_ble_eq_true rfl) (Nat.le_of_ble_eq_true rfl) (Nat.le_of_ble_eq_true rfl) (fun hr2 q2 => ?_)
        refine ww_iload dX6_gatherTriples_55 rfl ?_
        refine ww_iload_n dX6_gatherTriples_57 rfl rfl ?_
        refine ww_icmp_eqN (tgt := 72) dX6_gatherTriples_58 (by decide) (by omega) (by omega) (fun c58 => ?_) (fun c58 => ?_)
        · refine ww_incN (c := 1) (lv2 := [.ref 39, .int (nI a), .int (nI b), .int (nI (v - A)), .int (nI (n + 1))]) dX6_gatherTriples_72 rfl rfl rfl (by decide) rfl ?_
          refine ww_goto (tgt := 14) dX6_gatherTriples_75 (by decide) ?_
          have e3 : lf3 a b n s = (s.1 + 1, (if s.1 = 0 then 10000 * a + 100 * b + n else s.2.1), hB2 s.2.2 a b) := by unfold lf3 hB3; rw [if_pos c58]
          rw [show lp (fun c s => if A + fr c = v then lf3 a b c s else s) n (j + 1) s = lp (fun c s => if A + fr c = v then lf3 a b c s else s) (n + 1) j (lf3 a b n s) from by show lp _ (n + 1) j (if A + fr n = v then _ else _) = _; rw [if_pos (by omega)]]
          refine ih (n + 1) (lf3 a b n s) _ (by omega) (by omega) ?_ (lf3_g hab hbn (by omega) hg) (by show s.1 + 1 + j ≤ _; omega) ((hS.tr q1.2).tr q2.2)
          rw [e3]
          exact q2.1
        · refine ww_aload_n dX6_gatherTriples_61 rfl rfl ?_
          refine ww_get 0 dX6_gatherTriples_62 q2.1.1 rfl (by decide) inX6 wg_222 q2.1.2.2.2.1 ?_
          refine ww_iload dX6_gatherTriples_65 rfl ?_
          refine ww_dup2 dX6_gatherTriples_67 rfl rfl ?_
          refine ww_ialdF dX6_gatherTriples_68 q2.1.2.1 rfl (by omega) (by omega) ?_
          refine ww_iconst (v := nI 1) dX6_gatherTriples_69 (by decide) ?_
          refine ww_iadd dX6_gatherTriples_70 ?_
          refine ww_iastF dX6_gatherTriples_71 q2.1.2.1 rfl (by omega) (by omega) ?_
          refine ww_incN (c := 1) (lv2 := [.ref 39, .int (nI a), .int (nI b), .int (nI (v - A)), .int (nI (n + 1))]) dX6_gatherTriples_72 rfl rfl rfl (by decide) rfl ?_
          refine ww_goto (tgt := 14) dX6_gatherTriples_75 (by decide) ?_
          have e3 : lf3 a b n s = (s.1 + 1, (if s.1 = 0 then 10000 * a + 100 * b + n else s.2.1), hld (hB2 s.2.2 a b) n) := by unfold lf3 hB3; rw [if_neg c58]
          rw [show lp (fun c s => if A + fr c = v then lf3 a b c s else s) n (j + 1) s = lp (fun c s => if A + fr c = v then lf3 a b c s else s) (n + 1) j (lf3 a b n s) from by show lp _ (n + 1) j (if A + fr n = v then _ else _) = _; rw [if_pos (by omega)]]
          refine ih (n + 1) (lf3 a b n s) _ (by omega) (by omega) ?_ (lf3_g hab hbn (by omega) hg) (by show s.1 + 1 + j ≤ _; omega) (((hS.tr q1.2).tr q2.2).sI rfl)
          rw [e3]
          exact q2.1.hold rfl (by omega)
set_option maxHeartbeats 4000000 in
set_option maxRecDepth 100000 in
theorem c_Rw_tri_n {l : Launch} {Z : EE} (hst : l.stackTraces = false) {h : PH} {fr : Nat → Nat} {s : MT} (hA : MtA h fr s) (hfr : ∀ n, n ≤ 60 → fr n ≤ 99) (v a b A : Nat) (hb : b ≤ 60) (h1 : v < A) (hA9 : A ≤ 1000) : CC l Z m_X6_gatherTriples 2 0 0 [.ref 39, .int (nI a), .int (nI b), .int (nI v - nI A)] h (RQ none (fun h9 => MtA h9 fr (T3 fr v A a b s) ∧ Same mtX mtY h h9)) := by
  refine ee_entry hst (by decide +kernel) rfl rfl (by simp [Value.category]) (Nat.le_of_ble_eq_true rfl) ?_
  refine ww_lv (lv2 := [.ref 39, .int (nI a), .int (nI b), .int (nI v - nI A), UU]) rfl ?_
  refine ww_iload_n dX6_gatherTriples_0 rfl rfl ?_
  refine ww_if_lt (tgt := 10) dX6_gatherTriples_1 (by decide) (fun c1 => ?_) (fun c1 => ?_)
  · exact ww_vret dX6_gatherTriples_10 rfl ⟨rfl, (by rw [T3_id (fun c _ => by omega) hb]; exact hA), Same.rf⟩
  · exact absurd (sub_neg h1 hA9) c1
set_option maxHeartbeats 4000000 in
set_option maxRecDepth 100000 in
theorem c_Rw_tri_p {l : Launch} {Z : EE} (hst : l.stackTraces = false) {h : PH} {fr : Nat → Nat} {s : MT} (hA : MtA h fr s) (hfr : ∀ n, n ≤ 60 → fr n ≤ 99) (hg : MtG s) (hs : s.1 + 61 ≤ 1000000) (v : Nat) (hv : v ≤ 297) (a b A : Nat) (hab : a ≤ b) (hb : b ≤ 60) (h1 : A ≤ v) : CC l Z m_X6_gatherTriples 2 0 0 [.ref 39, .int (nI a), .int (nI b), .int (nI v - nI A)] h (RQ none (fun h9 => MtA h9 fr (T3 fr v A a b s) ∧ Same mtX mtY h h9)) := by
  refine ee_entry hst (by decide +kernel) rfl rfl (by simp [Value.category]) (Nat.le_of_ble_eq_true rfl) ?_
  refine ww_lv (lv2 := [.ref 39, .int (nI a), .int (nI b), .int (nI v - nI A), UU]) rfl ?_
  refine ww_lv (lv2 := [.ref 39, .int (nI a), .int (nI b), .int (nI (v - A)), UU]) (by rw [pk_sub h1]) ?_
  refine ww_iload_n dX6_gatherTriples_0 rfl rfl ?_
  refine ww_if_ltN (tgt := 10) dX6_gatherTriples_1 (by decide) (by omega) ?_
  refine ww_iload_n dX6_gatherTriples_4 rfl rfl ?_
  refine ww_bipush (v := nI 99) dX6_gatherTriples_5 (by decide) ?_
  refine ww_icmp_leN (tgt := 11) dX6_gatherTriples_7 (by decide) (by omega) (by omega) (fun c7 => ?_) (fun c7 => ?_)
  · refine ww_iload_n dX6_gatherTriples_11 rfl rfl ?_
    refine ww_sti (lv2 := [.ref 39, .int (nI a), .int (nI b), .int (nI (v - A)), .int (nI b)]) dX6_gatherTriples_12 rfl (by decide) rfl ?_
    exact l_Rw_tri hst hfr v hv a b A hab hb h1 (by omega) (61 - b) b s h (by omega) (Nat.le_refl _) hA hg (by omega) Same.rf
  · exact ww_vret dX6_gatherTriples_10 rfl ⟨rfl, (by rw [T3_id (fun c hc => by have := hfr c hc; omega) hb]; exact hA), Same.rf⟩
theorem c_Rw_tri {l : Launch} {Z : EE} (hst : l.stackTraces = false) {h : PH} {fr : Nat → Nat} {s : MT} (hA : MtA h fr s) (hfr : ∀ n, n ≤ 60 → fr n ≤ 99) (hg : MtG s) (hs : s.1 + 61 ≤ 1000000) (v : Nat) (hv : v ≤ 297) (a b A : Nat) (hab : a ≤ b) (hb : b ≤ 60) (hA9 : A ≤ 1000) : CC l Z m_X6_gatherTriples 2 0 0 [.ref 39, .int (nI a), .int (nI b), .int (nI v - nI A)] h (RQ none (fun h9 => MtA h9 fr (T3 fr v A a b s) ∧ Same mtX mtY h h9)) := by
  rcases Nat.lt_or_ge v A with c | c
  · exact c_Rw_tri_n hst hA hfr v a b A hb c hA9
  · exact c_Rw_tri_p hst hA hfr hg hs v hv a b A hab hb c
set_option maxHeartbeats 4000000 in
set_option maxRecDepth 100000 in
theorem l_Rw_pair2 {l : Launch} {Z : EE} (hst : l.stackTraces = false) {h : PH} {fr : Nat → Nat} (hfr : ∀ n, n ≤ 60 → fr n ≤ 99) (v : Nat) (hv : v ≤ 297) (a A : Nat) (ha : a ≤ 60) (hA9 : A ≤ 99) : ∀ (j n : Nat) (s : MT) (hq : PH), n + j = 61 → a ≤ n → MtA hq fr s → MtG s → s.1 + j ≤ 1000000 → Same mtX mtY h hq → WW l Z m_X6_gatherPairs 3 0 0 3 [.ref 39, .int (nI a), .int (nI v - nI A), .int (nI 2), .int (nI n), UU] [] hq (RQ none (fun h9 => MtA h9 fr (lp (fun b s => if A + fr b = v then lf2 a b s else s) n j s) ∧ Same mtX mtY h h9)) := by
  intro j
  induction j with
  | zero =>
    intro n s hq hj han hA hg hs hS
    have hb9 : n = 61 := by omega
    subst hb9
    refine ww_iload dX6_gatherPairs_3 rfl ?_
    refine ww_bipush (v := nI 60) dX6_gatherPairs_5 (by decide) ?_
    refine ww_icmp_gtN (tgt := 67) dX6_gatherPairs_7 (by decide) (by omega) (by omega) (fun c7 => ?_) (fun c7 => ?_)
    · exact ww_vret dX6_gatherPairs_67 rfl ⟨rfl, hA, hS⟩
    · exfalso; omega
  | succ j ih =>
    intro n s hq hj han hA hg hs hS
    have hfn := hfr n (by omega)
    refine ww_iload dX6_gatherPairs_3 rfl ?_
    refine ww_bipush (v := nI 60) dX6_gatherPairs_5 (by decide) ?_
    refine ww_icmp_gtN (tgt := 67) dX6_gatherPairs_7 (by decide) (by omega) (by omega) (fun c7 => ?_) (fun c7 => ?_)
    · exfalso; omega
    · refine ww_iload_n dX6_gatherPairs_10 rfl rfl ?_
      refine ww_aload_n dX6_gatherPairs_11 rfl rfl ?_
      refine ww_get 1 dX6_gatherPairs_12 hA.1 rfl (by decide) inX6 wg_223 hA.2.2.2.2.1 ?_
      refine ww_iload dX6_gatherPairs_15 rfl ?_
      refine ww_ialdF dX6_gatherPairs_17 hA.2.2.1 rfl (by omega) (by omega) ?_
      refine ww_sk (st2 := [.int (nI (fr n)), .int (nI v - nI A)]) (by rw [hA.2.2.2.2.2.2.2.2 n (by omega)]) ?_
      refine ww_isub dX6_gatherPairs_18 ?_
      refine ww_sk (st2 := [.int (nI v - nI (A + fr n))]) (by rw [sub_sub]) ?_
      refine ww_sti (lv2 := [.ref 39, .int (nI a), .int (nI v - nI A), .int (nI 2), .int (nI n), .int (nI v - nI (A + fr n))]) dX6_gatherPairs_19 rfl (by decide) rfl ?_
      refine ww_iload_n dX6_gatherPairs_21 rfl rfl ?_
      refine ww_iconst (v := nI 2) dX6_gatherPairs_22 (by decide) ?_
      refine ww_icmp_leN (tgt := 38) dX6_gatherPairs_23 (by decide) (by omega) (by omega) (fun c23 => ?_) (fun c23 => ?_)
      · refine ww_iload dX6_gatherPairs_38 rfl ?_
        refine ww_if_ne (tgt := 61) dX6_gatherPairs_40 (by decide) (fun c40 => ?_) (fun c40 => ?_)
        · refine ww_incN (c := 1) (lv2 := [.ref 39, .int (nI a), .int (nI v - nI A), .int (nI 2), .int (nI (n + 1)), .int (nI v - nI (A + fr n))]) dX6_gatherPairs_61 rfl rfl rfl (by decide) rfl ?_
          refine ww_goto (tgt := 3) dX6_gatherPairs_64 (by decide) ?_
          refine ww_fg (lv2 := [.ref 39, .int (nI a), .int (nI v - nI A), .int (nI 2), .int (nI (n + 1)), UU]) ⟨Or.inr rfl, Or.inr rfl, Or.inr rfl, Or.inr rfl, Or.inr rfl, Or.inl rfl, trivial⟩ ?_
          have c9 : ¬ A + fr n = v := fun e => c40 ((sub_0 (by omega) (by omega)).mpr e)
          rw [show lp (fun b s => if A + fr b = v then lf2 a b s else s) n (j + 1) s = lp (fun b s => if A + fr b = v then lf2 a b s else s) (n + 1) j s from by show lp _ (n + 1) j (if A + fr n = v then _ else _) = _; rw [if_neg c9]]
          exact ih (n + 1) s hq (by omega) (by omega) hA hg (by omega) hS
        · refine ww_aload_n dX6_gatherPairs_43 rfl rfl ?_
          refine ww_bipush (v := nI 100) dX6_gatherPairs_44 (by decide) ?_
          refine ww_iload_n dX6_gatherPairs_46 rfl rfl ?_
          refine ww_imulN dX6_gatherPairs_47 ?_
          refine ww_iload dX6_gatherPairs_48 rfl ?_
          refine ww_iaddN dX6_gatherPairs_50 ?_
          refine ww_cVq0 (M := m_X6_gatherPairs) (pc := 51) (st := []) (d := 3) (bc := 0) (bs := 0) (c_Rw_found hst hA (by omega) ((100 * a) + n)) vv_X6_found dX6_gatherPairs_51 wg_1050 hA.1 rfl rfl rfl rfl (Nat.le_of_ble_eq_true rfl) (Nat.le_of_ble_eq_true rfl) (Nat.le_of_ble_eq_true rfl) (Nat.le_of_ble_eq_true rfl) (fun hr1 q1 => ?_)
          refine ww_aload_n dX6_gatherPairs_54 rfl rfl ?_
          refine ww_iload_n dX6_gatherPairs_55 rfl rfl ?_
          refine ww_iload dX6_gatherPairs_56 rfl ?_
          refine ww_cVq0 (M := m_X6_gatherPairs) (pc := 58) (st := []) (d := 3) (bc := 0) (bs := 0) (c_Rw_both hst q1.1 a n (by omega) (by omega)) vv_X6_holdBoth dX6_gatherPairs_58 wg_1054 q1.1.1 rfl rfl rfl rfl (Nat.le_of_ble_eq_true rfl) (Nat.le_of_ble_eq_true rfl) (Nat.le_of_ble_eq_true rfl) (Nat.le_of_ble_eq_true rfl) (fun hr2 q2 => ?_)
          refine ww_incN (c := 1) (lv2 := [.ref 39, .int (nI a), .int (nI v - nI A), .int (nI 2), .int (nI (n + 1)), .int (nI v - nI (A + fr n))]) dX6_gatherPairs_61 rfl rfl rfl (by decide) rfl ?_
          refine ww_goto (tgt := 3) dX6_gatherPairs_64 (by decide) ?_
          refine ww_fg (lv2 := [.ref 39, .int (nI a), .int (nI v - nI A), .int (nI 2), .int (nI (n + 1)), UU]) ⟨Or.inr rfl, Or.inr rfl, Or.inr rfl, Or.inr rfl, Or.inr rfl, Or.inl rfl, trivial⟩ ?_
          have c9 : A + fr n = v := (sub_0 (by omega) (by omega)).mp c40
          rw [show lp (fun b s => if A + fr b = v then lf2 a b s else s) n (j + 1) s = lp (fun b s => if A + fr b = v then lf2 a b s else s) (n + 1) j (lf2 a n s) from by show lp _ (n + 1) j (if A + fr n = v then _ else _) = _; rw [if_pos c9]]
          exact ih (n + 1) (lf2 a n s) hr2 (by omega) (by omega) q2.1 (lf2_g ha (by omega) hg) (by show s.1 + 1 + _ ≤ _; omega) ((hS.tr q1.2).tr q2.2)
      · exact absurd c23 (by decide)
set_option maxHeartbeats 4000000 in
set_option maxRecDepth 100000 in
theorem c_Rw_pair2 {l : Launch} {Z : EE} (hst : l.stackTraces = false) {h : PH} {fr : Nat → Nat} {s : MT} (hA : MtA h fr s) (hfr : ∀ n, n ≤ 60 → fr n ≤ 99) (hg : MtG s) (hs : s.1 + 3721 ≤ 1000000) (v : Nat) (hv : v ≤ 297) (a A : Nat) (ha : a ≤ 60) (hA9 : A ≤ 99) : CC l Z m_X6_gatherPairs 3 0 0 [.ref 39, .int (nI a), .int (nI v - nI A), .int (nI 2)] h (RQ none (fun h9 => MtA h9 fr (P2 fr v A a s) ∧ Same mtX mtY h h9)) := by
  refine ee_entry hst (by decide +kernel) rfl rfl (by simp [Value.category]) (Nat.le_of_ble_eq_true rfl) ?_
  refine ww_lv (lv2 := [.ref 39, .int (nI a), .int (nI v - nI A), .int (nI 2), UU, UU]) rfl ?_
  refine ww_iload_n dX6_gatherPairs_0 rfl rfl ?_
  refine ww_sti (lv2 := [.ref 39, .int (nI a), .int (nI v - nI A), .int (nI 2), .int (nI a), UU]) dX6_gatherPairs_1 rfl (by decide) rfl ?_
  exact l_Rw_pair2 hst hfr v hv a A ha hA9 (61 - a) a s h (by omega) (Nat.le_refl _) hA hg (by omega) Same.rf
set_option maxHeartbeats 4000000 in
set_option maxRecDepth 100000 in
theorem l_Rw_pair3 {l : Launch} {Z : EE} (hst : l.stackTraces = false) {h : PH} {fr : Nat → Nat} (hfr : ∀ n, n ≤ 60 → fr n ≤ 99) (v : Nat) (hv : v ≤ 297) (a A : Nat) (ha : a ≤ 60) (hA9 : A ≤ 99) : ∀ (j n : Nat) (s : MT) (hq : PH), n + j = 61 → a ≤ n → MtA hq fr s → MtG s → s.1 + 61 * j ≤ 1000000 → Same mtX mtY h hq → WW l Z m_X6_gatherPairs 3 0 0 3 [.ref 39, .int (nI a), .int (nI v - nI A), .int (nI 3), .int (nI n), UU] [] hq (RQ none (fun h9 => MtA h9 fr (lp (fun b s => T3 fr v (A + fr b) a b s) n j s) ∧ Same mtX mtY h h9)) := by
  intro j
  induction j with
  | zero =>
    intro n s hq hj han hA hg hs hS
    have hb9 : n = 61 := by omega
    subst hb9
    refine ww_iload dX6_gatherPairs_3 rfl ?_
    refine ww_bipush (v := nI 60) dX6_gatherPairs_5 (by decide) ?_
    refine ww_icmp_gtN (tgt := 67) dX6_gatherPairs_7 (by decide) (by omega) (by omega) (fun c7 => ?_) (fun c7 => ?_)
    · exact ww_vret dX6_gatherPairs_67 rfl ⟨rfl, hA, hS⟩
    · exfalso; omega
  | succ j ih =>
    intro n s hq hj han hA hg hs hS
    have hfn := hfr n (by omega)
    refine ww_iload dX6_gatherPairs_3 rfl ?_
    refine ww_bipush (v := nI 60) dX6_gatherPairs_5 (by decide) ?_
    refine ww_icmp_gtN (tgt := 67) dX6_gatherPairs_7 (by decide) (by omega) (by omega) (fun c7 => ?_) (fun c7 => ?_)
    · exfalso; omega
    · refine ww_iload_n dX6_gatherPairs_10 rfl rfl ?_
      refine ww_aload_n dX6_gatherPairs_11 rfl rfl ?_
      refine ww_get 1 dX6_gatherPairs_12 hA.1 rfl (by decide) inX6 wg_223 hA.2.2.2.2.1 ?_
      refine ww_iload dX6_gatherPairs_15 rfl ?_
      refine ww_ialdF dX6_gatherPairs_17 hA.2.2.1 rfl (by omega) (by omega) ?_
      refine ww_sk (st2 := [.int (nI (fr n)), .int (nI v - nI A)]) (by rw [hA.2.2.2.2.2.2.2.2 n (by omega)]) ?_
      refine ww_isub dX6_gatherPairs_18 ?_
      refine ww_sk (st2 := [.int (nI v - nI (A + fr n))]) (by rw [sub_sub]) ?_
      refine ww_sti (lv2 := [.ref 39, .int (nI a), .int (nI v - nI A), .int (nI 3), .int (nI n), .int (nI v - nI (A + fr n))]) dX6_gatherPairs_19 rfl (by decide) rfl ?_
      refine ww_iload_n dX6_gatherPairs_21 rfl rfl ?_
      refine ww_iconst (v := nI 2) dX6_gatherPairs_22 (by decide) ?_
      refine ww_icmp_leN (tgt := 38) dX6_gatherPairs_23 (by decide) (by omega) (by omega) (fun c23 => ?_) (fun c23 => ?_)
      · exact absurd c23 (by decide)
      · refine ww_aload_n dX6_gatherPairs_26 rfl rfl ?_
        refine ww_iload_n dX6_gatherPairs_27 rfl rfl ?_
        refine ww_iload dX6_gatherPairs_28 rfl ?_
        refine ww_iload dX6_gatherPairs_30 rfl ?_
        refine ww_cVq0 (M := m_X6_gatherPairs) (pc := 32) (st := []) (d := 3) (bc := 0) (bs := 0) (c_Rw_tri hst hA hfr hg (by omega) v hv a n (A + fr n) han (by omega) (by omega)) vv_X6_gatherTriples dX6_gatherPairs_32 wg_1046 hA.1 rfl rfl rfl rfl (Nat.le_of_ble_eq_true rfl) (Nat.le_of_ble_eq_true rfl) (Nat.le_of_ble_eq_true rfl) (Nat.le_of_ble_eq_true rfl) (fun hr1 q1 => ?_)
        refine ww_goto (tgt := 61) dX6_gatherPairs_35 (by decide) ?_
        refine ww_incN (c := 1) (lv2 := [.ref 39, .int (nI a), .int (nI v - nI A), .int (nI 3), .int (nI (n + 1)), .int (nI v - nI (A + fr n))]) dX6_gatherPairs_61 rfl rfl rfl (by decide) rfl ?_
        refine ww_goto (tgt := 3) dX6_gatherPairs_64 (by decide) ?_
        refine ww_fg (lv2 := [.ref 39, .int (nI a), .int (nI v - nI A), .int (nI 3), .int (nI (n + 1)), UU]) ⟨Or.inr rfl, Or.inr rfl, Or.inr rfl, Or.inr rfl, Or.inr rfl, Or.inl rfl, trivial⟩ ?_
        have t9 := T3_g (fr := fr) (v := v) (A := A + fr n) han (show n ≤ 60 by omega) hg
        exact ih (n + 1) (T3 fr v (A + fr n) a n s) hr1 (by omega) (by omega) q1.1 t9.1 (by omega) (hS.tr q1.2)
set_option maxHeartbeats 4000000 in
set_option maxRecDepth 100000 in
theorem c_Rw_pair3 {l : Launch} {Z : EE} (hst : l.stackTraces = false) {h : PH} {fr : Nat → Nat} {s : MT} (hA : MtA h fr s) (hfr : ∀ n, n ≤ 60 → fr n ≤ 99) (hg : MtG s) (hs : s.1 + 3721 ≤ 1000000) (v : Nat) (hv : v ≤ 297) (a A : Nat) (ha : a ≤ 60) (hA9 : A ≤ 99) : CC l Z m_X6_gatherPairs 3 0 0 [.ref 39, .int (nI a), .int (nI v - nI A), .int (nI 3)] h (RQ none (fun h9 => MtA h9 fr (P3 fr v A a s) ∧ Same mtX mtY h h9)) := by
  refine ee_entry hst (by decide +kernel) rfl rfl (by simp [Value.category]) (Nat.le_of_ble_eq_true rfl) ?_
  refine ww_lv (lv2 := [.ref 39, .int (nI a), .int (nI v - nI A), .int (nI 3), UU, UU]) rfl ?_
  refine ww_iload_n dX6_gatherPairs_0 rfl rfl ?_
  refine ww_sti (lv2 := [.ref 39, .int (nI a), .int (nI v - nI A), .int (nI 3), .int (nI a), UU]) dX6_gatherPairs_1 rfl (by decide) rfl ?_
  exact l_Rw_pair3 hst hfr v hv a A ha hA9 (61 - a) a s h (by omega) (Nat.le_refl _) hA hg (by omega) Same.rf
def mtZ : Nat → Nat → Prop := fun a j => a = 39 ∧ (j = 1 ∨ j = 2 ∨ j = 3)
set_option maxHeartbeats 4000000 in
set_option maxRecDepth 100000 in
theorem l_Rw_ga1 {l : Launch} {Z : EE} (hst : l.stackTraces = false) {h : PH} {fr : Nat → Nat} (hfr : ∀ n, n ≤ 60 → fr n ≤ 99) (v : Nat) (hv : v ≤ 297) : ∀ (j n : Nat) (s : MT) (hq : PH), n + j = 61 → MtA hq fr s → MtG s → s.1 + 3721 * j ≤ 1000000 → Same mtX mtZ h hq → WW l Z m_X6_gather 4 0 0 53 [.ref 39, .ref 29, .int (nI v), .int (nI 1), .int (nI n), UU] [] hq (RQ none (fun h9 => MtA h9 fr (lp (fun a s => if fr a = v then lf1 a s else s) n j s) ∧ Same mtX mtZ h h9)) := by
  intro j
  induction j with
  | zero =>
    intro n s hq hj hA hg hs hS
    have hb9 : n = 61 := by omega
    subst hb9
    refine ww_iload dX6_gather_53 rfl ?_
    refine ww_bipush (v := nI 60) dX6_gather_55 (by decide) ?_
    refine ww_icmp_gtN (tgt := 116) dX6_gather_57 (by decide) (by omega) (by omega) (fun c57 => ?_) (fun c57 => ?_)
    · exact ww_vret dX6_gather_116 rfl ⟨rfl, hA, hS⟩
    · exfalso; omega
  | succ j ih =>
    intro n s hq hj hA hg hs hS
    have hfn := hfr n (by omega)
    refine ww_iload dX6_gather_53 rfl ?_
    refine ww_bipush (v := nI 60) dX6_gather_55 (by decide) ?_
    refine ww_icmp_gtN (tgt := 116) dX6_gather_57 (by decide) (by omega) (by omega) (fun c57 => ?_) (fun c57 => ?_)
    · exfalso; omega
    · refine ww_iload_n dX6_gather_60 rfl rfl ?_
      refine ww_aload_n dX6_gather_61 rfl rfl ?_
      refine ww_get 1 dX6_gather_62 hA.1 rfl (by decide) inX6 wg_223 hA.2.2.2.2.1 ?_
      refine ww_iload dX6_gather_65 rfl ?_
      refine ww_ialdF dX6_gather_67 hA.2.2.1 rfl (by omega) (by omega) ?_
      refine ww_sk (st2 := [.int (nI (fr n)), .int (nI v)]) (by rw [hA.2.2.2.2.2.2.2.2 n (by omega)]) ?_
      refine ww_isub dX6_gather_68 ?_
      refine ww_sti (lv2 := [.ref 39, .ref 29, .int (nI v), .int (nI 1), .int (nI n), .int ((nI v) - (nI (fr n)))]) dX6_gather_69 rfl (by decide) rfl ?_
      refine ww_iload_n dX6_gather_71 rfl rfl ?_
      refine ww_iconst (v := nI 1) dX6_gather_72 (by decide) ?_
      refine ww_icmp_leN (tgt := 88) dX6_gather_73 (by decide) (by omega) (by omega) (fun c73 => ?_) (fun c73 => ?_)
      · refine ww_iload dX6_gather_88 rfl ?_
        refine ww_if_ne (tgt := 110) dX6_gather_90 (by decide) (fun c90 => ?_) (fun c90 => ?_)
        · refine ww_incN (c := 1) (lv2 := [.ref 39, .ref 29, .int (nI v), .int (nI 1), .int (nI (n + 1)), .int ((nI v) - (nI (fr n)))]) dX6_gather_110 rfl rfl rfl (by decide) rfl ?_
          refine ww_goto (tgt := 53) dX6_gather_113 (by decide) ?_
          refine ww_fg (lv2 := [.ref 39, .ref 29, .int (nI v), .int (nI 1), .int (nI (n + 1)), UU]) ⟨Or.inr rfl, Or.inr rfl, Or.inr rfl, Or.inr rfl, Or.inr rfl, Or.inl rfl, trivial⟩ ?_
          have c9 : ¬ fr n = v := fun e => c90 ((sub_0 (by omega) (by omega)).mpr e)
          rw [show lp (fun a s => if fr a = v then lf1 a s else s) n (j + 1) s = lp (fun a s => if fr a = v then lf1 a s else s) (n + 1) j s from by show lp _ (n + 1) j (if fr n = v then _ else _) = _; rw [if_neg c9]]
          exact ih (n + 1) s hq (by omega) hA hg (by omega) hS
        · refine ww_aload_n dX6_gather_93 rfl rfl ?_
          refine ww_iload dX6_gather_94 rfl ?_
          refine ww_cVq0 (M := m_X6_gather) (pc := 96) (st := []) (d := 4) (bc := 0) (bs := 0) (c_Rw_found hst hA (by omega) n) vv_X6_found dX6_gather_96 wg_1050 hA.1 rfl rfl rfl rfl (Nat.le_of_ble_eq_true rfl) (Nat.le_of_ble_eq_true rfl) (Nat.le_of_ble_eq_true rfl) (Nat.le_of_ble_eq_true rfl) (fun hr1 q1 => ?_)
          refine ww_aload_n dX6_gather_99 rfl rfl ?_
          refine ww_get 0 dX6_gather_100 q1.1.1 rfl (by decide) inX6 wg_222 q1.1.2.2.2.1 ?_
          refine ww_iload dX6_gather_103 rfl ?_
          refine ww_dup2 dX6_gather_105 rfl rfl ?_
          refine ww_ialdF dX6_gather_106 q1.1.2.1 rfl (by omega) (by omega) ?_
          refine ww_iconst (v := nI 1) dX6_gather_107 (by decide) ?_
          refine ww_iadd dX6_gather_108 ?_
          refine ww_iastF dX6_gather_109 q1.1.2.1 rfl (by omega) (by omega) ?_
          refine ww_incN (c := 1) (lv2 := [.ref 39, .ref 29, .int (nI v), .int (nI 1), .int (nI (n + 1)), .int ((nI v) - (nI (fr n)))]) dX6_gather_110 rfl rfl rfl (by decide) rfl ?_
          refine ww_goto (tgt := 53) dX6_gather_113 (by decide) ?_
          refine ww_fg (lv2 := [.ref 39, .ref 29, .int (nI v), .int (nI 1), .int (nI (n + 1)), UU]) ⟨Or.inr rfl, Or.inr rfl, Or.inr rfl, Or.inr rfl, Or.inr rfl, Or.inl rfl, trivial⟩ ?_
          have c9 : fr n = v := (sub_0 (by omega) (by omega)).mp c90
          rw [show lp (fun a s => if fr a = v then lf1 a s else s) n (j + 1) s = lp (fun a s => if fr a = v then lf1 a s else s) (n + 1) j (lf1 n s) from by show lp _ (n + 1) j (if fr n = v then _ else _) = _; rw [if_pos c9]]
          exact ih (n + 1) (lf1 n s) _ (by omega) (q1.1.hold rfl (by omega)) (lf1_g (by omega) hg) (by show s.1 + 1 + _ ≤ _; omega) ((hS.tr (q1.2.mono (fun _ e => e) (fun c q e => ⟨e.1, Or.inr e.2⟩))).sI rfl)
      · exact absurd c73 (by decide)
set_option maxHeartbeats 4000000 in
set_option maxRecDepth 100000 in
theorem l_Rw_ga2 {l : Launch} {Z : EE} (hst : l.stackTraces = false) {h : PH} {fr : Nat → Nat} (hfr : ∀ n, n ≤ 60 → fr n ≤ 99) (v : Nat) (hv : v ≤ 297) : ∀ (j n : Nat) (s : MT) (hq : PH), n + j = 61 → MtA hq fr s → MtG s → s.1 + 3721 * j ≤ 1000000 → Same mtX mtZ h hq → WW l Z m_X6_gather 4 0 0 53 [.ref 39, .ref 29, .int (nI v), .int (nI 2), .int (nI n), UU] [] hq (RQ none (fun h9 => MtA h9 fr (lp (fun a s => P2 fr v (fr a) a s) n j s) ∧ Same mtX mtZ h h9)) := by
  intro j
  induction j with
  | zero =>
    intro n s hq hj hA hg hs hS
    have hb9 : n = 61 := by omega
    subst hb9
    refine ww_iload dX6_gather_53 rfl ?_
    refine ww_bipush (v := nI 60) dX6_gather_55 (by decide) ?_
    refine ww_icmp_gtN (tgt := 116) dX6_gather_57 (by decide) (by omega) (by omega) (fun c57 => ?_) (fun c57 => ?_)
    · exact ww_vret dX6_gather_116 rfl ⟨rfl, hA, hS⟩
    · exfalso; omega
  | succ j ih =>
    intro n s hq hj hA hg hs hS
    have hfn := hfr n (by omega)
    refine ww_iload dX6_gather_53 rfl ?_
    refine ww_bipush (v := nI 60) dX6_gather_55 (by decide) ?_
    refine ww_icmp_gtN (tgt := 116) dX6_gather_57 (by decide) (by omega) (by omega) (fun c57 => ?_) (fun c57 => ?_)
    · exfalso; omega
    · refine ww_iload_n dX6_gather_60 rfl rfl ?_
      refine ww_aload_n dX6_gather_61 rfl rfl ?_
      refine ww_get 1 dX6_gather_62 hA.1 rfl (by decide) inX6 wg_223 hA.2.2.2.2.1 ?_
      refine ww_iload dX6_gather_65 rfl ?_
      refine ww_ialdF dX6_gather_67 hA.2.2.1 rfl (by omega) (by omega) ?_
      refine ww_sk (st2 := [.int (nI (fr n)), .int (nI v)]) (by rw [hA.2.2.2.2.2.2.2.2 n (by omega)]) ?_
      refine ww_isub dX6_gather_68 ?_
      refine ww_sti (lv2 := [.ref 39, .ref 29, .int (nI v), .int (nI 2), .int (nI n), .int ((nI v) - (nI (fr n)))]) dX6_gather_69 rfl (by decide) rfl ?_
      refine ww_iload_n dX6_gather_71 rfl rfl ?_
      refine ww_iconst (v := nI 1) dX6_gather_72 (by decide) ?_
      refine ww_icmp_leN (tgt := 88) dX6_gather_73 (by decide) (by omega) (by omega) (fun c73 => ?_) (fun c73 => ?_)
      · exact absurd c73 (by decide)
      · refine ww_aload_n dX6_gather_76 rfl rfl ?_
        refine ww_iload dX6_gather_77 rfl ?_
        refine ww_iload dX6_gather_79 rfl ?_
        refine ww_iload_n dX6_gather_81 rfl rfl ?_
        refine ww_cVq0 (M := m_X6_gather) (pc := 82) (st := []) (d := 4) (bc := 0) (bs := 0) (c_Rw_pair2 hst hA hfr hg (by omega) v hv n (fr n) (by omega) hfn) vv_X6_gatherPairs dX6_gather_82 wg_1042 hA.1 rfl rfl rfl rfl (Nat.le_of_ble_eq_true rfl) (Nat.le_of_ble_eq_true rfl) (Nat.le_of_ble_eq_true rfl) (Nat.le_of_ble_eq_true rfl) (fun hr1 q1 => ?_)
        refine ww_goto (tgt := 110) dX6_gather_85 (by decide) ?_
        refine ww_incN (c := 1) (lv2 := [.ref 39, .ref 29, .int (nI v), .int (nI 2), .int (nI (n + 1)), .int ((nI v) - (nI (fr n)))]) dX6_gather_110 rfl rfl rfl (by decide) rfl ?_
        refine ww_goto (tgt := 53) dX6_gather_113 (by decide) ?_
        refine ww_fg (lv2 := [.ref 39, .ref 29, .int (nI v), .int (nI 2), .int (nI (n + 1)), UU]) ⟨Or.inr rfl, Or.inr rfl, Or.inr rfl, Or.inr rfl, Or.inr rfl, Or.inl rfl, trivial⟩ ?_
        have t9 := P2_g (fr := fr) (v := v) (A := fr n) (show n ≤ 60 by omega) hg
        exact ih (n + 1) (P2 fr v (fr n) n s) hr1 (by omega) q1.1 t9.1 (by omega) (hS.tr (q1.2.mono (fun _ e => e) (fun c q e => ⟨e.1, Or.inr e.2⟩)))
set_option maxHeartbeats 4000000 in
set_option maxRecDepth 100000 in
theorem l_Rw_ga3 {l : Launch} {Z : EE} (hst : l.stackTraces = false) {h : PH} {fr : Nat → Nat} (hfr : ∀ n, n ≤ 60 → fr n ≤ 99) (v : Nat) (hv : v ≤ 297) : ∀ (j n : Nat) (s : MT) (hq : PH), n + j = 61 → MtA hq fr s → MtG s → s.1 + 3721 * j ≤ 1000000 → Same mtX mtZ h hq → WW l Z m_X6_gather 4 0 0 53 [.ref 39, .ref 29, .int (nI v), .int (nI 3), .int (nI n), UU] [] hq (RQ none (fun h9 => MtA h9 fr (lp (fun a s => P3 fr v (fr a) a s) n j s) ∧ Same mtX mtZ h h9)) := by
  intro j
  induction j with
  | zero =>
    intro n s hq hj hA hg hs hS
    have hb9 : n = 61 := by omega
    subst hb9
    refine ww_iload dX6_gather_53 rfl ?_
    refine ww_bipush (v := nI 60) dX6_gather_55 (by decide) ?_
    refine ww_icmp_gtN (tgt := 116) dX6_gather_57 (by decide) (by omega) (by omega) (fun c57 => ?_) (fun c57 => ?_)
    · exact ww_vret dX6_gather_116 rfl ⟨rfl, hA, hS⟩
    · exfalso; omega
  | succ j ih =>
    intro n s hq hj hA hg hs hS
    have hfn := hfr n (by omega)
    refine ww_iload dX6_gather_53 rfl ?_
    refine ww_bipush (v := nI 60) dX6_gather_55 (by decide) ?_
    refine ww_icmp_gtN (tgt := 116) dX6_gather_57 (by decide) (by omega) (by omega) (fun c57 => ?_) (fun c57 => ?_)
    · exfalso; omega
    · refine ww_iload_n dX6_gather_60 rfl rfl ?_
      refine ww_aload_n dX6_gather_61 rfl rfl ?_
      refine ww_get 1 dX6_gather_62 hA.1 rfl (by decide) inX6 wg_223 hA.2.2.2.2.1 ?_
      refine ww_iload dX6_gather_65 rfl ?_
      refine ww_ialdF dX6_gather_67 hA.2.2.1 rfl (by omega) (by omega) ?_
      refine ww_sk (st2 := [.int (nI (fr n)), .int (nI v)]) (by rw [hA.2.2.2.2.2.2.2.2 n (by omega)]) ?_
      refine ww_isub dX6_gather_68 ?_
      refine ww_sti (lv2 := [.ref 39, .ref 29, .int (nI v), .int (nI 3), .int (nI n), .int ((nI v) - (nI (fr n)))]) dX6_gather_69 rfl (by decide) rfl ?_
      refine ww_iload_n dX6_gather_71 rfl rfl ?_
      refine ww_iconst (v := nI 1) dX6_gather_72 (by decide) ?_
      refine ww_icmp_leN (tgt := 88) dX6_gather_73 (by decide) (by omega) (by omega) (fun c73 => ?_) (fun c73 => ?_)
      · exact absurd c73 (by decide)
      · refine ww_aload_n dX6_gather_76 rfl rfl ?_
        refine ww_iload dX6_gather_77 rfl ?_
        refine ww_iload dX6_gather_79 rfl ?_
        refine ww_iload_n dX6_gather_81 rfl rfl ?_
        refine ww_cVq0 (M := m_X6_gather) (pc := 82) (st := []) (d := 4) (bc := 0) (bs := 0) (c_Rw_pair3 hst hA hfr hg (by omega) v hv n (fr n) (by omega) hfn) vv_X6_gatherPairs dX6_gather_82 wg_1042 hA.1 rfl rfl rfl rfl (Nat.le_of_ble_eq_true rfl) (Nat.le_of_ble_eq_true rfl) (Nat.le_of_ble_eq_true rfl) (Nat.le_of_ble_eq_true rfl) (fun hr1 q1 => ?_)
        refine ww_goto (tgt := 110) dX6_gather_85 (by decide) ?_
        refine ww_incN (c := 1) (lv2 := [.ref 39, .ref 29, .int (nI v), .int (nI 3), .int (nI (n + 1)), .int ((nI v) - (nI (fr n)))]) dX6_gather_110 rfl rfl rfl (by decide) rfl ?_
        refine ww_goto (tgt := 53) dX6_gather_113 (by decide) ?_
        refine ww_fg (lv2 := [.ref 39, .ref 29, .int (nI v), .int (nI 3), .int (nI (n + 1)), UU]) ⟨Or.inr rfl, Or.inr rfl, Or.inr rfl, Or.inr rfl, Or.inr rfl, Or.inl rfl, trivial⟩ ?_
        have t9 := P3_g (fr := fr) (v := v) (A := fr n) (show n ≤ 60 by omega) hg
        exact ih (n + 1) (P3 fr v (fr n) n s) hr1 (by omega) q1.1 t9.1 (by omega) (hS.tr (q1.2.mono (fun _ e => e) (fun c q e => ⟨e.1, Or.inr e.2⟩)))
set_option maxHeartbeats 4000000 in
set_option maxRecDepth 100000 in
theorem l_Rw_gi {l : Launch} {Z : EE} (hst : l.stackTraces = false) {h : PH} {fr : Nat → Nat} (hfr : ∀ n, n ≤ 60 → fr n ≤ 99) (v : Nat) (hv : v ≤ 297) (k : Nat) (lk : 1 ≤ k) (hk : k ≤ 3) : ∀ (j n : Nat) (hq : PH), n + j = 61 → (hp_K hq 39 = (6, 4) ∧ hp_K hq 40 = (20, 61) ∧ hp_K hq 29 = (20, 61) ∧ hp_F hq 39 0 = .ref 40 ∧ hp_F hq 39 1 = .ref 29 ∧ hp_F hq 39 2 = .int (nI 0) ∧ hp_F hq 39 3 = .int (-1) ∧ ∀ i, i < 61 → hp_I hq 29 i = nI (fr i)) → (∀ i, i < n → hp_I hq 40 i = nI 0) → Same mtX mtZ h hq → WW l Z m_X6_gather 4 0 0 18 [.ref 39, .ref 29, .int (nI v), .int (nI k), .int (nI n), UU] [] hq (RQ none (fun h9 => MtA h9 fr (GM fr v k mt0) ∧ Same mtX mtZ h h9)) := by
  intro j
  induction j with
  | zero =>
    intro n hq hj hK hr hS
    have hb9 : n = 61 := by omega
    subst hb9
    have hA : MtA hq fr mt0 := ⟨hK.1, hK.2.1, hK.2.2.1, hK.2.2.2.1, hK.2.2.2.2.1, hK.2.2.2.2.2.1, hK.2.2.2.2.2.2.1, hr, hK.2.2.2.2.2.2.2⟩
    rcases (show k = 1 ∨ k = 2 ∨ k = 3 by omega) with rfl | rfl | rfl
    · refine ww_iload dX6_gather_18 rfl ?_
      refine ww_bipush (v := nI 60) dX6_gather_20 (by decide) ?_
      refine ww_icmp_gtN (tgt := 39) dX6_gather_22 (by decide) (by omega) (by omega) (fun c22 => ?_) (fun c22 => ?_)
      · refine ww_aload_n dX6_gather_39 rfl rfl ?_
        refine ww_get 1 dX6_gather_40 hK.1 rfl (by decide) inX6 wg_223 hK.2.2.2.2.1 ?_
        refine ww_alenI dX6_gather_43 hK.2.2.1 ?_
        refine ww_bipush (v := nI 61) dX6_gather_44 (by decide) ?_
        refine ww_icmp_geN (tgt := 50) dX6_gather_46 (by decide) (by omega) (by omega) (fun c46 => ?_) (fun c46 => ?_)
        · refine ww_iconst (v := nI 1) dX6_gather_50 (by decide) ?_
          refine ww_sti (lv2 := [.ref 39, .ref 29, .int (nI v), .int (nI 1), .int (nI 1), UU]) dX6_gather_51 rfl (by decide) rfl ?_
          rw [show GM fr v 1 mt0 = _ from if_pos rfl]
          exact l_Rw_ga1 hst hfr v hv 60 1 mt0 hq rfl hA mt0_g (by show 0 + 3721 * 60 ≤ _; omega) hS
        · exfalso; omega
      · exfalso; omega
    · refine ww_iload dX6_gather_18 rfl ?_
      refine ww_bipush (v := nI 60) dX6_gather_20 (by decide) ?_
      refine ww_icmp_gtN (tgt := 39) dX6_gather_22 (by decide) (by omega) (by omega) (fun c22 => ?_) (fun c22 => ?_)
      · refine ww_aload_n dX6_gather_39 rfl rfl ?_
        refine ww_get 1 dX6_gather_40 hK.1 rfl (by decide) inX6 wg_223 hK.2.2.2.2.1 ?_
        refine ww_alenI dX6_gather_43 hK.2.2.1 ?_
        refine ww_bipush (v := nI 61) dX6_gather_44 (by decide) ?_
        refine ww_icmp_geN (tgt := 50) dX6_gather_46 (by decide) (by omega) (by omega) (fun c46 => ?_) (fun c46 => ?_)
        · refine ww_iconst (v := nI 1) dX6_gather_50 (by decide) ?_
          refine ww_sti (lv2 := [.ref 39, .ref 29, .int (nI v), .int (nI 2), .int (nI 1), UU]) dX6_gather_51 rfl (by decide) rfl ?_
          rw [show GM fr v 2 mt0 = _ from (if_neg (by decide)).trans (if_pos rfl)]
          exact l_Rw_ga2 hst hfr v hv 60 1 mt0 hq rfl hA mt0_g (by show 0 + 3721 * 60 ≤ _; omega) hS
        · exfalso; omega
      · exfalso; omega
    · refine ww_iload dX6_gather_18 rfl ?_
      refine ww_bipush (v := nI 60) dX6_gather_20 (by decide) ?_
      refine ww_icmp_gtN (tgt := 39) dX6_gather_22 (by decide) (by omega) (by omega) (fun c22 => ?_) (fun c22 => ?_)
      · refine ww_aload_n dX6_gather_39 rfl rfl ?_
        refine ww_get 1 dX6_gather_40 hK.1 rfl (by decide) inX6 wg_223 hK.2.2.2.2.1 ?_
        refine ww_alenI dX6_gather_43 hK.2.2.1 ?_
        refine ww_bipush (v := nI 61) dX6_gather_44 (by decide) ?_
        refine ww_icmp_geN (tgt := 50) dX6_gather_46 (by decide) (by omega) (by omega) (fun c46 => ?_) (fun c46 => ?_)
        · refine ww_iconst (v := nI 1) dX6_gather_50 (by decide) ?_
          refine ww_sti (lv2 := [.ref 39, .ref 29, .int (nI v), .int (nI 3), .int (nI 1), UU]) dX6_gather_51 rfl (by decide) rfl ?_
          rw [show GM fr v 3 mt0 = _ from (if_neg (by decide)).trans (if_neg (by decide))]
          exact l_Rw_ga3 hst hfr v hv 60 1 mt0 hq rfl hA mt0_g (by show 0 + 3721 * 60 ≤ _; omega) hS
        · exfalso; omega
      · exfalso; omega
  | succ j ih =>
    intro n hq hj hK hr hS
    refine ww_iload dX6_gather_18 rfl ?_
    refine ww_bipush (v := nI 60) dX6_gather_20 (by decide) ?_
    refine ww_icmp_gtN (tgt := 39) dX6_gather_22 (by decide) (by omega) (by omega) (fun c22 => ?_) (fun c22 => ?_)
    · exfalso; omega
    · refine ww_aload_n dX6_gather_25 rfl rfl ?_
      refine ww_get 0 dX6_gather_26 hK.1 rfl (by decide) inX6 wg_222 hK.2.2.2.1 ?_
      refine ww_iload dX6_gather_29 rfl ?_
      refine ww_iconst (v := nI 0) dX6_gather_31 (by decide) ?_
      refine ww_iastF dX6_gather_32 hK.2.1 rfl (by omega) (by omega) ?_
      refine ww_incN (c := 1) (lv2 := [.ref 39, .ref 29, .int (nI v), .int (nI k), .int (nI (n + 1)), UU]) dX6_gather_33 rfl rfl rfl (by decide) rfl ?_
      refine ww_goto (tgt := 18) dX6_gather_36 (by decide) ?_
      refine ih (n + 1) _ (by omega) ⟨hK.1, hK.2.1, hK.2.2.1, hK.2.2.2.1, hK.2.2.2.2.1, hK.2.2.2.2.2.1, hK.2.2.2.2.2.2.1, fun i hi => by rw [hp_I_ne (by decide)]; exact hK.2.2.2.2.2.2.2 i hi⟩ (fun i hi => ?_) (hS.sI rfl)
      rw [hp_I_eq]
      by_cases e1 : i = n
      · rw [e1, pk_us]
      · rw [pk_un e1]; exact hr i (by omega)
set_option maxHeartbeats 4000000 in
set_option maxRecDepth 100000 in
theorem c_Rw_gather {l : Launch} {Z : EE} (hst : l.stackTraces = false) {h : PH} {fr : Nat → Nat} (k39 : hp_K h 39 = (6, 4)) (k40 : hp_K h 40 = (20, 61)) (k29 : hp_K h 29 = (20, 61)) (r0 : hp_F h 39 0 = .ref 40) (hrow : ∀ i, i < 61 → hp_I h 29 i = nI (fr i)) (hfr : ∀ n, n ≤ 60 → fr n ≤ 99) (v : Nat) (hv : v ≤ 297) (k : Nat) (lk : 1 ≤ k) (hk : k ≤ 3) : CC l Z m_X6_gather 4 0 0 [.ref 39, .ref 29, .int (nI v), .int (nI k)] h (RQ none (fun h9 => MtA h9 fr (GM fr v k mt0) ∧ Same mtX mtZ h h9)) := by
  refine ee_entry hst (by decide +kernel) rfl rfl (by simp [Value.category]) (Nat.le_of_ble_eq_true rfl) ?_
  refine ww_lv (lv2 := [.ref 39, .ref 29, .int (nI v), .int (nI k), UU, UU]) rfl ?_
  refine ww_aload_n dX6_gather_0 rfl rfl ?_
  refine ww_aload_n dX6_gather_1 rfl rfl ?_
  refine ww_put tyX6 1 dX6_gather_2 k39 rfl (by decide) inX6 tyX6_ok nmX6 wg_223 rfl (ee_na_ref (Or.inr ⟨_, rfl⟩)) ?_
  refine ww_aload_n dX6_gather_5 rfl rfl ?_
  refine ww_iconst (v := nI 0) dX6_gather_6 (by decide) ?_
  refine ww_pfI tyX6 2 dX6_gather_7 k39 rfl (by decide) inX6 tyX6_ok nmX6 wg_224 rfl rfl ?_
  refine ww_aload_n dX6_gather_10 rfl rfl ?_
  refine ww_iconst (v := -1) dX6_gather_11 (by decide) ?_
  refine ww_pfI tyX6 3 dX6_gather_12 k39 rfl (by decide) inX6 tyX6_ok nmX6 wg_226 rfl rfl ?_
  refine ww_iconst (v := nI 0) dX6_gather_15 (by decide) ?_
  refine ww_sti (lv2 := [.ref 39, .ref 29, .int (nI v), .int (nI k), .int (nI 0), UU]) dX6_gather_16 rfl (by decide) rfl ?_
  refine l_Rw_gi hst hfr v hv k lk hk 61 0 _ rfl ⟨k39, k40, k29, hp_F_nj (by decide) (hp_F_nj (by decide) (hp_F_nj (by decide) r0)), hp_F_nj (by decide) (hp_F_nj (by decide) (hp_F_eq _ _ _ _)), hp_F_nj (by decide) (hp_F_eq _ _ _ _), hp_F_eq _ _ _ _, hrow⟩ (fun i hi => absurd hi (Nat.not_lt_zero i)) (((Same.rf.sF (show mtZ 39 1 from ⟨rfl, Or.inl rfl⟩)).sF (show mtZ 39 2 from ⟨rfl, Or.inr (Or.inl rfl)⟩)).sF (show mtZ 39 3 from ⟨rfl, Or.inr (Or.inr rfl)⟩))
set_option maxHeartbeats 4000000 in
set_option maxRecDepth 100000 in
theorem c_Rw_worst {l : Launch} {Z : EE} (hst : l.stackTraces = false) {h : PH} {fr : Nat → Nat} {s : MT} (hA : MtA h fr s) (hg : MtG s) (hs : s.1 ≤ 1000000) (n : Nat) (hn : n ≤ 60) : CC l Z m_X6_leftAtWorst 1 0 0 [.ref 39, .int (nI n)] h (RT (some (.int (nI (wsN s n)))) h) := by
  refine ee_entry hst (by decide +kernel) rfl rfl (by simp [Value.category]) (Nat.le_of_ble_eq_true rfl) ?_
  refine ww_lv (lv2 := [.ref 39, .int (nI n)]) rfl ?_
  have hw9 := hg.1 n
  refine ww_aload_n dX6_leftAtWorst_0 rfl rfl ?_
  refine ww_get 0 dX6_leftAtWorst_1 hA.1 rfl (by decide) inX6 wg_222 hA.2.2.2.1 ?_
  refine ww_iload_n dX6_leftAtWorst_4 rfl rfl ?_
  refine ww_ialdF dX6_leftAtWorst_5 hA.2.1 rfl (by omega) (by omega) ?_
  refine ww_sk (st2 := [.int (nI (s.2.2 n))]) (by rw [hA.2.2.2.2.2.2.2.1 n (by omega)]) ?_
  refine ww_aload_n dX6_leftAtWorst_6 rfl rfl ?_
  refine ww_get 2 dX6_leftAtWorst_7 hA.1 rfl (by decide) inX6 wg_224 hA.2.2.2.2.2.1 ?_
  refine ww_aload_n dX6_leftAtWorst_10 rfl rfl ?_
  refine ww_get 0 dX6_leftAtWorst_11 hA.1 rfl (by decide) inX6 wg_222 hA.2.2.2.1 ?_
  refine ww_iload_n dX6_leftAtWorst_14 rfl rfl ?_
  refine ww_ialdF dX6_leftAtWorst_15 hA.2.1 rfl (by omega) (by omega) ?_
  refine ww_sk (st2 := [.int (nI (s.2.2 n)), .int (nI s.1), .int (nI (s.2.2 n))]) (by rw [hA.2.2.2.2.2.2.2.1 n (by omega)]) ?_
  refine ww_isubN dX6_leftAtWorst_16 (by omega) ?_
  refine ww_cSr (M := m_X6_leftAtWorst) (pc := 17) (v := .int (nI (max (s.2.2 n) (s.1 - (s.2.2 n))))) (h1 := h) (st := []) (d := 1) (bc := 0) (bs := 0) (c_maxN hst (s.2.2 n) (s.1 - (s.2.2 n)) (by omega) (by omega) _) vv_J9_max_7cf53 dX6_leftAtWorst_17 wg_1073 rfl rfl rfl (Nat.le_of_ble_eq_true rfl) (Nat.le_of_ble_eq_true rfl) (Nat.le_of_ble_eq_true rfl) (Nat.le_of_ble_eq_true rfl) ?_
  exact ww_iret dX6_leftAtWorst_20 rfl ⟨rfl, rfl⟩
set_option maxHeartbeats 4000000 in
set_option maxRecDepth 100000 in
theorem l_Rw_most {l : Launch} {Z : EE} (hst : l.stackTraces = false) {h : PH} {fr : Nat → Nat} {s : MT} (hA : MtA h fr s) (hg : MtG s) (hs : s.1 ≤ 1000000) : ∀ (j k : Nat), k + j = 59 → WW l Z m_X6_mostTelling 2 0 0 4 [.ref 39, .int (nI (btF s k)), .int (nI (k + 2))] [] h (RT (some (.int (nI (btF s 59)))) h) := by
  intro j
  induction j with
  | zero =>
    intro k hk
    have hb9 : k = 59 := by omega
    subst hb9
    refine ww_iload_n dX6_mostTelling_4 rfl rfl ?_
    refine ww_bipush (v := nI 60) dX6_mostTelling_5 (by decide) ?_
    refine ww_icmp_gtN (tgt := 31) dX6_mostTelling_7 (by decide) (by omega) (by omega) (fun c7 => ?_) (fun c7 => ?_)
    · refine ww_iload_n dX6_mostTelling_31 rfl rfl ?_
      exact ww_iret dX6_mostTelling_32 rfl ⟨rfl, rfl⟩
    · exfalso; omega
  | succ j ih =>
    intro k hk
    have hb9 := btF_le s k
    have hw1 := wsN_le hg (k + 2)
    have hw2 := wsN_le hg (btF s k)
    refine ww_iload_n dX6_mostTelling_4 rfl rfl ?_
    refine ww_bipush (v := nI 60) dX6_mostTelling_5 (by decide) ?_
    refine ww_icmp_gtN (tgt := 31) dX6_mostTelling_7 (by decide) (by omega) (by omega) (fun c7 => ?_) (fun c7 => ?_)
    · exfalso; omega
    · refine ww_aload_n dX6_mostTelling_10 rfl rfl ?_
      refine ww_iload_n dX6_mostTelling_11 rfl rfl ?_
      refine ww_cVr (M := m_X6_mostTelling) (pc := 12) (v := .int (nI (wsN s (k + 2)))) (h1 := h) (st := []) (d := 2) (bc := 0) (bs := 0) (c_Rw_worst hst hA hg hs (k + 2) (by omega)) vv_X6_leftAtWorst dX6_mostTelling_12 wg_1069 hA.1 rfl rfl rfl rfl (Nat.le_of_ble_eq_true rfl) (Nat.le_of_ble_eq_true rfl) (Nat.le_of_ble_eq_true rfl) (Nat.le_of_ble_eq_true rfl) ?_
      refine ww_aload_n dX6_mostTelling_15 rfl rfl ?_
      refine ww_iload_n dX6_mostTelling_16 rfl rfl ?_
      refine ww_cVr (M := m_X6_mostTelling) (pc := 17) (v := .int (nI (wsN s (btF s k)))) (h1 := h) (st := [.int (nI (wsN s (k + 2)))]) (d := 2) (bc := 0) (bs := 0) (c_Rw_worst hst hA hg hs (btF s k) (by omega)) vv_X6_leftAtWorst dX6_mostTelling_17 wg_1069 hA.1 rfl rfl rfl rfl (Nat.le_of_ble_eq_true rfl) (Nat.le_of_ble_eq_true rfl) (Nat.le_of_ble_eq_true rfl) (Nat.le_of_ble_eq_true rfl) ?_
      refine ww_icmp_geN (tgt := 25) dX6_mostTelling_20 (by decide) (by omega) (by omega) (fun c20 => ?_) (fun c20 => ?_)
      · refine ww_incN (c := 1) (lv2 := [.ref 39, .int (nI (btF s k)), .int (nI (k + 2 + 1))]) dX6_mostTelling_25 rfl rfl rfl (by decide) rfl ?_
        refine ww_goto (tgt := 4) dX6_mostTelling_28 (by decide) ?_
        refine ww_lv (lv2 := [.ref 39, .int (nI (btF s (k + 1))), .int (nI ((k + 1) + 2))]) (by rw [show btF s (k + 1) = btF s k from if_neg (by omega)]) ?_
        exact ih (k + 1) (by omega)
      · refine ww_iload_n dX6_mostTelling_23 rfl rfl ?_
        refine ww_sti_n (lv2 := [.ref 39, .int (nI (k + 2)), .int (nI (k + 2))]) dX6_mostTelling_24 rfl rfl (by decide) rfl ?_
        refine ww_incN (c := 1) (lv2 := [.ref 39, .int (nI (k + 2)), .int (nI (k + 2 + 1))]) dX6_mostTelling_25 rfl rfl rfl (by decide) rfl ?_
        refine ww_goto (tgt := 4) dX6_mostTelling_28 (by decide) ?_
        refine ww_lv (lv2 := [.ref 39, .int (nI (btF s (k + 1))), .int (nI ((k + 1) + 2))]) (by rw [show btF s (k + 1) = k + 2 from if_pos (by omega)]) ?_
        exact ih (k + 1) (by omega)
set_option maxHeartbeats 4000000 in
set_option maxRecDepth 100000 in
theorem c_Rw_most {l : Launch} {Z : EE} (hst : l.stackTraces = false) {h : PH} {fr : Nat → Nat} {s : MT} (hA : MtA h fr s) (hg : MtG s) (hs : s.1 ≤ 1000000) : CC l Z m_X6_mostTelling 2 0 0 [.ref 39] h (RT (some (.int (nI (btF s 59)))) h) := by
  refine ee_entry hst (by decide +kernel) rfl rfl (by simp [Value.category]) (Nat.le_of_ble_eq_true rfl) ?_
  refine ww_lv (lv2 := [.ref 39, UU, UU]) rfl ?_
  refine ww_iconst (v := nI 1) dX6_mostTelling_0 (by decide) ?_
  refine ww_sti_n (lv2 := [.ref 39, .int (nI 1), UU]) dX6_mostTelling_1 rfl rfl (by decide) rfl ?_
  refine ww_iconst (v := nI 2) dX6_mostTelling_2 (by decide) ?_
  refine ww_sti_n (lv2 := [.ref 39, .int (nI 1), .int (nI 2)]) dX6_mostTelling_3 rfl rfl (by decide) rfl ?_
  refine ww_lv (lv2 := [.ref 39, .int (nI (btF s 0)), .int (nI (0 + 2))]) rfl ?_
  exact l_Rw_most hst hA hg hs 59 0 rfl
set_option maxHeartbeats 4000000 in
set_option maxRecDepth 100000 in
theorem c_K_gath {l : Launch} {Z : EE} (hst : l.stackTraces = false) {h : PH} {la lw bk : Nat} (hC : CL h la lw bk) {np du : Nat} {f : Nat → Int32} (hL : LandAt h la np du f) {sz : Nat} {kf vf : Nat → Int32} (hW : LawAt h lw sz kf vf) (hok : LawOK kf vf sz) (v : Nat) (hv : v ≤ 297) (k : Nat) (lk : 1 ≤ k) (hk : k ≤ 3) (w : Nat) (hw : w ≤ 1) : CC l Z m_X10_gatherRows 5 0 0 [.ref 0, .int (nI v), .int (nI k), .int (nI w)] h (RQ none (fun h9 => Same CX CY h h9 ∧ MtA h9 (frN f sz kf vf) (GM (frN f sz kf vf) v k mt0))) := by
  refine ee_entry hst (by decide +kernel) rfl rfl (by simp [Value.category]) (Nat.le_of_ble_eq_true rfl) ?_
  refine ww_lv (lv2 := [.ref 0, .int (nI v), .int (nI k), .int (nI w)]) rfl ?_
  have hla := hC.la
  have hlw := hC.lw
  have hbk := hC.bk
  refine ww_aload_n dX10_gatherRows_0 rfl rfl ?_
  refine ww_iload_n dX10_gatherRows_1 rfl rfl ?_
  refine ww_iconst (v := nI 0) dX10_gatherRows_2 (by decide) ?_
  refine ww_sipush (v := nI 297) dX10_gatherRows_3 (by decide) ?_
  refine ww_cV0 (M := m_X10_gatherRows) (pc := 6) (h1 := h) (st := []) (d := 5) (bc := 0) (bs := 0) (c_within_t hst (nI v) (nI 0) (nI 297) (nI_le (by omega) (by omega)) (nI_le (by omega) (by omega)) _) vv_X10_within dX10_gatherRows_6 wg_410 (hC.K0) rfl rfl rfl rfl (Nat.le_of_ble_eq_true rfl) (Nat.le_of_ble_eq_true rfl) (Nat.le_of_ble_eq_true rfl) (Nat.le_of_ble_eq_true rfl) ?_
  refine ww_aload_n dX10_gatherRows_9 rfl rfl ?_
  refine ww_iload_n dX10_gatherRows_10 rfl rfl ?_
  refine ww_iconst (v := nI 1) dX10_gatherRows_11 (by decide) ?_
  refine ww_iconst (v := nI 3) dX10_gatherRows_12 (by decide) ?_
  refine ww_cV0 (M := m_X10_gatherRows) (pc := 13) (h1 := h) (st := []) (d := 5) (bc := 0) (bs := 0) (c_within_t hst (nI k) (nI 1) (nI 3) (nI_le (by omega) (by omega)) (nI_le (by omega) (by omega)) _) vv_X10_within dX10_gatherRows_13 wg_410 (hC.K0) rfl rfl rfl rfl (Nat.le_of_ble_eq_true rfl) (Nat.le_of_ble_eq_true rfl) (Nat.le_of_ble_eq_true rfl) (Nat.le_of_ble_eq_true rfl) ?_
  refine ww_aload_n dX10_gatherRows_16 rfl rfl ?_
  refine ww_iload_n dX10_gatherRows_17 rfl rfl ?_
  refine ww_iconst (v := nI 0) dX10_gatherRows_18 (by decide) ?_
  refine ww_iconst (v := nI 1) dX10_gatherRows_19 (by decide) ?_
  refine ww_cV0 (M := m_X10_gatherRows) (pc := 20) (h1 := h) (st := []) (d := 5) (bc := 0) (bs := 0) (c_within_t hst (nI w) (nI 0) (nI 1) (nI_le (by omega) (by omega)) (nI_le (by omega) (by omega)) _) vv_X10_within dX10_gatherRows_20 wg_410 (hC.K0) rfl rfl rfl rfl (Nat.le_of_ble_eq_true rfl) (Nat.le_of_ble_eq_true rfl) (Nat.le_of_ble_eq_true rfl) (Nat.le_of_ble_eq_true rfl) ?_
  refine ww_aload_n dX10_gatherRows_23 rfl rfl ?_
  refine ww_get 1 dX10_gatherRows_24 (hC.K0) rfl (by decide) inX10 wg_265 hC.D1 ?_
  refine ww_aload_n dX10_gatherRows_27 rfl rfl ?_
  refine ww_get 3 dX10_gatherRows_28 (hC.K0) rfl (by decide) inX10 wg_267 hC.D3 ?_
  refine ww_iconst (v := nI 1) dX10_gatherRows_31 (by decide) ?_
  refine ww_aload_n dX10_gatherRows_32 rfl rfl ?_
  refine ww_get 14 dX10_gatherRows_33 (hC.K0) rfl (by decide) inX10 wg_278 (hC.R0_14) ?_
  refine ww_cVq0 (M := m_X10_gatherRows) (pc := 36) (st := []) (d := 5) (bc := 0) (bs := 0) (c_Land_faresBy hst hL hW hok (by omega) hC.K29 (by omega) 1 (by omega)) vv_X2_faresBy dX10_gatherRows_36 wg_1013 hL.1 rfl rfl rfl rfl (Nat.le_of_ble_eq_true rfl) (Nat.le_of_ble_eq_true rfl) (Nat.le_of_ble_eq_true rfl) (Nat.le_of_ble_eq_true rfl) (fun hq1 qq1 => ?_)
  have s1 : Same CX CY h hq1 := qq1.1.mono (fun c hc => by rcases hC.lw with rfl | rfl <;> rcases hc with rfl | rfl | rfl <;> decide) (fun _ _ e => e.elim)
  have hC1 := hC.scr s1
  have hL1 := hL.scr hC s1
  have hW1 := hW.scr hC s1
  have hfr1 : ∀ i, i < 61 → hp_I hq1 29 i = nI (frN f sz kf vf i) := fun i hi => by rw [qq1.2 i hi, fareC_n (by omega)]; rfl
  refine ww_aload_n dX10_gatherRows_39 rfl rfl ?_
  refine ww_get 17 dX10_gatherRows_40 (hC1.K0) rfl (by decide) inX10 wg_281 (hC1.R0_17) ?_
  refine ww_aload_n dX10_gatherRows_43 rfl rfl ?_
  refine ww_get 14 dX10_gatherRows_44 (hC1.K0) rfl (by decide) inX10 wg_278 (hC1.R0_14) ?_
  refine ww_iload_n dX10_gatherRows_47 rfl rfl ?_
  refine ww_iload_n dX10_gatherRows_48 rfl rfl ?_
  refine ww_cVq0 (M := m_X10_gatherRows) (pc := 49) (st := []) (d := 5) (bc := 0) (bs := 0) (c_Rw_gather hst hC1.K39 hC1.K40 hC1.K29 hC1.R39_0 hfr1 (frN_le f sz kf vf) v hv k lk hk) vv_X6_gather dX10_gatherRows_49 wg_1038 (hC1.K39) rfl rfl rfl rfl (Nat.le_of_ble_eq_true rfl) (Nat.le_of_ble_eq_true rfl) (Nat.le_of_ble_eq_true rfl) (Nat.le_of_ble_eq_true rfl) (fun hq2 qq2 => ?_)
  have s2 : Same CX CY h hq2 := s1.tr (qq2.2.mono (fun c hc => by rw [show c = 40 from hc]; decide) (fun c j e => by obtain ⟨rfl, rfl | rfl | rfl⟩ := e <;> decide))
  have hC2 := hC.scr s2
  have hL2 := hL.scr hC s2
  have hW2 := hW.scr hC s2
  exact ww_vret dX10_gatherRows_52 rfl ⟨rfl, s2, qq2.1⟩
set_option maxHeartbeats 4000000 in
set_option maxRecDepth 100000 in
theorem c_K_gath_no0 {l : Launch} {Z : EE} (hst : l.stackTraces = false) {h : PH} {la lw bk : Nat} (hC : CL h la lw bk) {wr : Int32} (hwr : hp_F h 0 13 = .int wr) (v k w : Int32) (hout : ¬ (nI 0 ≤ v ∧ v ≤ nI 297)) : CC l Z m_X10_gatherRows 7 1 6 [.ref 0, .int v, .int k, .int w] h (TH iaX (hp_sF h 0 13 (.int (wr + nI 1)))) := by
  refine ee_entry hst (by decide +kernel) rfl rfl (by simp [Value.category]) (Nat.le_of_ble_eq_true rfl) ?_
  refine ww_lv (lv2 := [.ref 0, .int v, .int k, .int w]) rfl ?_
  refine ww_aload_n dX10_gatherRows_0 rfl rfl ?_
  refine ww_iload_n dX10_gatherRows_1 rfl rfl ?_
  refine ww_iconst (v := nI 0) dX10_gatherRows_2 (by decide) ?_
  refine ww_sipush (v := nI 297) dX10_gatherRows_3 (by decide) ?_
  exact ww_cVt (M := m_X10_gatherRows) (pc := 6) (st := []) (d := 7) (bc := 0) (bs := 0) (c_within_f hst hC.K0 hwr v (nI 0) (nI 297) hout) vv_X10_within dX10_gatherRows_6 wg_410 (hC.K0) rfl rfl rfl rfl (Nat.le_of_ble_eq_true rfl) (Nat.le_of_ble_eq_true rfl) (Nat.le_of_ble_eq_true rfl) (Nat.le_of_ble_eq_true rfl) ⟨rfl, rfl⟩
set_option maxHeartbeats 4000000 in
set_option maxRecDepth 100000 in
theorem c_K_meant_no0 {l : Launch} {Z : EE} (hst : l.stackTraces = false) {h : PH} {la lw bk : Nat} (hC : CL h la lw bk) {wr : Int32} (hwr : hp_F h 0 13 = .int wr) (v k w : Int32) (hout : ¬ (nI 0 ≤ v ∧ v ≤ nI 297)) : CC l Z m_X10_meant 8 1 6 [.ref 0, .int v, .int k, .int w] h (TH iaX (hp_sF h 0 13 (.int (wr + nI 1)))) := by
  refine ee_entry hst (by decide +kernel) rfl rfl (by simp [Value.category]) (Nat.le_of_ble_eq_true rfl) ?_
  refine ww_lv (lv2 := [.ref 0, .int v, .int k, .int w]) rfl ?_
  refine ww_aload_n dX10_meant_0 rfl rfl ?_
  refine ww_iload_n dX10_meant_1 rfl rfl ?_
  refine ww_iload_n dX10_meant_2 rfl rfl ?_
  refine ww_iload_n dX10_meant_3 rfl rfl ?_
  exact ww_cVt (M := m_X10_meant) (pc := 4) (st := []) (d := 8) (bc := 0) (bs := 0) (c_K_gath_no0 hst hC hwr v k w hout) vv_X10_gatherRows dX10_meant_4 wg_1034 (hC.K0) rfl rfl rfl rfl (Nat.le_of_ble_eq_true rfl) (Nat.le_of_ble_eq_true rfl) (Nat.le_of_ble_eq_true rfl) (Nat.le_of_ble_eq_true rfl) ⟨rfl, rfl⟩
set_option maxHeartbeats 4000000 in
set_option maxRecDepth 100000 in
theorem c_K_look_no0 {l : Launch} {Z : EE} (hst : l.stackTraces = false) {h : PH} {la lw bk : Nat} (hC : CL h la lw bk) {wr : Int32} (hwr : hp_F h 0 13 = .int wr) (v k w : Int32) (hout : ¬ (nI 0 ≤ v ∧ v ≤ nI 297)) : CC l Z m_X10_look 8 1 6 [.ref 0, .int v, .int k, .int w] h (TH iaX (hp_sF h 0 13 (.int (wr + nI 1)))) := by
  refine ee_entry hst (by decide +kernel) rfl rfl (by simp [Value.category]) (Nat.le_of_ble_eq_true rfl) ?_
  refine ww_lv (lv2 := [.ref 0, .int v, .int k, .int w, UU]) rfl ?_
  refine ww_aload_n dX10_look_0 rfl rfl ?_
  refine ww_iload_n dX10_look_1 rfl rfl ?_
  refine ww_iload_n dX10_look_2 rfl rfl ?_
  refine ww_iload_n dX10_look_3 rfl rfl ?_
  exact ww_cVt (M := m_X10_look) (pc := 4) (st := []) (d := 8) (bc := 0) (bs := 0) (c_K_gath_no0 hst hC hwr v k w hout) vv_X10_gatherRows dX10_look_4 wg_1034 (hC.K0) rfl rfl rfl rfl (Nat.le_of_ble_eq_true rfl) (Nat.le_of_ble_eq_true rfl) (Nat.le_of_ble_eq_true rfl) (Nat.le_of_ble_eq_true rfl) ⟨rfl, rfl⟩
set_option maxHeartbeats 4000000 in
set_option maxRecDepth 100000 in
theorem c_K_gath_no1 {l : Launch} {Z : EE} (hst : l.stackTraces = false) {h : PH} {la lw bk : Nat} (hC : CL h la lw bk) {wr : Int32} (hwr : hp_F h 0 13 = .int wr) (v : Nat) (hv : v ≤ 297) (k w : Int32) (hout : ¬ (nI 1 ≤ k ∧ k ≤ nI 3)) : CC l Z m_X10_gatherRows 7 1 6 [.ref 0, .int (nI v), .int k, .int w] h (TH iaX (hp_sF h 0 13 (.int (wr + nI 1)))) := by
  refine ee_entry hst (by decide +kernel) rfl rfl (by simp [Value.category]) (Nat.le_of_ble_eq_true rfl) ?_
  refine ww_lv (lv2 := [.ref 0, .int (nI v), .int k, .int w]) rfl ?_
  refine ww_aload_n dX10_gatherRows_0 rfl rfl ?_
  refine ww_iload_n dX10_gatherRows_1 rfl rfl ?_
  refine ww_iconst (v := nI 0) dX10_gatherRows_2 (by decide) ?_
  refine ww_sipush (v := nI 297) dX10_gatherRows_3 (by decide) ?_
  refine ww_cV0 (M := m_X10_gatherRows) (pc := 6) (h1 := h) (st := []) (d := 7) (bc := 1) (bs := 6) (c_within_t hst (nI v) (nI 0) (nI 297) (nI_le (by omega) (by omega)) (nI_le (by omega) (by omega)) _) vv_X10_within dX10_gatherRows_6 wg_410 (hC.K0) rfl rfl rfl rfl (Nat.le_of_ble_eq_true rfl) (Nat.le_of_ble_eq_true rfl) (Nat.le_of_ble_eq_true rfl) (Nat.le_of_ble_eq_true rfl) ?_
  refine ww_aload_n dX10_gatherRows_9 rfl rfl ?_
  refine ww_iload_n dX10_gatherRows_10 rfl rfl ?_
  refine ww_iconst (v := nI 1) dX10_gatherRows_11 (by decide) ?_
  refine ww_iconst (v := nI 3) dX10_gatherRows_12 (by decide) ?_
  exact ww_cVt (M := m_X10_gatherRows) (pc := 13) (st := []) (d := 7) (bc := 0) (bs := 0) (c_within_f hst hC.K0 hwr k (nI 1) (nI 3) hout) vv_X10_within dX10_gatherRows_13 wg_410 (hC.K0) rfl rfl rfl rfl (Nat.le_of_ble_eq_true rfl) (Nat.le_of_ble_eq_true rfl) (Nat.le_of_ble_eq_true rfl) (Nat.le_of_ble_eq_true rfl) ⟨rfl, rfl⟩
set_option maxHeartbeats 4000000 in
set_option maxRecDepth 100000 in
theorem c_K_meant_no1 {l : Launch} {Z : EE} (hst : l.stackTraces = false) {h : PH} {la lw bk : Nat} (hC : CL h la lw bk) {wr : Int32} (hwr : hp_F h 0 13 = .int wr) (v : Nat) (hv : v ≤ 297) (k w : Int32) (hout : ¬ (nI 1 ≤ k ∧ k ≤ nI 3)) : CC l Z m_X10_meant 8 1 6 [.ref 0, .int (nI v), .int k, .int w] h (TH iaX (hp_sF h 0 13 (.int (wr + nI 1)))) := by
  refine ee_entry hst (by decide +kernel) rfl rfl (by simp [Value.category]) (Nat.le_of_ble_eq_true rfl) ?_
  refine ww_lv (lv2 := [.ref 0, .int (nI v), .int k, .int w]) rfl ?_
  refine ww_aload_n dX10_meant_0 rfl rfl ?_
  refine ww_iload_n dX10_meant_1 rfl rfl ?_
  refine ww_iload_n dX10_meant_2 rfl rfl ?_
  refine ww_iload_n dX10_meant_3 rfl rfl ?_
  exact ww_cVt (M := m_X10_meant) (pc := 4) (st := []) (d := 8) (bc := 0) (bs := 0) (c_K_gath_no1 hst hC hwr v hv k w hout) vv_X10_gatherRows dX10_meant_4 wg_1034 (hC.K0) rfl rfl rfl rfl (Nat.le_of_ble_eq_true rfl) (Nat.le_of_ble_eq_true rfl) (Nat.le_of_ble_eq_true rfl) (Nat.le_of_ble_eq_true rfl) ⟨rfl, rfl⟩
set_option maxHeartbeats 4000000 in
set_option maxRecDepth 100000 in
theorem c_K_look_no1 {l : Launch} {Z : EE} (hst : l.stackTraces = false) {h : PH} {la lw bk : Nat} (hC : CL h la lw bk) {wr : Int32} (hwr : hp_F h 0 13 = .int wr) (v : Nat) (hv : v ≤ 297) (k w : Int32) (hout : ¬ (nI 1 ≤ k ∧ k ≤ nI 3)) : CC l Z m_X10_look 8 1 6 [.ref 0, .int (nI v), .int k, .int w] h (TH iaX (hp_sF h 0 13 (.int (wr + nI 1)))) := by
  refine ee_entry hst (by decide +kernel) rfl rfl (by simp [Value.category]) (Nat.le_of_ble_eq_true rfl) ?_
  refine ww_lv (lv2 := [.ref 0, .int (nI v), .int k, .int w, UU]) rfl ?_
  refine ww_aload_n dX10_look_0 rfl rfl ?_
  refine ww_iload_n dX10_look_1 rfl rfl ?_
  refine ww_iload_n dX10_look_2 rfl rfl ?_
  refine ww_iload_n dX10_look_3 rfl rfl ?_
  exact ww_cVt (M := m_X10_look) (pc := 4) (st := []) (d := 8) (bc := 0) (bs := 0) (c_K_gath_no1 hst hC hwr v hv k w hout) vv_X10_gatherRows dX10_look_4 wg_1034 (hC.K0) rfl rfl rfl rfl (Nat.le_of_ble_eq_true rfl) (Nat.le_of_ble_eq_true rfl) (Nat.le_of_ble_eq_true rfl) (Nat.le_of_ble_eq_true rfl) ⟨rfl, rfl⟩
set_option maxHeartbeats 4000000 in
set_option maxRecDepth 100000 in
theorem c_K_gath_no2 {l : Launch} {Z : EE} (hst : l.stackTraces = false) {h : PH} {la lw bk : Nat} (hC : CL h la lw bk) {wr : Int32} (hwr : hp_F h 0 13 = .int wr) (v : Nat) (hv : v ≤ 297) (k : Nat) (lk : 1 ≤ k) (hk : k ≤ 3) (w : Int32) (hout : ¬ (nI 0 ≤ w ∧ w ≤ nI 1)) : CC l Z m_X10_gatherRows 7 1 6 [.ref 0, .int (nI v), .int (nI k), .int w] h (TH iaX (hp_sF h 0 13 (.int (wr + nI 1)))) := by
  refine ee_entry hst (by decide +kernel) rfl rfl (by simp [Value.category]) (Nat.le_of_ble_eq_true rfl) ?_
  refine ww_lv (lv2 := [.ref 0, .int (nI v), .int (nI k), .int w]) rfl ?_
  refine ww_aload_n dX10_gatherRows_0 rfl rfl ?_
  refine ww_iload_n dX10_gatherRows_1 rfl rfl ?_
  refine ww_iconst (v := nI 0) dX10_gatherRows_2 (by decide) ?_
  refine ww_sipush (v := nI 297) dX10_gatherRows_3 (by decide) ?_
  refine ww_cV0 (M := m_X10_gatherRows) (pc := 6) (h1 := h) (st := []) (d := 7) (bc := 1) (bs := 6) (c_within_t hst (nI v) (nI 0) (nI 297) (nI_le (by omega) (by omega)) (nI_le (by omega) (by omega)) _) vv_X10_within dX10_gatherRows_6 wg_410 (hC.K0) rfl rfl rfl rfl (Nat.le_of_ble_eq_true rfl) (Nat.le_of_ble_eq_true rfl) (Nat.le_of_ble_eq_true rfl) (Nat.le_of_ble_eq_true rfl) ?_
  refine ww_aload_n dX10_gatherRows_9 rfl rfl ?_
  refine ww_iload_n dX10_gatherRows_10 rfl rfl ?_
  refine ww_iconst (v := nI 1) dX10_gatherRows_11 (by decide) ?_
  refine ww_iconst (v := nI 3) dX10_gatherRows_12 (by decide) ?_
  refine ww_cV0 (M := m_X10_gatherRows) (pc := 13) (h1 := h) (st := []) (d := 7) (bc := 1) (bs := 6) (c_within_t hst (nI k) (nI 1) (nI 3) (nI_le (by omega) (by omega)) (nI_le (by omega) (by omega)) _) vv_X10_within dX10_gatherRows_13 wg_410 (hC.K0) rfl rfl rfl rfl (Nat.le_of_ble_eq_true rfl) (Nat.le_of_ble_eq_true rfl) (Nat.le_of_ble_eq_true rfl) (Nat.le_of_ble_eq_true rfl) ?_
  refine ww_aload_n dX10_gatherRows_16 rfl rfl ?_
  refine ww_iload_n dX10_gatherRows_17 rfl rfl ?_
  refine ww_iconst (v := nI 0) dX10_gatherRows_18 (by decide) ?_
  refine ww_iconst (v := nI 1) dX10_gatherRows_19 (by decide) ?_
  exact ww_cVt (M := m_X10_gatherRows) (pc := 20) (st := []) (d := 7) (bc := 0) (bs := 0) (c_within_f hst hC.K0 hwr w (nI 0) (nI 1) hout) vv_X10_within dX10_gatherRows_20 wg_410 (hC.K0) rfl rfl rfl rfl (Nat.le_of_ble_eq_true rfl) (Nat.le_of_ble_eq_true rfl) (Nat.le_of_ble_eq_true rfl) (Nat.le_of_ble_eq_true rfl) ⟨rfl, rfl⟩
set_option maxHeartbeats 4000000 in
set_option maxRecDepth 100000 in
theorem c_K_meant_no2 {l : Launch} {Z : EE} (hst : l.stackTraces = false) {h : PH} {la lw bk : Nat} (hC : CL h la lw bk) {wr : Int32} (hwr : hp_F h 0 13 = .int wr) (v : Nat) (hv : v ≤ 297) (k : Nat) (lk : 1 ≤ k) (hk : k ≤ 3) (w : Int32) (hout : ¬ (nI 0 ≤ w ∧ w ≤ nI 1)) : CC l Z m_X10_meant 8 1 6 [.ref 0, .int (nI v), .int (nI k), .int w] h (TH iaX (hp_sF h 0 13 (.int (wr + nI 1)))) := by
  refine ee_entry hst (by decide +kernel) rfl rfl (by simp [Value.category]) (Nat.le_of_ble_eq_true rfl) ?_
  refine ww_lv (lv2 := [.ref 0, .int (nI v), .int (nI k), .int w]) rfl ?_
  refine ww_aload_n dX10_meant_0 rfl rfl ?_
  refine ww_iload_n dX10_meant_1 rfl rfl ?_
  refine ww_iload_n dX10_meant_2 rfl rfl ?_
  refine ww_iload_n dX10_meant_3 rfl rfl ?_
  exact ww_cVt (M := m_X10_meant) (pc := 4) (st := []) (d := 8) (bc := 0) (bs := 0) (c_K_gath_no2 hst hC hwr v hv k lk hk w hout) vv_X10_gatherRows dX10_meant_4 wg_1034 (hC.K0) rfl rfl rfl rfl (Nat.le_of_ble_eq_true rfl) (Nat.le_of_ble_eq_true rfl) (Nat.le_of_ble_eq_true rfl) (Nat.le_of_ble_eq_true rfl) ⟨rfl, rfl⟩
set_option maxHeartbeats 4000000 in
set_option maxRecDepth 100000 in
theorem c_K_look_no2 {l : Launch} {Z : EE} (hst : l.stackTraces = false) {h : PH} {la lw bk : Nat} (hC : CL h la lw bk) {wr : Int32} (hwr : hp_F h 0 13 = .int wr) (v : Nat) (hv : v ≤ 297) (k : Nat) (lk : 1 ≤ k) (hk : k ≤ 3) (w : Int32) (hout : ¬ (nI 0 ≤ w ∧ w ≤ nI 1)) : CC l Z m_X10_look 8 1 6 [.ref 0, .int (nI v), .int (nI k), .int w] h (TH iaX (hp_sF h 0 13 (.int (wr + nI 1)))) := by
  refine ee_entry hst (by decide +kernel) rfl rfl (by simp [Value.category]) (Nat.le_of_ble_eq_true rfl) ?_
  refine ww_lv (lv2 := [.ref 0, .int (nI v), .int (nI k), .int w, UU]) rfl ?_
  refine ww_aload_n dX10_look_0 rfl rfl ?_
  refine ww_iload_n dX10_look_1 rfl rfl ?_
  refine ww_iload_n dX10_look_2 rfl rfl ?_
  refine ww_iload_n dX10_look_3 rfl rfl ?_
  exact ww_cVt (M := m_X10_look) (pc := 4) (st := []) (d := 8) (bc := 0) (bs := 0) (c_K_gath_no2 hst hC hwr v hv k lk hk w hout) vv_X10_gatherRows dX10_look_4 wg_1034 (hC.K0) rfl rfl rfl rfl (Nat.le_of_ble_eq_true rfl) (Nat.le_of_ble_eq_true rfl) (Nat.le_of_ble_eq_true rfl) (Nat.le_of_ble_eq_true rfl) ⟨rfl, rfl⟩
set_option maxHeartbeats 4000000 in
set_option maxRecDepth 100000 in
theorem c_K_meant0 {l : Launch} {Z : EE} (hst : l.stackTraces = false) {h : PH} {la lw bk : Nat} (hC : CL h la lw bk) {np du : Nat} {f : Nat → Int32} (hL : LandAt h la np du f) {sz : Nat} {kf vf : Nat → Int32} (hW : LawAt h lw sz kf vf) (hok : LawOK kf vf sz) (v : Nat) (hv : v ≤ 297) (k : Nat) (lk : 1 ≤ k) (hk : k ≤ 3) : CC l Z m_X10_meant 6 0 0 [.ref 0, .int (nI v), .int (nI k), .int (nI 0)] h (COk (nI (GM (frN f sz kf vf) v k mt0).1) h) := by
  refine ee_entry hst (by decide +kernel) rfl rfl (by simp [Value.category]) (Nat.le_of_ble_eq_true rfl) ?_
  refine ww_lv (lv2 := [.ref 0, .int (nI v), .int (nI k), .int (nI 0)]) rfl ?_
  have hla := hC.la
  have hlw := hC.lw
  have hbk := hC.bk
  refine ww_aload_n dX10_meant_0 rfl rfl ?_
  refine ww_iload_n dX10_meant_1 rfl rfl ?_
  refine ww_iload_n dX10_meant_2 rfl rfl ?_
  refine ww_iload_n dX10_meant_3 rfl rfl ?_
  refine ww_cVq0 (M := m_X10_meant) (pc := 4) (st := []) (d := 6) (bc := 0) (bs := 0) (c_K_gath hst hC hL hW hok v hv k lk hk 0 (by omega)) vv_X10_gatherRows dX10_meant_4 wg_1034 (hC.K0) rfl rfl rfl rfl (Nat.le_of_ble_eq_true rfl) (Nat.le_of_ble_eq_true rfl) (Nat.le_of_ble_eq_true rfl) (Nat.le_of_ble_eq_true rfl) (fun hq1 qq1 => ?_)
  have s1 : Same CX CY h hq1 := qq1.1
  have hC1 := hC.scr s1
  have hL1 := hL.scr hC s1
  have hW1 := hW.scr hC s1
  have hA := qq1.2
  have hG := GM_g (frN f sz kf vf) v k
  generalize hse : GM (frN f sz kf vf) v k mt0 = s at hA hG ⊢
  refine ww_iload_n dX10_meant_7 rfl rfl ?_
  refine ww_if_neN (tgt := 21) dX10_meant_8 (by decide) (by omega) (fun c8 => ?_) (fun c8 => ?_)
  · exact absurd c8 (by decide)
  · refine ww_aload_n dX10_meant_11 rfl rfl ?_
    refine ww_get 17 dX10_meant_12 (hC1.K0) rfl (by decide) inX10 wg_281 (hC1.R0_17) ?_
    refine ww_getN 2 dX10_meant_15 (hC1.K39) rfl (by decide) inX6 wn_225 hA.2.2.2.2.2.1 ?_
    refine ww_goto (tgt := 28) dX10_meant_18 (by decide) ?_
    exact ww_iret dX10_meant_28 rfl ⟨rfl, s1⟩
set_option maxHeartbeats 4000000 in
set_option maxRecDepth 100000 in
theorem c_K_look0 {l : Launch} {Z : EE} (hst : l.stackTraces = false) {h : PH} {la lw bk : Nat} (hC : CL h la lw bk) {np du : Nat} {f : Nat → Int32} (hL : LandAt h la np du f) {sz : Nat} {kf vf : Nat → Int32} (hW : LawAt h lw sz kf vf) (hok : LawOK kf vf sz) (v : Nat) (hv : v ≤ 297) (k : Nat) (lk : 1 ≤ k) (hk : k ≤ 3) : CC l Z m_X10_look 6 0 0 [.ref 0, .int (nI v), .int (nI k), .int (nI 0)] h (COk (nI (btF (GM (frN f sz kf vf) v k mt0) 59)) h) := by
  refine ee_entry hst (by decide +kernel) rfl rfl (by simp [Value.category]) (Nat.le_of_ble_eq_true rfl) ?_
  refine ww_lv (lv2 := [.ref 0, .int (nI v), .int (nI k), .int (nI 0), UU]) rfl ?_
  have hla := hC.la
  have hlw := hC.lw
  have hbk := hC.bk
  refine ww_aload_n dX10_look_0 rfl rfl ?_
  refine ww_iload_n dX10_look_1 rfl rfl ?_
  refine ww_iload_n dX10_look_2 rfl rfl ?_
  refine ww_iload_n dX10_look_3 rfl rfl ?_
  refine ww_cVq0 (M := m_X10_look) (pc := 4) (st := []) (d := 6) (bc := 0) (bs := 0) (c_K_gath hst hC hL hW hok v hv k lk hk 0 (by omega)) vv_X10_gatherRows dX10_look_4 wg_1034 (hC.K0) rfl rfl rfl rfl (Nat.le_of_ble_eq_true rfl) (Nat.le_of_ble_eq_true rfl) (Nat.le_of_ble_eq_true rfl) (Nat.le_of_ble_eq_true rfl) (fun hq1 qq1 => ?_)
  have s1 : Same CX CY h hq1 := qq1.1
  have hC1 := hC.scr s1
  have hL1 := hL.scr hC s1
  have hW1 := hW.scr hC s1
  have hA := qq1.2
  have hG := GM_g (frN f sz kf vf) v k
  generalize hse : GM (frN f sz kf vf) v k mt0 = s at hA hG ⊢
  refine ww_aload_n dX10_look_7 rfl rfl ?_
  refine ww_get 17 dX10_look_8 (hC1.K0) rfl (by decide) inX10 wg_281 (hC1.R0_17) ?_
  have hbt := btF_le s 59
  refine ww_cVr (M := m_X10_look) (pc := 11) (v := .int (nI (btF s 59))) (h1 := hq1) (st := []) (d := 6) (bc := 0) (bs := 0) (c_Rw_most hst hA hG.1 (by omega)) vv_X6_mostTelling dX10_look_11 wg_1065 (hC1.K39) rfl rfl rfl rfl (Nat.le_of_ble_eq_true rfl) (Nat.le_of_ble_eq_true rfl) (Nat.le_of_ble_eq_true rfl) (Nat.le_of_ble_eq_true rfl) ?_
  refine ww_sti (lv2 := [.ref 0, .int (nI v), .int (nI k), .int (nI 0), .int (nI (btF s 59))]) dX10_look_14 rfl (by decide) rfl ?_
  refine ww_iload_n dX10_look_16 rfl rfl ?_
  refine ww_if_neN (tgt := 25) dX10_look_17 (by decide) (by omega) (fun c17 => ?_) (fun c17 => ?_)
  · exact absurd c17 (by decide)
  · refine ww_iload dX10_look_20 rfl ?_
    refine ww_goto (tgt := 34) dX10_look_22 (by decide) ?_
    exact ww_iret dX10_look_34 rfl ⟨rfl, s1⟩
set_option maxHeartbeats 4000000 in
set_option maxRecDepth 100000 in
theorem c_K_meant1 {l : Launch} {Z : EE} (hst : l.stackTraces = false) {h : PH} {la lw bk : Nat} (hC : CL h la lw bk) {np du : Nat} {f : Nat → Int32} (hL : LandAt h la np du f) {sz : Nat} {kf vf : Nat → Int32} (hW : LawAt h lw sz kf vf) (hok : LawOK kf vf sz) (v : Nat) (hv : v ≤ 297) (k : Nat) (lk : 1 ≤ k) (hk : k ≤ 3) : CC l Z m_X10_meant 6 0 0 [.ref 0, .int (nI v), .int (nI k), .int (nI 1)] h (COk (ftV (GM (frN f sz kf vf) v k mt0)) h) := by
  refine ee_entry hst (by decide +kernel) rfl rfl (by simp [Value.category]) (Nat.le_of_ble_eq_true rfl) ?_
  refine ww_lv (lv2 := [.ref 0, .int (nI v), .int (nI k), .int (nI 1)]) rfl ?_
  have hla := hC.la
  have hlw := hC.lw
  have hbk := hC.bk
  refine ww_aload_n dX10_meant_0 rfl rfl ?_
  refine ww_iload_n dX10_meant_1 rfl rfl ?_
  refine ww_iload_n dX10_meant_2 rfl rfl ?_
  refine ww_iload_n dX10_meant_3 rfl rfl ?_
  refine ww_cVq0 (M := m_X10_meant) (pc := 4) (st := []) (d := 6) (bc := 0) (bs := 0) (c_K_gath hst hC hL hW hok v hv k lk hk 1 (by omega)) vv_X10_gatherRows dX10_meant_4 wg_1034 (hC.K0) rfl rfl rfl rfl (Nat.le_of_ble_eq_true rfl) (Nat.le_of_ble_eq_true rfl) (Nat.le_of_ble_eq_true rfl) (Nat.le_of_ble_eq_true rfl) (fun hq1 qq1 => ?_)
  have s1 : Same CX CY h hq1 := qq1.1
  have hC1 := hC.scr s1
  have hL1 := hL.scr hC s1
  have hW1 := hW.scr hC s1
  have hA := qq1.2
  have hG := GM_g (frN f sz kf vf) v k
  generalize hse : GM (frN f sz kf vf) v k mt0 = s at hA hG ⊢
  refine ww_iload_n dX10_meant_7 rfl rfl ?_
  refine ww_if_neN (tgt := 21) dX10_meant_8 (by decide) (by omega) (fun c8 => ?_) (fun c8 => ?_)
  · refine ww_aload_n dX10_meant_21 rfl rfl ?_
    refine ww_get 17 dX10_meant_22 (hC1.K0) rfl (by decide) inX10 wg_281 (hC1.R0_17) ?_
    refine ww_getN 3 dX10_meant_25 (hC1.K39) rfl (by decide) inX6 wn_227 hA.2.2.2.2.2.2.1 ?_
    exact ww_iret dX10_meant_28 rfl ⟨rfl, s1⟩
  · exact absurd c8 (by decide)
set_option maxHeartbeats 4000000 in
set_option maxRecDepth 100000 in
theorem c_K_look1 {l : Launch} {Z : EE} (hst : l.stackTraces = false) {h : PH} {la lw bk : Nat} (hC : CL h la lw bk) {np du : Nat} {f : Nat → Int32} (hL : LandAt h la np du f) {sz : Nat} {kf vf : Nat → Int32} (hW : LawAt h lw sz kf vf) (hok : LawOK kf vf sz) (v : Nat) (hv : v ≤ 297) (k : Nat) (lk : 1 ≤ k) (hk : k ≤ 3) : CC l Z m_X10_look 6 0 0 [.ref 0, .int (nI v), .int (nI k), .int (nI 1)] h (COk (nI (wsN (GM (frN f sz kf vf) v k mt0) (btF (GM (frN f sz kf vf) v k mt0) 59))) h) := by
  refine ee_entry hst (by decide +kernel) rfl rfl (by simp [Value.category]) (Nat.le_of_ble_eq_true rfl) ?_
  refine ww_lv (lv2 := [.ref 0, .int (nI v), .int (nI k), .int (nI 1), UU]) rfl ?_
  have hla := hC.la
  have hlw := hC.lw
  have hbk := hC.bk
  refine ww_aload_n dX10_look_0 rfl rfl ?_
  refine ww_iload_n dX10_look_1 rfl rfl ?_
  refine ww_iload_n dX10_look_2 rfl rfl ?_
  refine ww_iload_n dX10_look_3 rfl rfl ?_
  refine ww_cVq0 (M := m_X10_look) (pc := 4) (st := []) (d := 6) (bc := 0) (bs := 0) (c_K_gath hst hC hL hW hok v hv k lk hk 1 (by omega)) vv_X10_gatherRows dX10_look_4 wg_1034 (hC.K0) rfl rfl rfl rfl (Nat.le_of_ble_eq_true rfl) (Nat.le_of_ble_eq_true rfl) (Nat.le_of_ble_eq_true rfl) (Nat.le_of_ble_eq_true rfl) (fun hq1 qq1 => ?_)
  have s1 : Same CX CY h hq1 := qq1.1
  have hC1 := hC.scr s1
  have hL1 := hL.scr hC s1
  have hW1 := hW.scr hC s1
  have hA := qq1.2
  have hG := GM_g (frN f sz kf vf) v k
  generalize hse : GM (frN f sz kf vf) v k mt0 = s at hA hG ⊢
  refine ww_aload_n dX10_look_7 rfl rfl ?_
  refine ww_get 17 dX10_look_8 (hC1.K0) rfl (by decide) inX10 wg_281 (hC1.R0_17) ?_
  have hbt := btF_le s 59
  refine ww_cVr (M := m_X10_look) (pc := 11) (v := .int (nI (btF s 59))) (h1 := hq1) (st := []) (d := 6) (bc := 0) (bs := 0) (c_Rw_most hst hA hG.1 (by omega)) vv_X6_mostTelling dX10_look_11 wg_1065 (hC1.K39) rfl rfl rfl rfl (Nat.le_of_ble_eq_true rfl) (Nat.le_of_ble_eq_true rfl) (Nat.le_of_ble_eq_true rfl) (Nat.le_of_ble_eq_true rfl) ?_
  refine ww_sti (lv2 := [.ref 0, .int (nI v), .int (nI k), .int (nI 1), .int (nI (btF s 59))]) dX10_look_14 rfl (by decide) rfl ?_
  refine ww_iload_n dX10_look_16 rfl rfl ?_
  refine ww_if_neN (tgt := 25) dX10_look_17 (by decide) (by omega) (fun c17 => ?_) (fun c17 => ?_)
  · refine ww_aload_n dX10_look_25 rfl rfl ?_
    refine ww_get 17 dX10_look_26 (hC1.K0) rfl (by decide) inX10 wg_281 (hC1.R0_17) ?_
    refine ww_iload dX10_look_29 rfl ?_
    refine ww_cVr (M := m_X10_look) (pc := 31) (v := .int (nI (wsN s (btF s 59)))) (h1 := hq1) (st := []) (d := 6) (bc := 0) (bs := 0) (c_Rw_worst hst hA hG.1 (by omega) (btF s 59) (by omega)) vv_X6_leftAtWorst dX10_look_31 wg_1074 (hC1.K39) rfl rfl rfl rfl (Nat.le_of_ble_eq_true rfl) (Nat.le_of_ble_eq_true rfl) (Nat.le_of_ble_eq_true rfl) (Nat.le_of_ble_eq_true rfl) ?_
    exact ww_iret dX10_look_34 rfl ⟨rfl, s1⟩
  · exact absurd c17 (by decide)
