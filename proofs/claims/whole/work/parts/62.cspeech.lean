/-! ===== the class's speech ===== -/
def SpK (h : PH) : Prop := hp_K h 30 = (7, 9) ∧ (hp_K h 31 = (20, 61) ∧ hp_K h 32 = (20, 61) ∧ hp_K h 33 = (20, 61) ∧ hp_K h 34 = (20, 61) ∧ hp_K h 35 = (22, 61)) ∧ hp_F h 30 0 = .ref 31 ∧ hp_F h 30 1 = .ref 32 ∧ hp_F h 30 2 = .ref 33 ∧ hp_F h 30 3 = .ref 34 ∧ hp_F h 30 4 = .ref 35
theorem SpK.same {h h' : PH} {X : Nat → Prop} {Y : Nat → Nat → Prop} (hK : SpK h) (hS : Same X Y h h') (hY : ∀ j, j < 5 → ¬ Y 30 j) : SpK h' :=
  ⟨(hS.2.1 _).trans hK.1, ⟨(hS.2.1 _).trans hK.2.1.1, (hS.2.1 _).trans hK.2.1.2.1, (hS.2.1 _).trans hK.2.1.2.2.1, (hS.2.1 _).trans hK.2.1.2.2.2.1, (hS.2.1 _).trans hK.2.1.2.2.2.2⟩, (hS.2.2.1 _ _ (hY 0 (by decide))).trans hK.2.2.1, (hS.2.2.1 _ _ (hY 1 (by decide))).trans hK.2.2.2.1, (hS.2.2.1 _ _ (hY 2 (by decide))).trans hK.2.2.2.2.1, (hS.2.2.1 _ _ (hY 3 (by decide))).trans hK.2.2.2.2.2.1, (hS.2.2.1 _ _ (hY 4 (by decide))).trans hK.2.2.2.2.2.2⟩
theorem CL.sp {h : PH} {la lw bk : Nat} (hC : CL h la lw bk) : SpK h := ⟨hC.K30, ⟨hC.K31, hC.K32, hC.K33, hC.K34, hC.K35⟩, hC.R30_0, hC.R30_1, hC.R30_2, hC.R30_3, hC.R30_4⟩
def SpA (h : PH) (x : PQ) (s : Nat → Bool) (D : Nat) : Prop := (∀ i, i < 61 → hp_I h 32 i = nI (x.1 i)) ∧ (∀ i, i < 61 → hp_I h 33 i = nI (x.2 i)) ∧ (∀ i, i < 61 → hp_I h 35 i = bI (s i)) ∧ hp_F h 30 5 = .int (nI D)
def SpB (x : PQ) : Prop := ∀ m, m ≤ 60 → x.1 m ≤ 1000000000 ∧ x.2 m ≤ 2000000
theorem SpA.same {h h' : PH} {x : PQ} {s : Nat → Bool} {D : Nat} {X : Nat → Prop} {Y : Nat → Nat → Prop} (hA : SpA h x s D) (hS : Same X Y h h') (h2 : ¬ X 32) (h3 : ¬ X 33) (h5 : ¬ X 35) (hY : ¬ Y 30 5) : SpA h' x s D :=
  ⟨fun i hi => by rw [hS.2.2.2.1 _ h2]; exact hA.1 i hi, fun i hi => by rw [hS.2.2.2.1 _ h3]; exact hA.2.1 i hi, fun i hi => by rw [hS.2.2.2.1 _ h5]; exact hA.2.2.1 i hi, (hS.2.2.1 _ _ hY).trans hA.2.2.2⟩
theorem SpA.offer {h : PH} {x : PQ} {s : Nat → Bool} {D n c l : Nat} (hA : SpA h x s D) : SpA (hp_sI (hp_sI h 32 (upd (hp_I h 32) n (nI c))) 33 (upd (hp_I h 33) n (nI l))) (ubN x.1 n c, ubN x.2 n l) s D := by
  refine ⟨fun i hi => ?_, fun i hi => ?_, fun i hi => ?_, hA.2.2.2⟩
  · rw [hp_I_ne (by decide), hp_I_eq]
    by_cases e : i = n
    · subst e; rw [pk_us]; show nI c = nI (ubN x.1 i c i); rw [ubN_s]
    · rw [pk_un e]; show _ = nI (ubN x.1 n c i); rw [ubN_n _ _ e]; exact hA.1 i hi
  · rw [hp_I_eq]
    by_cases e : i = n
    · subst e; rw [pk_us]; show nI l = nI (ubN x.2 i l i); rw [ubN_s]
    · rw [pk_un e]; show _ = nI (ubN x.2 n l i); rw [ubN_n _ _ e]; exact hA.2.1 i hi
  · rw [hp_I_ne (by decide), hp_I_ne (by decide)]; exact hA.2.2.1 i hi
abbrev SpX : Nat → Prop := fun c => c = 32 ∨ c = 33
abbrev SpN : Nat → Nat → Prop := fun _ _ => False
theorem abI_all : ∀ (a : Fin 61) (b : Fin 61), abI (nI a.val - nI b.val) = nI (adf a.val b.val) := by decide +kernel
theorem abI_df {a b : Nat} (ha : a ≤ 60) (hb : b ≤ 60) : abI (nI a - nI b) = nI (adf a b) := abI_all ⟨a, by omega⟩ ⟨b, by omega⟩
theorem adf_le {a b : Nat} (ha : a ≤ 60) (hb : b ≤ 60) : adf a b ≤ 60 := by unfold adf; split <;> omega
theorem ofr_1 {s : Nat → Bool} {x : PQ} {n c l : Nat} (h : 60 < n) : ofr s x n c l = x := if_neg (fun e => by omega)
theorem ofr_2 {s : Nat → Bool} {x : PQ} {n c l : Nat} (h : s n = true) : ofr s x n c l = x := if_neg (fun e => by rw [h] at e; cases e.2.1)
theorem ofr_3 {s : Nat → Bool} {x : PQ} {n c l : Nat} (h : isLB x c l n = false) : ofr s x n c l = x := if_neg (fun e => by rw [h] at e; cases e.2.2)
theorem ofr_4 {s : Nat → Bool} {x : PQ} {n c l : Nat} (h1 : n ≤ 60) (h2 : s n = false) (h : isLB x c l n = true) : ofr s x n c l = (ubN x.1 n c, ubN x.2 n l) := if_pos ⟨h1, h2, h⟩
theorem ofr_B {s : Nat → Bool} {x : PQ} {n c l : Nat} (hB : SpB x) (hc : c ≤ 1000000000) (hl : l ≤ 2000000) : SpB (ofr s x n c l) := by
  unfold ofr
  split
  · intro m hm
    show ubN x.1 n c m ≤ _ ∧ ubN x.2 n l m ≤ _
    by_cases e : m = n
    · subst e; rw [ubN_s, ubN_s]; exact ⟨hc, hl⟩
    · rw [ubN_n _ _ e, ubN_n _ _ e]; exact hB m hm
  · exact hB
set_option maxHeartbeats 4000000 in
set_option maxRecDepth 100000 in
theorem c_Sp_isLess {l : Launch} {Z : EE} (hst : l.stackTraces = false) {h : PH} (hK : SpK h) {x : PQ} {s : Nat → Bool} {D : Nat} (hA : SpA h x s D) (hB : SpB x) (c lf n : Nat) (hc : c < 2 ^ 31) (hl : lf < 2 ^ 31) (hn : n ≤ 60) : CC l Z m_X7_isLess 0 0 0 [.ref 30, .int (nI c), .int (nI lf), .int (nI n)] h (RT (some (.int (bI (isLB x c lf n)))) h) := by
  refine ee_entry hst (by decide +kernel) rfl rfl (by simp [Value.category]) (Nat.le_of_ble_eq_true rfl) ?_
  refine ww_lv (lv2 := [.ref 30, .int (nI c), .int (nI lf), .int (nI n)]) rfl ?_
  have hb1 := (hB n hn).1
  have hb2 := (hB n hn).2
  refine ww_iload_n dX7_isLess_0 rfl rfl ?_
  refine ww_aload_n dX7_isLess_1 rfl rfl ?_
  refine ww_get 1 dX7_isLess_2 hK.1 rfl (by decide) inX7 wg_170 hK.2.2.2.1 ?_
  refine ww_iload_n dX7_isLess_5 rfl rfl ?_
  refine ww_ialdF dX7_isLess_6 hK.2.1.2.1 rfl (by omega) (by omega) ?_
  refine ww_sk (st2 := [.int (nI (x.1 n)), .int (nI c)]) (by rw [hA.1 n (by omega)]) ?_
  refine ww_icmp_ltN (tgt := 30) dX7_isLess_7 (by decide) (by omega) (by omega) (fun c7 => ?_) (fun c7 => ?_)
  · refine ww_iconst (v := nI 1) dX7_isLess_30 (by decide) ?_
    refine ww_goto (tgt := 35) dX7_isLess_31 (by decide) ?_
    exact ww_zret dX7_isLess_35 rfl (by first | rfl | exact nar_bI _) ⟨by rw [show isLB x c lf n = true from isLB_t.mpr (by omega)]; rfl, rfl⟩
  · refine ww_iload_n dX7_isLess_10 rfl rfl ?_
    refine ww_aload_n dX7_isLess_11 rfl rfl ?_
    refine ww_get 1 dX7_isLess_12 hK.1 rfl (by decide) inX7 wg_170 hK.2.2.2.1 ?_
    refine ww_iload_n dX7_isLess_15 rfl rfl ?_
    refine ww_ialdF dX7_isLess_16 hK.2.1.2.1 rfl (by omega) (by omega) ?_
    refine ww_sk (st2 := [.int (nI (x.1 n)), .int (nI c)]) (by rw [hA.1 n (by omega)]) ?_
    refine ww_icmp_neN (tgt := 34) dX7_isLess_17 (by decide) (by omega) (by omega) (fun c17 => ?_) (fun c17 => ?_)
    · refine ww_iconst (v := nI 0) dX7_isLess_34 (by decide) ?_
      exact ww_zret dX7_isLess_35 rfl (by first | rfl | exact nar_bI _) ⟨by rw [show isLB x c lf n = false from Bool.eq_false_iff.mpr (fun e => by have e9 := isLB_t.mp e; omega)]; rfl, rfl⟩
    · refine ww_iload_n dX7_isLess_20 rfl rfl ?_
      refine ww_aload_n dX7_isLess_21 rfl rfl ?_
      refine ww_get 2 dX7_isLess_22 hK.1 rfl (by decide) inX7 wg_172 hK.2.2.2.2.1 ?_
      refine ww_iload_n dX7_isLess_25 rfl rfl ?_
      refine ww_ialdF dX7_isLess_26 hK.2.1.2.2.1 rfl (by omega) (by omega) ?_
      refine ww_sk (st2 := [.int (nI (x.2 n)), .int (nI lf)]) (by rw [hA.2.1 n (by omega)]) ?_
      refine ww_icmp_geN (tgt := 34) dX7_isLess_27 (by decide) (by omega) (by omega) (fun c27 => ?_) (fun c27 => ?_)
      · refine ww_iconst (v := nI 0) dX7_isLess_34 (by decide) ?_
        exact ww_zret dX7_isLess_35 rfl (by first | rfl | exact nar_bI _) ⟨by rw [show isLB x c lf n = false from Bool.eq_false_iff.mpr (fun e => by have e9 := isLB_t.mp e; omega)]; rfl, rfl⟩
      · refine ww_iconst (v := nI 1) dX7_isLess_30 (by decide) ?_
        refine ww_goto (tgt := 35) dX7_isLess_31 (by decide) ?_
        exact ww_zret dX7_isLess_35 rfl (by first | rfl | exact nar_bI _) ⟨by rw [show isLB x c lf n = true from isLB_t.mpr (by omega)]; rfl, rfl⟩
set_option maxHeartbeats 4000000 in
set_option maxRecDepth 100000 in
theorem c_Sp_offer {l : Launch} {Z : EE} (hst : l.stackTraces = false) {h : PH} (hK : SpK h) {x : PQ} {s : Nat → Bool} {D : Nat} (hA : SpA h x s D) (hB : SpB x) (n c lf : Nat) (hn : n < 2 ^ 31) (hc : c < 2 ^ 31) (hl : lf < 2 ^ 31) : CC l Z m_X7_offer 1 0 0 [.ref 30, .int (nI n), .int (nI c), .int (nI lf)] h (RQ none (fun h9 => SpA h9 (ofr s x n c lf) s D ∧ Same SpX SpN h h9)) := by
  refine ee_entry hst (by decide +kernel) rfl rfl (by simp [Value.category]) (Nat.le_of_ble_eq_true rfl) ?_
  refine ww_lv (lv2 := [.ref 30, .int (nI n), .int (nI c), .int (nI lf)]) rfl ?_
  refine ww_iload_n dX7_offer_0 rfl rfl ?_
  refine ww_bipush (v := nI 60) dX7_offer_1 (by decide) ?_
  refine ww_icmp_gtN (tgt := 39) dX7_offer_3 (by decide) (by omega) (by omega) (fun c3 => ?_) (fun c3 => ?_)
  · exact ww_vret dX7_offer_39 rfl ⟨rfl, by first | (rw [ofr_1 (by omega)]; exact hA) | (rw [ofr_2 c12]; exact hA) | (rw [ofr_3 c22]; exact hA), Same.rf⟩
  · refine ww_aload_n dX7_offer_6 rfl rfl ?_
    refine ww_get 4 dX7_offer_7 hK.1 rfl (by decide) inX7 wg_175 hK.2.2.2.2.2.2 ?_
    refine ww_iload_n dX7_offer_10 rfl rfl ?_
    refine ww_zaldF dX7_offer_11 hK.2.1.2.2.2.2 rfl (by omega) (by omega) ?_
    refine ww_sk (st2 := [.int (bI (s n))]) (by rw [hA.2.2.1 n (by omega)]) ?_
    refine ww_if_neB (tgt := 39) dX7_offer_12 (by decide) (fun c12 => ?_) (fun c12 => ?_)
    · exact ww_vret dX7_offer_39 rfl ⟨rfl, by first | (rw [ofr_1 (by omega)]; exact hA) | (rw [ofr_2 c12]; exact hA) | (rw [ofr_3 c22]; exact hA), Same.rf⟩
    · refine ww_aload_n dX7_offer_15 rfl rfl ?_
      refine ww_iload_n dX7_offer_16 rfl rfl ?_
      refine ww_iload_n dX7_offer_17 rfl rfl ?_
      refine ww_iload_n dX7_offer_18 rfl rfl ?_
      refine ww_cVr (M := m_X7_offer) (pc := 19) (v := .int (bI (isLB x c lf n))) (h1 := h) (st := []) (d := 1) (bc := 0) (bs := 0) (c_Sp_isLess hst hK hA hB c lf n (by omega) (by omega) (by omega)) vv_X7_isLess dX7_offer_19 wg_900 hK.1 rfl rfl rfl rfl (Nat.le_of_ble_eq_true rfl) (Nat.le_of_ble_eq_true rfl) (Nat.le_of_ble_eq_true rfl) (Nat.le_of_ble_eq_true rfl) ?_
      refine ww_if_eqB (tgt := 39) dX7_offer_22 (by decide) (fun c22 => ?_) (fun c22 => ?_)
      · exact ww_vret dX7_offer_39 rfl ⟨rfl, by first | (rw [ofr_1 (by omega)]; exact hA) | (rw [ofr_2 c12]; exact hA) | (rw [ofr_3 c22]; exact hA), Same.rf⟩
      · refine ww_aload_n dX7_offer_25 rfl rfl ?_
        refine ww_get 1 dX7_offer_26 hK.1 rfl (by decide) inX7 wg_170 hK.2.2.2.1 ?_
        refine ww_iload_n dX7_offer_29 rfl rfl ?_
        refine ww_iload_n dX7_offer_30 rfl rfl ?_
        refine ww_iastF dX7_offer_31 hK.2.1.2.1 rfl (by omega) (by omega) ?_
        refine ww_aload_n dX7_offer_32 rfl rfl ?_
        refine ww_get 2 dX7_offer_33 hK.1 rfl (by decide) inX7 wg_172 hK.2.2.2.2.1 ?_
        refine ww_iload_n dX7_offer_36 rfl rfl ?_
        refine ww_iload_n dX7_offer_37 rfl rfl ?_
        refine ww_iastF dX7_offer_38 hK.2.1.2.2.1 (hp_I_nx (by decide) rfl) (by omega) (by omega) ?_
        exact ww_vret dX7_offer_39 rfl ⟨rfl, by rw [ofr_4 c3 c12 c22]; exact hA.offer, (Same.rf.sI (by exact Or.inl rfl)).sI (by exact Or.inr rfl)⟩
theorem ww_ineg {l : Launch} {Z : EE} {M : MM} {d bc bs pc : Nat} {lv st : List Value} {h : PH} {Post : Res → PH → Prop} {x : Int32} (hd : decode (mm_c M) pc = .ok (.ineg, 1)) (k : WW l Z M d bc bs (pc + 1) lv (.int (-x) :: st) h Post) : WW l Z M d bc bs pc lv (.int x :: st) h Post := by
  intro p e s m args below meth c ws0 mc ms ws H locs cells slots rls rst C S h1 h2
  have C' := C
  obtain ⟨hx, hb, hr, hml, hown, hts, hlocks, htab, hK, hZ, hst, hnm⟩ := C'
  obtain ⟨hHR, hP, hD, hS, hL, hF, hE⟩ := S
  obtain ⟨b0, r0, e0, q0, F1⟩ := hF.c
  subst e0
  cases (show b0 = Value.int x from q0)
  refine lv_ineg hx hb hd ?_
  exact k p e s m args below meth c ws0 mc ms ws H locs cells slots rls _ C ⟨hHR, hP, hD, hS, hL, ⟨rfl, F1⟩, hE⟩ h1 h2
set_option maxHeartbeats 4000000 in
set_option maxRecDepth 100000 in
theorem c_abs {l : Launch} {Z : EE} (hst : l.stackTraces = false) (x : Int32) (h : PH) : CC l Z m_J9_abs_0f7a4 0 0 0 [.int x] h (RT (some (.int (abI x))) h) := by
  refine ee_entryF hst (by decide +kernel) rfl rfl (by simp [Value.category]) (Nat.le_of_ble_eq_true rfl) ?_
  refine ww_lv (lv2 := [.int x]) rfl ?_
  refine ww_iload_n dJ9_abs_0f7a4_0 rfl rfl ?_
  refine ww_if_ge (tgt := 9) dJ9_abs_0f7a4_1 (by decide) (fun c1 => ?_) (fun c1 => ?_)
  · refine ww_iload_n dJ9_abs_0f7a4_9 rfl rfl ?_
    exact ww_iret dJ9_abs_0f7a4_10 rfl ⟨by unfold abI; first | rw [if_pos (Int32.not_le.mp c1)] | rw [if_neg (Int32.not_lt.mpr c1)], rfl⟩
  · refine ww_iload_n dJ9_abs_0f7a4_4 rfl rfl ?_
    refine ww_ineg dJ9_abs_0f7a4_5 ?_
    refine ww_goto (tgt := 10) dJ9_abs_0f7a4_6 (by decide) ?_
    exact ww_iret dJ9_abs_0f7a4_10 rfl ⟨by unfold abI; first | rw [if_pos (Int32.not_le.mp c1)] | rw [if_neg (Int32.not_lt.mpr c1)], rfl⟩
set_option maxHeartbeats 4000000 in
set_option maxRecDepth 100000 in
theorem c_Sp_offerJoined {l : Launch} {Z : EE} (hst : l.stackTraces = false) {h : PH} (hK : SpK h) {x : PQ} {s : Nat → Bool} {D : Nat} (hA : SpA h x s D) (hB : SpB x) (a b : Nat) (ha : a ≤ 60) (hb : b ≤ 60) (C0 L0 : Nat) (hC0 : x.1 a + x.1 b + D = C0) (hL0 : x.2 a + x.2 b = L0) (hC : C0 ≤ 1000000000) (hL : L0 ≤ 2000000) : CC l Z m_X7_offerJoined 2 0 0 [.ref 30, .int (nI a), .int (nI b)] h (RQ none (fun h9 => SpA h9 (ofJ s D x a b) s D ∧ Same SpX SpN h h9)) := by
  refine ee_entry hst (by decide +kernel) rfl rfl (by simp [Value.category]) (Nat.le_of_ble_eq_true rfl) ?_
  refine ww_lv (lv2 := [.ref 30, .int (nI a), .int (nI b), UU, UU]) rfl ?_
  refine ww_aload_n dX7_offerJoined_0 rfl rfl ?_
  refine ww_get 1 dX7_offerJoined_1 hK.1 rfl (by decide) inX7 wg_170 hK.2.2.2.1 ?_
  refine ww_iload_n dX7_offerJoined_4 rfl rfl ?_
  refine ww_ialdF dX7_offerJoined_5 hK.2.1.2.1 rfl (by omega) (by omega) ?_
  refine ww_sk (st2 := [.int (nI (x.1 a))]) (by rw [hA.1 a (by omega)]) ?_
  refine ww_aload_n dX7_offerJoined_6 rfl rfl ?_
  refine ww_get 1 dX7_offerJoined_7 hK.1 rfl (by decide) inX7 wg_170 hK.2.2.2.1 ?_
  refine ww_iload_n dX7_offerJoined_10 rfl rfl ?_
  refine ww_ialdF dX7_offerJoined_11 hK.2.1.2.1 rfl (by omega) (by omega) ?_
  refine ww_sk (st2 := [.int (nI (x.1 b)), .int (nI (x.1 a))]) (by rw [hA.1 b (by omega)]) ?_
  refine ww_iaddN dX7_offerJoined_12 ?_
  refine ww_aload_n dX7_offerJoined_13 rfl rfl ?_
  refine ww_get 5 dX7_offerJoined_14 hK.1 rfl (by decide) inX7 wg_176 hA.2.2.2 ?_
  refine ww_iaddN dX7_offerJoined_17 ?_
  refine ww_sti_n (lv2 := [.ref 30, .int (nI a), .int (nI b), .int (nI (((x.1 a) + (x.1 b)) + D)), UU]) dX7_offerJoined_18 rfl rfl (by decide) rfl ?_
  refine ww_aload_n dX7_offerJoined_19 rfl rfl ?_
  refine ww_get 2 dX7_offerJoined_20 hK.1 rfl (by decide) inX7 wg_172 hK.2.2.2.2.1 ?_
  refine ww_iload_n dX7_offerJoined_23 rfl rfl ?_
  refine ww_ialdF dX7_offerJoined_24 hK.2.1.2.2.1 rfl (by omega) (by omega) ?_
  refine ww_sk (st2 := [.int (nI (x.2 a))]) (by rw [hA.2.1 a (by omega)]) ?_
  refine ww_aload_n dX7_offerJoined_25 rfl rfl ?_
  refine ww_get 2 dX7_offerJoined_26 hK.1 rfl (by decide) inX7 wg_172 hK.2.2.2.2.1 ?_
  refine ww_iload_n dX7_offerJoined_29 rfl rfl ?_
  refine ww_ialdF dX7_offerJoined_30 hK.2.1.2.2.1 rfl (by omega) (by omega) ?_
  refine ww_sk (st2 := [.int (nI (x.2 b)), .int (nI (x.2 a))]) (by rw [hA.2.1 b (by omega)]) ?_
  refine ww_iaddN dX7_offerJoined_31 ?_
  refine ww_sti (lv2 := [.ref 30, .int (nI a), .int (nI b), .int (nI (((x.1 a) + (x.1 b)) + D)), .int (nI ((x.2 a) + (x.2 b)))]) dX7_offerJoined_32 rfl (by decide) rfl ?_
  refine ww_lv (lv2 := [.ref 30, .int (nI a), .int (nI b), .int (nI C0), .int (nI L0)]) (by rw [hC0, hL0]) ?_
  have had := adf_le ha hb
  have hmu : a * b ≤ 60 * 60 := Nat.mul_le_mul ha hb
  refine ww_aload_n dX7_offerJoined_34 rfl rfl ?_
  refine ww_iload_n dX7_offerJoined_35 rfl rfl ?_
  refine ww_iload_n dX7_offerJoined_36 rfl rfl ?_
  refine ww_iaddN dX7_offerJoined_37 ?_
  refine ww_iload_n dX7_offerJoined_38 rfl rfl ?_
  refine ww_iload dX7_offerJoined_39 rfl ?_
  refine ww_cVq0 (M := m_X7_offerJoined) (pc := 41) (st := []) (d := 2) (bc := 0) (bs := 0) (c_Sp_offer hst hK hA hB (a + b) C0 L0 (by omega) (by omega) (by omega)) vv_X7_offer dX7_offerJoined_41 wg_908 hK.1 rfl rfl rfl rfl (Nat.le_of_ble_eq_true rfl) (Nat.le_of_ble_eq_true rfl) (Nat.le_of_ble_eq_true rfl) (Nat.le_of_ble_eq_true rfl) (fun hq1 qq1 => ?_)
  have hk1 := hK.same qq1.2 (fun _ _ e => e)
  have hb1 : SpB (ofr s x (a + b) C0 L0) := ofr_B hB (by omega) (by omega)
  have sm1 := qq1.2
  refine ww_aload_n dX7_offerJoined_44 rfl rfl ?_
  refine ww_iload_n dX7_offerJoined_45 rfl rfl ?_
  refine ww_iload_n dX7_offerJoined_46 rfl rfl ?_
  refine ww_isub dX7_offerJoined_47 ?_
  refine ww_cSr (M := m_X7_offerJoined) (pc := 48) (v := .int (nI (adf a b))) (h1 := hq1) (st := [.ref 30]) (d := 2) (bc := 0) (bs := 0) (by have h9 := c_abs (Z := Z) hst (nI a - nI b) hq1; rw [abI_df ha hb] at h9; exact h9) vv_J9_abs_0f7a4 dX7_offerJoined_48 wg_912 rfl rfl rfl (Nat.le_of_ble_eq_true rfl) (Nat.le_of_ble_eq_true rfl) (Nat.le_of_ble_eq_true rfl) (Nat.le_of_ble_eq_true rfl) ?_
  refine ww_iload_n dX7_offerJoined_51 rfl rfl ?_
  refine ww_iload dX7_offerJoined_52 rfl ?_
  refine ww_cVq0 (M := m_X7_offerJoined) (pc := 54) (st := []) (d := 2) (bc := 0) (bs := 0) (c_Sp_offer hst hk1 qq1.1 hb1 (adf a b) C0 L0 (by omega) (by omega) (by omega)) vv_X7_offer dX7_offerJoined_54 wg_908 hk1.1 rfl rfl rfl rfl (Nat.le_of_ble_eq_true rfl) (Nat.le_of_ble_eq_true rfl) (Nat.le_of_ble_eq_true rfl) (Nat.le_of_ble_eq_true rfl) (fun hq2 qq2 => ?_)
  have hk2 := hk1.same qq2.2 (fun _ _ e => e)
  have hb2 : SpB (ofr s (ofr s x (a + b) C0 L0) (adf a b) C0 L0) := ofr_B hb1 (by omega) (by omega)
  have sm2 := sm1.tr qq2.2
  refine ww_aload_n dX7_offerJoined_57 rfl rfl ?_
  refine ww_iload_n dX7_offerJoined_58 rfl rfl ?_
  refine ww_iload_n dX7_offerJoined_59 rfl rfl ?_
  refine ww_imulN dX7_offerJoined_60 ?_
  refine ww_iload_n dX7_offerJoined_61 rfl rfl ?_
  refine ww_iload dX7_offerJoined_62 rfl ?_
  refine ww_cVq0 (M := m_X7_offerJoined) (pc := 64) (st := []) (d := 2) (bc := 0) (bs := 0) (c_Sp_offer hst hk2 qq2.1 hb2 (a * b) C0 L0 (by omega) (by omega) (by omega)) vv_X7_offer dX7_offerJoined_64 wg_908 hk2.1 rfl rfl rfl rfl (Nat.le_of_ble_eq_true rfl) (Nat.le_of_ble_eq_true rfl) (Nat.le_of_ble_eq_true rfl) (Nat.le_of_ble_eq_true rfl) (fun hq3 qq3 => ?_)
  have hk3 := hk2.same qq3.2 (fun _ _ e => e)
  have hb3 : SpB (ofr s (ofr s (ofr s x (a + b) C0 L0) (adf a b) C0 L0) (a * b) C0 L0) := ofr_B hb2 (by omega) (by omega)
  have sm3 := sm2.tr qq3.2
  exact ww_vret dX7_offerJoined_67 rfl ⟨rfl, by unfold ofJ; rw [hC0, hL0]; exact qq3.1, sm3⟩
def opI : Option Nat → Int32
  | none => -1
  | some n => nI n
theorem lsU_s1 {x : PQ} {s : Nat → Bool} {k : Nat} (h : s k = true) : lsU x s (k + 1) = lsU x s k := by simp only [lsU, h, Bool.not_true, Bool.false_and, Bool.false_eq_true, if_false]
theorem lsU_s2 {x : PQ} {s : Nat → Bool} {k : Nat} (h : spFAR ≤ x.1 k) : lsU x s (k + 1) = lsU x s k := by
  have h9 : ¬ x.1 k < spFAR := by omega
  simp only [lsU, h9, decide_false, Bool.and_false, Bool.false_and, Bool.false_eq_true, if_false]
theorem lsU_n0 {x : PQ} {s : Nat → Bool} {k : Nat} (h1 : s k = false) (h2 : x.1 k < spFAR) (h3 : lsU x s k = none) : lsU x s (k + 1) = some k := by simp only [lsU, h1, h2, h3, Bool.not_false, decide_true, Bool.and_true, if_true]
theorem lsU_n1 {x : PQ} {s : Nat → Bool} {k b : Nat} (h1 : s k = false) (h2 : x.1 k < spFAR) (h3 : lsU x s k = some b) (h4 : isLB x (x.1 k) (x.2 k) b = true) : lsU x s (k + 1) = some k := by simp only [lsU, h1, h2, h3, h4, Bool.not_false, decide_true, Bool.and_true, if_true]
theorem lsU_n2 {x : PQ} {s : Nat → Bool} {k b : Nat} (h3 : lsU x s k = some b) (h4 : isLB x (x.1 k) (x.2 k) b = false) : lsU x s (k + 1) = lsU x s k := by simp only [lsU, h3, h4, Bool.and_false, Bool.false_eq_true, if_false]
set_option maxHeartbeats 4000000 in
set_option maxRecDepth 100000 in
theorem l_Sp_least {l : Launch} {Z : EE} (hst : l.stackTraces = false) {h : PH} (hK : SpK h) {x : PQ} {s : Nat → Bool} {D : Nat} (hA : SpA h x s D) (hB : SpB x) : ∀ (j k : Nat), k + j = 61 → WW l Z m_X7_leastUnsettled 1 0 0 4 [.ref 30, .int (opI (lsU x s k)), .int (nI k)] [] h (RT (some (.int (opI (lsU x s 61)))) h) := by
  intro j
  induction j with
  | zero =>
    intro k hk
    have hk0 : k = 61 := by omega
    subst hk0
    refine ww_iload_n dX7_leastUnsettled_4 rfl rfl ?_
    refine ww_bipush (v := nI 60) dX7_leastUnsettled_5 (by decide) ?_
    refine ww_icmp_gtN (tgt := 63) dX7_leastUnsettled_7 (by decide) (by omega) (by omega) (fun c7 => ?_) (fun c7 => ?_)
    · refine ww_iload_n dX7_leastUnsettled_63 rfl rfl ?_
      exact ww_iret dX7_leastUnsettled_64 rfl ⟨rfl, rfl⟩
    · exfalso; omega
  | succ j ih =>
    intro k hk
    have hb1 := (hB k (by omega)).1
    have hb2 := (hB k (by omega)).2
    rcases hlk : lsU x s k with _ | b
    · show WW l Z m_X7_leastUnsettled 1 0 0 4 [.ref 30, .int (-1), .int (nI k)] [] h _
      refine ww_iload_n dX7_leastUnsettled_4 rfl rfl ?_
      refine ww_bipush (v := nI 60) dX7_leastUnsettled_5 (by decide) ?_
      refine ww_icmp_gtN (tgt := 63) dX7_leastUnsettled_7 (by decide) (by omega) (by omega) (fun c7 => ?_) (fun c7 => ?_)
      · exfalso; omega
      · refine ww_aload_n dX7_leastUnsettled_10 rfl rfl ?_
        refine ww_get 4 dX7_leastUnsettled_11 hK.1 rfl (by decide) inX7 wg_175 hK.2.2.2.2.2.2 ?_
        refine ww_iload_n dX7_leastUnsettled_14 rfl rfl ?_
        refine ww_zaldF dX7_leastUnsettled_15 hK.2.1.2.2.2.2 rfl (by omega) (by omega) ?_
        refine ww_sk (st2 := [.int (bI (s k))]) (by rw [hA.2.2.1 k (by omega)]) ?_
        refine ww_if_neB (tgt := 57) dX7_leastUnsettled_16 (by decide) (fun c16 => ?_) (fun c16 => ?_)
        · refine ww_incN (c := 1) (lv2 := [.ref 30, .int (-1), .int (nI (k + 1))]) dX7_leastUnsettled_57 rfl rfl rfl (by decide) rfl ?_
          refine ww_goto (tgt := 4) dX7_leastUnsettled_60 (by decide) ?_
          have h9 : lsU x s (k + 1) = lsU x s k := by first | exact lsU_s1 c16 | exact lsU_s2 c27 | exact lsU_n2 hlk c52
          have h8 := ih (k + 1) (by omega)
          rw [h9, hlk] at h8
          exact h8
        · refine ww_aload_n dX7_leastUnsettled_19 rfl rfl ?_
          refine ww_get 1 dX7_leastUnsettled_20 hK.1 rfl (by decide) inX7 wg_170 hK.2.2.2.1 ?_
          refine ww_iload_n dX7_leastUnsettled_23 rfl rfl ?_
          refine ww_ialdF dX7_leastUnsettled_24 hK.2.1.2.1 rfl (by omega) (by omega) ?_
          refine ww_sk (st2 := [.int (nI (x.1 k))]) (by rw [hA.1 k (by omega)]) ?_
          refine ww_ldc (v := nI 1000000000) dX7_leastUnsettled_25 wg_899 ?_
          refine ww_icmp_geN (tgt := 57) dX7_leastUnsettled_27 (by decide) (by omega) (by omega) (fun c27 => ?_) (fun c27 => ?_)
          · refine ww_incN (c := 1) (lv2 := [.ref 30, .int (-1), .int (nI (k + 1))]) dX7_leastUnsettled_57 rfl rfl rfl (by decide) rfl ?_
            refine ww_goto (tgt := 4) dX7_leastUnsettled_60 (by decide) ?_
            have h9 : lsU x s (k + 1) = lsU x s k := by first | exact lsU_s1 c16 | exact lsU_s2 c27 | exact lsU_n2 hlk c52
            have h8 := ih (k + 1) (by omega)
            rw [h9, hlk] at h8
            exact h8
          · refine ww_iload_n dX7_leastUnsettled_30 rfl rfl ?_
            refine ww_iconst (v := -1) dX7_leastUnsettled_31 (by decide) ?_
            refine ww_icmp_eq (tgt := 55) dX7_leastUnsettled_32 (by decide) (fun c32 => ?_) (fun c32 => ?_)
            · refine ww_iload_n dX7_leastUnsettled_55 rfl rfl ?_
              refine ww_sti_n (lv2 := [.ref 30, .int (nI k), .int (nI k)]) dX7_leastUnsettled_56 rfl rfl (by decide) rfl ?_
              refine ww_incN (c := 1) (lv2 := [.ref 30, .int (nI k), .int (nI (k + 1))]) dX7_leastUnsettled_57 rfl rfl rfl (by decide) rfl ?_
              refine ww_goto (tgt := 4) dX7_leastUnsettled_60 (by decide) ?_
              have h9 : lsU x s (k + 1) = some k := lsU_n0 c16 c27 hlk
              have h8 := ih (k + 1) (by omega)
              rw [h9] at h8
              exact h8
            · exact absurd rfl c32
    · have hbk : b < k := by
        rcases lsU_ok x s k with ⟨e, -⟩ | ⟨n, e, hn, -⟩
        · rw [hlk] at e; cases e
        · rw [hlk] at e; cases e; exact hn
      show WW l Z m_X7_leastUnsettled 1 0 0 4 [.ref 30, .int (nI b), .int (nI k)] [] h _
      refine ww_iload_n dX7_leastUnsettled_4 rfl rfl ?_
      refine ww_bipush (v := nI 60) dX7_leastUnsettled_5 (by decide) ?_
      refine ww_icmp_gtN (tgt := 63) dX7_leastUnsettled_7 (by decide) (by omega) (by omega) (fun c7 => ?_) (fun c7 => ?_)
      · exfalso; omega
      · refine ww_aload_n dX7_leastUnsettled_10 rfl rfl ?_
        refine ww_get 4 dX7_leastUnsettled_11 hK.1 rfl (by decide) inX7 wg_175 hK.2.2.2.2.2.2 ?_
        refine ww_iload_n dX7_leastUnsettled_14 rfl rfl ?_
        refine ww_zaldF dX7_leastUnsettled_15 hK.2.1.2.2.2.2 rfl (by omega) (by omega) ?_
        refine ww_sk (st2 := [.int (bI (s k))]) (by rw [hA.2.2.1 k (by omega)]) ?_
        refine ww_if_neB (tgt := 57) dX7_leastUnsettled_16 (by decide) (fun c16 => ?_) (fun c16 => ?_)
        · refine ww_incN (c := 1) (lv2 := [.ref 30, .int (nI b), .int (nI (k + 1))]) dX7_leastUnsettled_57 rfl rfl rfl (by decide) rfl ?_
          refine ww_goto (tgt := 4) dX7_leastUnsettled_60 (by decide) ?_
          have h9 : lsU x s (k + 1) = lsU x s k := by first | exact lsU_s1 c16 | exact lsU_s2 c27 | exact lsU_n2 hlk c52
          have h8 := ih (k + 1) (by omega)
          rw [h9, hlk] at h8
          exact h8
        · refine ww_aload_n dX7_leastUnsettled_19 rfl rfl ?_
          refine ww_get 1 dX7_leastUnsettled_20 hK.1 rfl (by decide) inX7 wg_170 hK.2.2.2.1 ?_
          refine ww_iload_n dX7_leastUnsettled_23 rfl rfl ?_
          refine ww_ialdF dX7_leastUnsettled_24 hK.2.1.2.1 rfl (by omega) (by omega) ?_
          refine ww_sk (st2 := [.int (nI (x.1 k))]) (by rw [hA.1 k (by omega)]) ?_
          refine ww_ldc (v := nI 1000000000) dX7_leastUnsettled_25 wg_899 ?_
          refine ww_icmp_geN (tgt := 57) dX7_leastUnsettled_27 (by decide) (by omega) (by omega) (fun c27 => ?_) (fun c27 => ?_)
          · refine ww_incN (c := 1) (lv2 := [.ref 30, .int (nI b), .int (nI (k + 1))]) dX7_leastUnsettled_57 rfl rfl rfl (by decide) rfl ?_
            refine ww_goto (tgt := 4) dX7_leastUnsettled_60 (by decide) ?_
            have h9 : lsU x s (k + 1) = lsU x s k := by first | exact lsU_s1 c16 | exact lsU_s2 c27 | exact lsU_n2 hlk c52
            have h8 := ih (k + 1) (by omega)
            rw [h9, hlk] at h8
            exact h8
          · refine ww_iload_n dX7_leastUnsettled_30 rfl rfl ?_
            refine ww_iconst (v := -1) dX7_leastUnsettled_31 (by decide) ?_
            refine ww_icmp_eq (tgt := 55) dX7_leastUnsettled_32 (by decide) (fun c32 => ?_) (fun c32 => ?_)
            · exact absurd c32 (nI_m1 (by omega))
            · refine ww_aload_n dX7_leastUnsettled_35 rfl rfl ?_
              refine ww_aload_n dX7_leastUnsettled_36 rfl rfl ?_
              refine ww_get 1 dX7_leastUnsettled_37 hK.1 rfl (by decide) inX7 wg_170 hK.2.2.2.1 ?_
              refine ww_iload_n dX7_leastUnsettled_40 rfl rfl ?_
              refine ww_ialdF dX7_leastUnsettled_41 hK.2.1.2.1 rfl (by omega) (by omega) ?_
              refine ww_sk (st2 := [.int (nI (x.1 k)), .ref 30]) (by rw [hA.1 k (by omega)]) ?_
              refine ww_aload_n dX7_leastUnsettled_42 rfl rfl ?_
              refine ww_get 2 dX7_leastUnsettled_43 hK.1 rfl (by decide) inX7 wg_172 hK.2.2.2.2.1 ?_
              refine ww_iload_n dX7_leastUnsettled_46 rfl rfl ?_
              refine ww_ialdF dX7_leastUnsettled_47 hK.2.1.2.2.1 rfl (by omega) (by omega) ?_
              refine ww_sk (st2 := [.int (nI (x.2 k)), .int (nI (x.1 k)), .ref 30]) (by rw [hA.2.1 k (by omega)]) ?_
              refine ww_iload_n dX7_leastUnsettled_48 rfl rfl ?_
              refine ww_cVr (M := m_X7_leastUnsettled) (pc := 49) (v := .int (bI (isLB x (x.1 k) (x.2 k) b))) (h1 := h) (st := []) (d := 1) (bc := 0) (bs := 0) (c_Sp_isLess hst hK hA hB (x.1 k) (x.2 k) b (by omega) (by omega) (by omega)) vv_X7_isLess dX7_leastUnsettled_49 wg_900 hK.1 rfl rfl rfl rfl (Nat.le_of_ble_eq_true rfl) (Nat.le_of_ble_eq_true rfl) (Nat.le_of_ble_eq_true rfl) (Nat.le_of_ble_eq_true rfl) ?_
              refine ww_if_eqB (tgt := 57) dX7_leastUnsettled_52 (by decide) (fun c52 => ?_) (fun c52 => ?_)
              · refine ww_incN (c := 1) (lv2 := [.ref 30, .int (nI b), .int (nI (k + 1))]) dX7_leastUnsettled_57 rfl rfl rfl (by decide) rfl ?_
                refine ww_goto (tgt := 4) dX7_leastUnsettled_60 (by decide) ?_
                have h9 : lsU x s (k + 1) = lsU x s k := by first | exact lsU_s1 c16 | exact lsU_s2 c27 | exact lsU_n2 hlk c52
                have h8 := ih (k + 1) (by omega)
                rw [h9, hlk] at h8
                exact h8
              · refine ww_iload_n dX7_leastUnsettled_55 rfl rfl ?_
                refine ww_sti_n (lv2 := [.ref 30, .int (nI k), .int (nI k)]) dX7_leastUnsettled_56 rfl rfl (by decide) rfl ?_
                refine ww_incN (c := 1) (lv2 := [.ref 30, .int (nI k), .int (nI (k + 1))]) dX7_leastUnsettled_57 rfl rfl rfl (by decide) rfl ?_
                refine ww_goto (tgt := 4) dX7_leastUnsettled_60 (by decide) ?_
                have h9 : lsU x s (k + 1) = some k := lsU_n1 c16 c27 hlk c52
                have h8 := ih (k + 1) (by omega)
                rw [h9] at h8
                exact h8
set_option maxHeartbeats 4000000 in
set_option maxRecDepth 100000 in
theorem c_Sp_least {l : Launch} {Z : EE} (hst : l.stackTraces = false) {h : PH} (hK : SpK h) {x : PQ} {s : Nat → Bool} {D : Nat} (hA : SpA h x s D) (hB : SpB x) : CC l Z m_X7_leastUnsettled 1 0 0 [.ref 30] h (RT (some (.int (opI (lsU x s 61)))) h) := by
  refine ee_entry hst (by decide +kernel) rfl rfl (by simp [Value.category]) (Nat.le_of_ble_eq_true rfl) ?_
  refine ww_lv (lv2 := [.ref 30, UU, UU]) rfl ?_
  refine ww_iconst (v := -1) dX7_leastUnsettled_0 (by decide) ?_
  refine ww_sti_n (lv2 := [.ref 30, .int (-1), UU]) dX7_leastUnsettled_1 rfl rfl (by decide) rfl ?_
  refine ww_iconst (v := nI 0) dX7_leastUnsettled_2 (by decide) ?_
  refine ww_sti_n (lv2 := [.ref 30, .int (-1), .int (nI 0)]) dX7_leastUnsettled_3 rfl rfl (by decide) rfl ?_
  exact l_Sp_least hst hK hA hB 61 0 rfl
