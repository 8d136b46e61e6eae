/-! ===== the class says: prices and leaves of all numbers ===== -/
theorem Same.sp4 {h h' : PH} (hS : Same spX4 SpN h h') : Same CX CY h h' := hS.mono (fun c hc => by rcases hc with rfl | rfl | rfl | rfl <;> decide) (fun _ _ e => e.elim)
def syO (f : Nat → Int32) (sz : Nat) (kf vf : Nat → Int32) (n : Nat) : Nat := fareTn f sz kf vf n 1
def syQ (f : Nat → Int32) (sz : Nat) (kf vf : Nat → Int32) (du : Nat) : PQ := (knS (syO f sz kf vf) du 61).1
theorem syO_le (f : Nat → Int32) (sz : Nat) (kf vf : Nat → Int32) (n : Nat) : syO f sz kf vf n ≤ 99 := (fareTn_ok f sz kf vf n 1).2
theorem sy_B (f : Nat → Int32) (sz : Nat) (kf vf : Nat → Int32) {du : Nat} (hd : du ≤ 20) : knB (syO f sz kf vf) du := by
  refine ⟨fun m hm _ => ?_, fun m _ => ?_, hd⟩
  · have h1 := (kn_fix (own := syO f sz kf vf) (D := du)).ple hm
    have h2 := syO_le f sz kf vf m
    have h3 := say_q (kn_fix (own := syO f sz kf vf) (D := du)) (fun n _ => syO_le f sz kf vf n) hm
    exact ⟨by omega, by omega⟩
  · have h2 := syO_le f sz kf vf m
    omega
theorem syQ_le (f : Nat → Int32) (sz : Nat) (kf vf : Nat → Int32) (du : Nat) {m : Nat} (hm : m ≤ 60) : (syQ f sz kf vf du).1 m ≤ 99 ∧ (syQ f sz kf vf du).2 m < 1000000 := by
  have h1 := (kn_fix (own := syO f sz kf vf) (D := du)).ple hm
  have h2 := syO_le f sz kf vf m
  have h3 := say_q (kn_fix (own := syO f sz kf vf) (D := du)) (fun n _ => syO_le f sz kf vf n) hm
  unfold syQ
  exact ⟨by omega, h3⟩
def ouO (f : Nat → Int32) (n : Nat) : Nat := if f (61 + n) = nI 0 then 0 else spFAR
def ouQ (f : Nat → Int32) : PQ := (knS (ouO f) 1 61).1
theorem ouO_or (f : Nat → Int32) (n : Nat) : ouO f n = 0 ∨ ouO f n = spFAR := by unfold ouO; split; exact Or.inl rfl; exact Or.inr rfl
theorem ou_q {f : Nat → Int32} : ∀ (k n : Nat), n ≤ 60 → (ouQ f).2 n ≤ k → (ouQ f).1 n < spFAR → (ouQ f).2 n ≤ (ouQ f).1 n + 1 := by
  have h : fixC (ouO f) 1 (ouQ f).1 (ouQ f).2 := by unfold ouQ; exact kn_fix
  intro k
  induction k with
  | zero => intro n hn hk hf; have := h.2.2.2 n hn; omega
  | succ k ih =>
    intro n hn hk hf
    rcases h.1 n hn with ⟨e1, e2⟩ | ⟨a, b, ha, hb, hm, fa, fb, e1, e2⟩
    · omega
    · have qa := h.2.2.2 a ha
      have qb := h.2.2.2 b hb
      have := ih a ha (by omega) fa
      have := ih b hb (by omega) fb
      omega
theorem ou_B (f : Nat → Int32) : knB (ouO f) 1 := by
  have h : fixC (ouO f) 1 (ouQ f).1 (ouQ f).2 := by unfold ouQ; exact kn_fix
  refine ⟨fun m hm hf => ?_, fun m _ => ?_, by decide⟩
  · have hf2 : (ouQ f).1 m < spFAR := by unfold ouQ; exact hf
    have h1 := out_q h (fun n _ => ouO_or f n) hm hf2
    have h2 := ou_q _ m hm (Nat.le_refl _) hf2
    unfold ouQ at h1 h2
    exact ⟨by omega, by omega⟩
  · rcases ouO_or f m with e | e
    · omega
    · rw [e]; decide
theorem ouQ_le (f : Nat → Int32) {m : Nat} (hm : m ≤ 60) : (ouQ f).1 m ≤ 1000000000 := by
  have h : fixC (ouO f) 1 (ouQ f).1 (ouQ f).2 := by unfold ouQ; exact kn_fix
  have h1 := h.ple hm
  have h2 := (ou_B f).2.1 m hm
  omega
set_option maxHeartbeats 4000000 in
set_option maxRecDepth 100000 in
theorem c_Sp_say {l : Launch} {Z : EE} (hst : l.stackTraces = false) {h : PH} {la lw bk : Nat} (hC : CL h la lw bk) {np du : Nat} {f : Nat → Int32} (hL : LandAt h la np du f) {sz : Nat} {kf vf : Nat → Int32} (hW : LawAt h lw sz kf vf) (hok : LawOK kf vf sz) : CC l Z m_X7_say 5 0 0 [.ref 30, .ref la, .ref lw] h (RQ none (fun h9 => Same CX CY h h9 ∧ SpA h9 (syQ f sz kf vf du) (knS (syO f sz kf vf) du 61).2.1 du ∧ ∀ i, i ≤ 60 → hp_I h9 31 i = nI (syO f sz kf vf i))) := by
  refine ee_entry hst (by decide +kernel) rfl rfl (by simp [Value.category]) (Nat.le_of_ble_eq_true rfl) ?_
  refine ww_lv (lv2 := [.ref 30, .ref la, .ref lw]) rfl ?_
  have hla := hC.la
  have hlw := hC.lw
  have hbk := hC.bk
  refine ww_aload_n dX7_say_0 rfl rfl ?_
  refine ww_aload_n dX7_say_1 rfl rfl ?_
  refine ww_iconst (v := nI 1) dX7_say_2 (by decide) ?_
  refine ww_aload_n dX7_say_3 rfl rfl ?_
  refine ww_get 0 dX7_say_4 (hC.K30) rfl (by decide) inX7 wg_168 (hC.R30_0) ?_
  refine ww_cVq0 (M := m_X7_say) (pc := 7) (st := []) (d := 5) (bc := 0) (bs := 0) (c_Land_faresT hst hC hL hW hok 31 (by exact hC.K31) (by omega) 1 (by omega)) vv_X2_faresBy dX7_say_7 wg_886 hL.1 rfl rfl rfl rfl (Nat.le_of_ble_eq_true rfl) (Nat.le_of_ble_eq_true rfl) (Nat.le_of_ble_eq_true rfl) (Nat.le_of_ble_eq_true rfl) (fun hq1 qq1 => ?_)
  have s1 : Same CX CY h hq1 := qq1.1.fares (by omega)
  have hC1 := hC.scr s1
  have hL1 := hL.scr hC s1
  have hW1 := hW.scr hC s1
  refine ww_aload_n dX7_say_10 rfl rfl ?_
  refine ww_aload_n dX7_say_11 rfl rfl ?_
  refine ww_getN 2 dX7_say_12 hL1.1 rfl (by decide) inX2 wn_78 hL1.2.2.2.2.1 ?_
  refine ww_pfI tyX7 5 dX7_say_15 (hC1.K30) rfl (by decide) inX7 tyX7_ok nmX7 wg_176 rfl rfl ?_
  refine ww_aload_n dX7_say_18 rfl rfl ?_
  have hK0 : SpK (hp_sF hq1 30 5 (.int (nI du))) := (hC1.scr (Same.rf.sF (show CY _ _ by decide))).sp
  refine ww_cVq0 (M := m_X7_say) (pc := 19) (st := []) (d := 5) (bc := 0) (bs := 0) (c_Sp_settle hst (own := syO f sz kf vf) (D := du) hK0 (sy_B f sz kf vf hL.2.2.2.2.2.2.2) (fun i hi => (qq1.2 i (by omega)).trans (fareTn_ok f sz kf vf i 1).1) (hp_F_eq _ _ _ _)) vv_X7_settleAll dX7_say_19 wg_891 (hC1.K30) rfl rfl rfl rfl (Nat.le_of_ble_eq_true rfl) (Nat.le_of_ble_eq_true rfl) (Nat.le_of_ble_eq_true rfl) (Nat.le_of_ble_eq_true rfl) (fun hr qr => ?_)
  have s9 : Same CX CY h hr := (s1.sF (show CY _ _ by decide)).tr qr.2.2.sp4
  exact ww_vret dX7_say_22 rfl ⟨rfl, s9, (by unfold syQ; exact qr.1), fun i hi => by rw [qr.2.2.2.2.2.1 _ (by unfold spX4; omega)]; exact (qq1.2 i (by omega)).trans (fareTn_ok f sz kf vf i 1).1⟩
set_option maxHeartbeats 4000000 in
set_option maxRecDepth 100000 in
theorem c_K_cost {l : Launch} {Z : EE} (hst : l.stackTraces = false) {h : PH} {la lw bk : Nat} (hC : CL h la lw bk) {np du : Nat} {f : Nat → Int32} (hL : LandAt h la np du f) {sz : Nat} {kf vf : Nat → Int32} (hW : LawAt h lw sz kf vf) (hok : LawOK kf vf sz) (n : Nat) (hn : n ≤ 60) : CC l Z m_X10_cost 6 0 0 [.ref 0, .int (nI n)] h (COk (nI ((syQ f sz kf vf du).1 n)) h) := by
  refine ee_entry hst (by decide +kernel) rfl rfl (by simp [Value.category]) (Nat.le_of_ble_eq_true rfl) ?_
  refine ww_lv (lv2 := [.ref 0, .int (nI n)]) rfl ?_
  have hla := hC.la
  have hlw := hC.lw
  have hbk := hC.bk
  refine ww_aload_n dX10_cost_0 rfl rfl ?_
  refine ww_iload_n dX10_cost_1 rfl rfl ?_
  refine ww_cV0 (M := m_X10_cost) (pc := 2) (h1 := h) (st := []) (d := 6) (bc := 0) (bs := 0) (c_needNumber_t hst hC.K0 n hn) vv_X10_needNumber dX10_cost_2 wg_847 (hC.K0) rfl rfl rfl rfl (Nat.le_of_ble_eq_true rfl) (Nat.le_of_ble_eq_true rfl) (Nat.le_of_ble_eq_true rfl) (Nat.le_of_ble_eq_true rfl) ?_
  refine ww_aload_n dX10_cost_5 rfl rfl ?_
  refine ww_get 15 dX10_cost_6 (hC.K0) rfl (by decide) inX10 wg_279 (hC.R0_15) ?_
  refine ww_aload_n dX10_cost_9 rfl rfl ?_
  refine ww_get 1 dX10_cost_10 (hC.K0) rfl (by decide) inX10 wg_265 hC.D1 ?_
  refine ww_aload_n dX10_cost_13 rfl rfl ?_
  refine ww_get 3 dX10_cost_14 (hC.K0) rfl (by decide) inX10 wg_267 hC.D3 ?_
  refine ww_cVq0 (M := m_X10_cost) (pc := 17) (st := []) (d := 6) (bc := 0) (bs := 0) (c_Sp_say hst hC hL hW hok) vv_X7_say dX10_cost_17 wg_882 (hC.K30) rfl rfl rfl rfl (Nat.le_of_ble_eq_true rfl) (Nat.le_of_ble_eq_true rfl) (Nat.le_of_ble_eq_true rfl) (Nat.le_of_ble_eq_true rfl) (fun hq1 qq1 => ?_)
  have s1 : Same CX CY h hq1 := qq1.1
  have hC1 := hC.scr s1
  refine ww_aload_n dX10_cost_20 rfl rfl ?_
  refine ww_get 15 dX10_cost_21 (hC1.K0) rfl (by decide) inX10 wg_279 (hC1.R0_15) ?_
  refine ww_getN 1 dX10_cost_24 (hC1.K30) rfl (by decide) inX7 wn_171 (hC1.R30_1) ?_
  refine ww_iload_n dX10_cost_27 rfl rfl ?_
  refine ww_ialdF dX10_cost_28 (hC1.K32) rfl (by omega) (by omega) ?_
  refine ww_sk (st2 := [.int (nI (((syQ f sz kf vf du).1 n)))]) (by rw [qq1.2.1.1 n (by omega)]) ?_
  exact ww_iret dX10_cost_29 rfl ⟨rfl, s1⟩
set_option maxHeartbeats 4000000 in
set_option maxRecDepth 100000 in
theorem c_K_cost_no0 {l : Launch} {Z : EE} (hst : l.stackTraces = false) {h : PH} {la lw bk : Nat} (hC : CL h la lw bk) {np du : Nat} {f : Nat → Int32} (hL : LandAt h la np du f) {sz : Nat} {kf vf : Nat → Int32} (hW : LawAt h lw sz kf vf) (hok : LawOK kf vf sz) {mi : Int32} (hmi : hp_F h 0 12 = .int mi) (n : Int32) (hout : outR 0 60 n) : CC l Z m_X10_cost 7 1 6 [.ref 0, .int n] h (TH nsX (hp_sF h 0 12 (.int (mi + nI 1)))) := by
  refine ee_entry hst (by decide +kernel) rfl rfl (by simp [Value.category]) (Nat.le_of_ble_eq_true rfl) ?_
  refine ww_lv (lv2 := [.ref 0, .int n]) rfl ?_
  have hla := hC.la
  have hlw := hC.lw
  have hbk := hC.bk
  refine ww_aload_n dX10_cost_0 rfl rfl ?_
  refine ww_iload_n dX10_cost_1 rfl rfl ?_
  exact ww_cVt (M := m_X10_cost) (pc := 2) (st := []) (d := 7) (bc := 0) (bs := 0) (c_needNumber_f hst hC.K0 hmi n hout) vv_X10_needNumber dX10_cost_2 wg_847 (hC.K0) rfl rfl rfl rfl (Nat.le_of_ble_eq_true rfl) (Nat.le_of_ble_eq_true rfl) (Nat.le_of_ble_eq_true rfl) (Nat.le_of_ble_eq_true rfl) ⟨rfl, rfl⟩
set_option maxHeartbeats 4000000 in
set_option maxRecDepth 100000 in
theorem c_K_leaves {l : Launch} {Z : EE} (hst : l.stackTraces = false) {h : PH} {la lw bk : Nat} (hC : CL h la lw bk) {np du : Nat} {f : Nat → Int32} (hL : LandAt h la np du f) {sz : Nat} {kf vf : Nat → Int32} (hW : LawAt h lw sz kf vf) (hok : LawOK kf vf sz) (n : Nat) (hn : n ≤ 60) : CC l Z m_X10_leaves 6 0 0 [.ref 0, .int (nI n)] h (COk (nI ((syQ f sz kf vf du).2 n)) h) := by
  refine ee_entry hst (by decide +kernel) rfl rfl (by simp [Value.category]) (Nat.le_of_ble_eq_true rfl) ?_
  refine ww_lv (lv2 := [.ref 0, .int (nI n)]) rfl ?_
  have hla := hC.la
  have hlw := hC.lw
  have hbk := hC.bk
  refine ww_aload_n dX10_leaves_0 rfl rfl ?_
  refine ww_iload_n dX10_leaves_1 rfl rfl ?_
  refine ww_cV0 (M := m_X10_leaves) (pc := 2) (h1 := h) (st := []) (d := 6) (bc := 0) (bs := 0) (c_needNumber_t hst hC.K0 n hn) vv_X10_needNumber dX10_leaves_2 wg_847 (hC.K0) rfl rfl rfl rfl (Nat.le_of_ble_eq_true rfl) (Nat.le_of_ble_eq_true rfl) (Nat.le_of_ble_eq_true rfl) (Nat.le_of_ble_eq_true rfl) ?_
  refine ww_aload_n dX10_leaves_5 rfl rfl ?_
  refine ww_get 15 dX10_leaves_6 (hC.K0) rfl (by decide) inX10 wg_279 (hC.R0_15) ?_
  refine ww_aload_n dX10_leaves_9 rfl rfl ?_
  refine ww_get 1 dX10_leaves_10 (hC.K0) rfl (by decide) inX10 wg_265 hC.D1 ?_
  refine ww_aload_n dX10_leaves_13 rfl rfl ?_
  refine ww_get 3 dX10_leaves_14 (hC.K0) rfl (by decide) inX10 wg_267 hC.D3 ?_
  refine ww_cVq0 (M := m_X10_leaves) (pc := 17) (st := []) (d := 6) (bc := 0) (bs := 0) (c_Sp_say hst hC hL hW hok) vv_X7_say dX10_leaves_17 wg_882 (hC.K30) rfl rfl rfl rfl (Nat.le_of_ble_eq_true rfl) (Nat.le_of_ble_eq_true rfl) (Nat.le_of_ble_eq_true rfl) (Nat.le_of_ble_eq_true rfl) (fun hq1 qq1 => ?_)
  have s1 : Same CX CY h hq1 := qq1.1
  have hC1 := hC.scr s1
  refine ww_aload_n dX10_leaves_20 rfl rfl ?_
  refine ww_get 15 dX10_leaves_21 (hC1.K0) rfl (by decide) inX10 wg_279 (hC1.R0_15) ?_
  refine ww_getN 2 dX10_leaves_24 (hC1.K30) rfl (by decide) inX7 wn_173 (hC1.R30_2) ?_
  refine ww_iload_n dX10_leaves_27 rfl rfl ?_
  refine ww_ialdF dX10_leaves_28 (hC1.K33) rfl (by omega) (by omega) ?_
  refine ww_sk (st2 := [.int (nI (((syQ f sz kf vf du).2 n)))]) (by rw [qq1.2.1.2.1 n (by omega)]) ?_
  exact ww_iret dX10_leaves_29 rfl ⟨rfl, s1⟩
set_option maxHeartbeats 4000000 in
set_option maxRecDepth 100000 in
theorem c_K_leaves_no0 {l : Launch} {Z : EE} (hst : l.stackTraces = false) {h : PH} {la lw bk : Nat} (hC : CL h la lw bk) {np du : Nat} {f : Nat → Int32} (hL : LandAt h la np du f) {sz : Nat} {kf vf : Nat → Int32} (hW : LawAt h lw sz kf vf) (hok : LawOK kf vf sz) {mi : Int32} (hmi : hp_F h 0 12 = .int mi) (n : Int32) (hout : outR 0 60 n) : CC l Z m_X10_leaves 7 1 6 [.ref 0, .int n] h (TH nsX (hp_sF h 0 12 (.int (mi + nI 1)))) := by
  refine ee_entry hst (by decide +kernel) rfl rfl (by simp [Value.category]) (Nat.le_of_ble_eq_true rfl) ?_
  refine ww_lv (lv2 := [.ref 0, .int n]) rfl ?_
  have hla := hC.la
  have hlw := hC.lw
  have hbk := hC.bk
  refine ww_aload_n dX10_leaves_0 rfl rfl ?_
  refine ww_iload_n dX10_leaves_1 rfl rfl ?_
  exact ww_cVt (M := m_X10_leaves) (pc := 2) (st := []) (d := 7) (bc := 0) (bs := 0) (c_needNumber_f hst hC.K0 hmi n hout) vv_X10_needNumber dX10_leaves_2 wg_847 (hC.K0) rfl rfl rfl rfl (Nat.le_of_ble_eq_true rfl) (Nat.le_of_ble_eq_true rfl) (Nat.le_of_ble_eq_true rfl) (Nat.le_of_ble_eq_true rfl) ⟨rfl, rfl⟩
set_option maxHeartbeats 4000000 in
set_option maxRecDepth 100000 in
theorem l_K_common0 {l : Launch} {Z : EE} (hst : l.stackTraces = false) {la lw bk : Nat} {f : Nat → Int32} {sz : Nat} {kf vf : Nat → Int32} {du : Nat} {h1 : PH} (hC1 : CL h1 la lw bk) (hr : ∀ i, i ≤ 60 → hp_I h1 31 i = nI ((syO f sz kf vf) i)) (hb : ∀ i, i ≤ 60 → (syO f sz kf vf) i ≤ 99) {Post : Res → PH → Prop} : ∀ (j k : Nat), k + j = 61 → WW l Z m_X10_common 6 0 0 73 [.ref 0, .int (nI 0), .int (nI (cnt (fun i => (syO f sz kf vf) i == 0) 61)), .int (nI 61), UU] [] h1 Post → WW l Z m_X10_common 6 0 0 26 [.ref 0, .int (nI 0), .int (nI (cnt (fun i => (syO f sz kf vf) i == 0) k)), .int (nI k), UU] [] h1 Post := by
  intro j
  induction j with
  | zero =>
    intro k hk hex
    refine ww_iload_n dX10_common_26 rfl rfl ?_
    refine ww_bipush (v := nI 60) dX10_common_27 (by decide) ?_
    refine ww_icmp_gtN (tgt := 73) dX10_common_29 (by decide) (by omega) (by omega) (fun c29 => ?_) (fun c29 => ?_)
    · have hk9 : k = 61 := by omega
      subst hk9
      exact hex
    · exfalso; omega
  | succ j ih =>
    intro k hk hex
    have hcl := cnt_le (fun i => (syO f sz kf vf) i == 0) k
    have hbk9 := hb k (by omega)
    refine ww_iload_n dX10_common_26 rfl rfl ?_
    refine ww_bipush (v := nI 60) dX10_common_27 (by decide) ?_
    refine ww_icmp_gtN (tgt := 73) dX10_common_29 (by decide) (by omega) (by omega) (fun c29 => ?_) (fun c29 => ?_)
    · exfalso; omega
    · refine ww_iload_n dX10_common_32 rfl rfl ?_
      refine ww_if_neN (tgt := 48) dX10_common_33 (by decide) (by omega) (fun c33 => ?_) (fun c33 => ?_)
      · exfalso; omega
      · refine ww_aload_n dX10_common_36 rfl rfl ?_
        refine ww_get 15 dX10_common_37 (hC1.K0) rfl (by decide) inX10 wg_279 (hC1.R0_15) ?_
        refine ww_getN 0 dX10_common_40 (hC1.K30) rfl (by decide) inX7 wn_169 (hC1.R30_0) ?_
        refine ww_iload_n dX10_common_43 rfl rfl ?_
        refine ww_ialdF dX10_common_44 (hC1.K31) rfl (by omega) (by omega) ?_
        refine ww_sk (st2 := [.int (nI ((syO f sz kf vf) k))]) (by rw [hr k (by omega)]) ?_
        refine ww_goto (tgt := 57) dX10_common_45 (by decide) ?_
        refine ww_sti (lv2 := [.ref 0, .int (nI 0), .int (nI (cnt (fun i => (syO f sz kf vf) i == 0) k)), .int (nI k), .int (nI ((syO f sz kf vf) k))]) dX10_common_57 rfl (by decide) rfl ?_
        refine ww_iload dX10_common_59 rfl ?_
        refine ww_if_neN (tgt := 67) dX10_common_61 (by decide) (by omega) (fun c61 => ?_) (fun c61 => ?_)
        · refine ww_incN (c := 1) (lv2 := [.ref 0, .int (nI 0), .int (nI (cnt (fun i => (syO f sz kf vf) i == 0) k)), .int (nI (k + 1)), .int (nI ((syO f sz kf vf) k))]) dX10_common_67 rfl rfl rfl (by decide) rfl ?_
          refine ww_goto (tgt := 26) dX10_common_70 (by decide) ?_
          refine ww_fg (lv2 := [.ref 0, .int (nI 0), .int (nI (cnt (fun i => (syO f sz kf vf) i == 0) k)), .int (nI (k + 1)), UU]) ⟨Or.inr rfl, Or.inr rfl, Or.inr rfl, Or.inr rfl, Or.inl rfl, trivial⟩ ?_
          refine ww_lv (lv2 := [.ref 0, .int (nI 0), .int (nI (cnt (fun i => (syO f sz kf vf) i == 0) (k + 1))), .int (nI (k + 1)), UU]) (by first | (simp [cnt, c61]; done) | simp [cnt, Nat.ne_of_gt c61]) ?_
          exact ih (k + 1) (by omega) hex
        · refine ww_incN (c := 1) (lv2 := [.ref 0, .int (nI 0), .int (nI (cnt (fun i => (syO f sz kf vf) i == 0) k + 1)), .int (nI k), .int (nI ((syO f sz kf vf) k))]) dX10_common_64 rfl rfl rfl (by decide) rfl ?_
          refine ww_incN (c := 1) (lv2 := [.ref 0, .int (nI 0), .int (nI (cnt (fun i => (syO f sz kf vf) i == 0) k + 1)), .int (nI (k + 1)), .int (nI ((syO f sz kf vf) k))]) dX10_common_67 rfl rfl rfl (by decide) rfl ?_
          refine ww_goto (tgt := 26) dX10_common_70 (by decide) ?_
          refine ww_fg (lv2 := [.ref 0, .int (nI 0), .int (nI (cnt (fun i => (syO f sz kf vf) i == 0) k + 1)), .int (nI (k + 1)), UU]) ⟨Or.inr rfl, Or.inr rfl, Or.inr rfl, Or.inr rfl, Or.inl rfl, trivial⟩ ?_
          refine ww_lv (lv2 := [.ref 0, .int (nI 0), .int (nI (cnt (fun i => (syO f sz kf vf) i == 0) (k + 1))), .int (nI (k + 1)), UU]) (by first | (simp [cnt, c61]; done) | simp [cnt, Nat.ne_of_gt c61]) ?_
          exact ih (k + 1) (by omega) hex
set_option maxHeartbeats 4000000 in
set_option maxRecDepth 100000 in
theorem c_K_common0 {l : Launch} {Z : EE} (hst : l.stackTraces = false) {h : PH} {la lw bk : Nat} (hC : CL h la lw bk) {np du : Nat} {f : Nat → Int32} (hL : LandAt h la np du f) {sz : Nat} {kf vf : Nat → Int32} (hW : LawAt h lw sz kf vf) (hok : LawOK kf vf sz) : CC l Z m_X10_common 6 0 0 [.ref 0, .int (nI 0)] h (COk (nI (cnt (fun i => (syO f sz kf vf) i == 0) 61)) h) := by
  refine ee_entry hst (by decide +kernel) rfl rfl (by simp [Value.category]) (Nat.le_of_ble_eq_true rfl) ?_
  refine ww_lv (lv2 := [.ref 0, .int (nI 0), UU, UU, UU]) rfl ?_
  have hla := hC.la
  have hlw := hC.lw
  have hbk := hC.bk
  refine ww_aload_n dX10_common_0 rfl rfl ?_
  refine ww_iload_n dX10_common_1 rfl rfl ?_
  refine ww_iconst (v := nI 0) dX10_common_2 (by decide) ?_
  refine ww_iconst (v := nI 1) dX10_common_3 (by decide) ?_
  refine ww_cV0 (M := m_X10_common) (pc := 4) (h1 := h) (st := []) (d := 6) (bc := 0) (bs := 0) (c_within_t hst (nI 0) (nI 0) (nI 1) (by decide) (by decide) _) vv_X10_within dX10_common_4 wg_410 (hC.K0) rfl rfl rfl rfl (Nat.le_of_ble_eq_true rfl) (Nat.le_of_ble_eq_true rfl) (Nat.le_of_ble_eq_true rfl) (Nat.le_of_ble_eq_true rfl) ?_
  refine ww_aload_n dX10_common_7 rfl rfl ?_
  refine ww_get 15 dX10_common_8 (hC.K0) rfl (by decide) inX10 wg_279 (hC.R0_15) ?_
  refine ww_aload_n dX10_common_11 rfl rfl ?_
  refine ww_get 1 dX10_common_12 (hC.K0) rfl (by decide) inX10 wg_265 hC.D1 ?_
  refine ww_aload_n dX10_common_15 rfl rfl ?_
  refine ww_get 3 dX10_common_16 (hC.K0) rfl (by decide) inX10 wg_267 hC.D3 ?_
  refine ww_cVq0 (M := m_X10_common) (pc := 19) (st := []) (d := 6) (bc := 0) (bs := 0) (c_Sp_say hst hC hL hW hok) vv_X7_say dX10_common_19 wg_882 (hC.K30) rfl rfl rfl rfl (Nat.le_of_ble_eq_true rfl) (Nat.le_of_ble_eq_true rfl) (Nat.le_of_ble_eq_true rfl) (Nat.le_of_ble_eq_true rfl) (fun hq1 qq1 => ?_)
  have s1 : Same CX CY h hq1 := qq1.1
  have hC1 := hC.scr s1
  refine ww_iconst (v := nI 0) dX10_common_22 (by decide) ?_
  refine ww_sti_n (lv2 := [.ref 0, .int (nI 0), .int (nI 0), UU, UU]) dX10_common_23 rfl rfl (by decide) rfl ?_
  refine ww_iconst (v := nI 0) dX10_common_24 (by decide) ?_
  refine ww_sti_n (lv2 := [.ref 0, .int (nI 0), .int (nI 0), .int (nI 0), UU]) dX10_common_25 rfl rfl (by decide) rfl ?_
  refine l_K_common0 hst (du := du) hC1 (fun i hi => qq1.2.2 i (by omega)) (fun i hi => syO_le f sz kf vf i) 61 0 rfl ?_
  refine ww_iload_n dX10_common_73 rfl rfl ?_
  exact ww_iret dX10_common_74 rfl ⟨rfl, s1⟩
set_option maxHeartbeats 4000000 in
set_option maxRecDepth 100000 in
theorem l_K_common1 {l : Launch} {Z : EE} (hst : l.stackTraces = false) {la lw bk : Nat} {f : Nat → Int32} {sz : Nat} {kf vf : Nat → Int32} {du : Nat} {h1 : PH} (hC1 : CL h1 la lw bk) (hr : ∀ i, i ≤ 60 → hp_I h1 32 i = nI (((syQ f sz kf vf du).1) i)) (hb : ∀ i, i ≤ 60 → ((syQ f sz kf vf du).1) i ≤ 99) {Post : Res → PH → Prop} : ∀ (j k : Nat), k + j = 61 → WW l Z m_X10_common 6 0 0 73 [.ref 0, .int (nI 1), .int (nI (cnt (fun i => ((syQ f sz kf vf du).1) i == 0) 61)), .int (nI 61), UU] [] h1 Post → WW l Z m_X10_common 6 0 0 26 [.ref 0, .int (nI 1), .int (nI (cnt (fun i => ((syQ f sz kf vf du).1) i == 0) k)), .int (nI k), UU] [] h1 Post := by
  intro j
  induction j with
  | zero =>
    intro k hk hex
    refine ww_iload_n dX10_common_26 rfl rfl ?_
    refine ww_bipush (v := nI 60) dX10_common_27 (by decide) ?_
    refine ww_icmp_gtN (tgt := 73) dX10_common_29 (by decide) (by omega) (by omega) (fun c29 => ?_) (fun c29 => ?_)
    · have hk9 : k = 61 := by omega
      subst hk9
      exact hex
    · exfalso; omega
  | succ j ih =>
    intro k hk hex
    have hcl := cnt_le (fun i => ((syQ f sz kf vf du).1) i == 0) k
    have hbk9 := hb k (by omega)
    refine ww_iload_n dX10_common_26 rfl rfl ?_
    refine ww_bipush (v := nI 60) dX10_common_27 (by decide) ?_
    refine ww_icmp_gtN (tgt := 73) dX10_common_29 (by decide) (by omega) (by omega) (fun c29 => ?_) (fun c29 => ?_)
    · exfalso; omega
    · refine ww_iload_n dX10_common_32 rfl rfl ?_
      refine ww_if_neN (tgt := 48) dX10_common_33 (by decide) (by omega) (fun c33 => ?_) (fun c33 => ?_)
      · refine ww_aload_n dX10_common_48 rfl rfl ?_
        refine ww_get 15 dX10_common_49 (hC1.K0) rfl (by decide) inX10 wg_279 (hC1.R0_15) ?_
        refine ww_getN 1 dX10_common_52 (hC1.K30) rfl (by decide) inX7 wn_171 (hC1.R30_1) ?_
        refine ww_iload_n dX10_common_55 rfl rfl ?_
        refine ww_ialdF dX10_common_56 (hC1.K32) rfl (by omega) (by omega) ?_
        refine ww_sk (st2 := [.int (nI (((syQ f sz kf vf du).1) k))]) (by rw [hr k (by omega)]) ?_
        refine ww_sti (lv2 := [.ref 0, .int (nI 1), .int (nI (cnt (fun i => ((syQ f sz kf vf du).1) i == 0) k)), .int (nI k), .int (nI (((syQ f sz kf vf du).1) k))]) dX10_common_57 rfl (by decide) rfl ?_
        refine ww_iload dX10_common_59 rfl ?_
        refine ww_if_neN (tgt := 67) dX10_common_61 (by decide) (by omega) (fun c61 => ?_) (fun c61 => ?_)
        · refine ww_incN (c := 1) (lv2 := [.ref 0, .int (nI 1), .int (nI (cnt (fun i => ((syQ f sz kf vf du).1) i == 0) k)), .int (nI (k + 1)), .int (nI (((syQ f sz kf vf du).1) k))]) dX10_common_67 rfl rfl rfl (by decide) rfl ?_
          refine ww_goto (tgt := 26) dX10_common_70 (by decide) ?_
          refine ww_fg (lv2 := [.ref 0, .int (nI 1), .int (nI (cnt (fun i => ((syQ f sz kf vf du).1) i == 0) k)), .int (nI (k + 1)), UU]) ⟨Or.inr rfl, Or.inr rfl, Or.inr rfl, Or.inr rfl, Or.inl rfl, trivial⟩ ?_
          refine ww_lv (lv2 := [.ref 0, .int (nI 1), .int (nI (cnt (fun i => ((syQ f sz kf vf du).1) i == 0) (k + 1))), .int (nI (k + 1)), UU]) (by first | (simp [cnt, c61]; done) | simp [cnt, Nat.ne_of_gt c61]) ?_
          exact ih (k + 1) (by omega) hex
        · refine ww_incN (c := 1) (lv2 := [.ref 0, .int (nI 1), .int (nI (cnt (fun i => ((syQ f sz kf vf du).1) i == 0) k + 1)), .int (nI k), .int (nI (((syQ f sz kf vf du).1) k))]) dX10_common_64 rfl rfl rfl (by decide) rfl ?_
          refine ww_incN (c := 1) (lv2 := [.ref 0, .int (nI 1), .int (nI (cnt (fun i => ((syQ f sz kf vf du).1) i == 0) k + 1)), .int (nI (k + 1)), .int (nI (((syQ f sz kf vf du).1) k))]) dX10_common_67 rfl rfl rfl (by decide) rfl ?_
          refine ww_goto (tgt := 26) dX10_common_70 (by decide) ?_
          refine ww_fg (lv2 := [.ref 0, .int (nI 1), .int (nI (cnt (fun i => ((syQ f sz kf vf du).1) i == 0) k + 1)), .int (nI (k + 1)), UU]) ⟨Or.inr rfl, Or.inr rfl, Or.inr rfl, Or.inr rfl, Or.inl rfl, trivial⟩ ?_
          refine ww_lv (lv2 := [.ref 0, .int (nI 1), .int (nI (cnt (fun i => ((syQ f sz kf vf du).1) i == 0) (k + 1))), .int (nI (k + 1)), UU]) (by first | (simp [cnt, c61]; done) | simp [cnt, Nat.ne_of_gt c61]) ?_
          exact ih (k + 1) (by omega) hex
      · exfalso; omega
set_option maxHeartbeats 4000000 in
set_option maxRecDepth 100000 in
theorem c_K_common1 {l : Launch} {Z : EE} (hst : l.stackTraces = false) {h : PH} {la lw bk : Nat} (hC : CL h la lw bk) {np du : Nat} {f : Nat → Int32} (hL : LandAt h la np du f) {sz : Nat} {kf vf : Nat → Int32} (hW : LawAt h lw sz kf vf) (hok : LawOK kf vf sz) : CC l Z m_X10_common 6 0 0 [.ref 0, .int (nI 1)] h (COk (nI (cnt (fun i => ((syQ f sz kf vf du).1) i == 0) 61)) h) := by
  refine ee_entry hst (by decide +kernel) rfl rfl (by simp [Value.category]) (Nat.le_of_ble_eq_true rfl) ?_
  refine ww_lv (lv2 := [.ref 0, .int (nI 1), UU, UU, UU]) rfl ?_
  have hla := hC.la
  have hlw := hC.lw
  have hbk := hC.bk
  refine ww_aload_n dX10_common_0 rfl rfl ?_
  refine ww_iload_n dX10_common_1 rfl rfl ?_
  refine ww_iconst (v := nI 0) dX10_common_2 (by decide) ?_
  refine ww_iconst (v := nI 1) dX10_common_3 (by decide) ?_
  refine ww_cV0 (M := m_X10_common) (pc := 4) (h1 := h) (st := []) (d := 6) (bc := 0) (bs := 0) (c_within_t hst (nI 1) (nI 0) (nI 1) (by decide) (by decide) _) vv_X10_within dX10_common_4 wg_410 (hC.K0) rfl rfl rfl rfl (Nat.le_of_ble_eq_true rfl) (Nat.le_of_ble_eq_true rfl) (Nat.le_of_ble_eq_true rfl) (Nat.le_of_ble_eq_true rfl) ?_
  refine ww_aload_n dX10_common_7 rfl rfl ?_
  refine ww_get 15 dX10_common_8 (hC.K0) rfl (by decide) inX10 wg_279 (hC.R0_15) ?_
  refine ww_aload_n dX10_common_11 rfl rfl ?_
  refine ww_get 1 dX10_common_12 (hC.K0) rfl (by decide) inX10 wg_265 hC.D1 ?_
  refine ww_aload_n dX10_common_15 rfl rfl ?_
  refine ww_get 3 dX10_common_16 (hC.K0) rfl (by decide) inX10 wg_267 hC.D3 ?_
  refine ww_cVq0 (M := m_X10_common) (pc := 19) (st := []) (d := 6) (bc := 0) (bs := 0) (c_Sp_say hst hC hL hW hok) vv_X7_say dX10_common_19 wg_882 (hC.K30) rfl rfl rfl rfl (Nat.le_of_ble_eq_true rfl) (Nat.le_of_ble_eq_true rfl) (Nat.le_of_ble_eq_true rfl) (Nat.le_of_ble_eq_true rfl) (fun hq1 qq1 => ?_)
  have s1 : Same CX CY h hq1 := qq1.1
  have hC1 := hC.scr s1
  refine ww_iconst (v := nI 0) dX10_common_22 (by decide) ?_
  refine ww_sti_n (lv2 := [.ref 0, .int (nI 1), .int (nI 0), UU, UU]) dX10_common_23 rfl rfl (by decide) rfl ?_
  refine ww_iconst (v := nI 0) dX10_common_24 (by decide) ?_
  refine ww_sti_n (lv2 := [.ref 0, .int (nI 1), .int (nI 0), .int (nI 0), UU]) dX10_common_25 rfl rfl (by decide) rfl ?_
  refine l_K_common1 hst (du := du) hC1 (fun i hi => qq1.2.1.1 i (by omega)) (fun i hi => (syQ_le f sz kf vf du hi).1) 61 0 rfl ?_
  refine ww_iload_n dX10_common_73 rfl rfl ?_
  exact ww_iret dX10_common_74 rfl ⟨rfl, s1⟩
set_option maxHeartbeats 4000000 in
set_option maxRecDepth 100000 in
theorem c_K_common_no0 {l : Launch} {Z : EE} (hst : l.stackTraces = false) {h : PH} {la lw bk : Nat} (hC : CL h la lw bk) {np du : Nat} {f : Nat → Int32} (hL : LandAt h la np du f) {sz : Nat} {kf vf : Nat → Int32} (hW : LawAt h lw sz kf vf) (hok : LawOK kf vf sz) {wr : Int32} (hwr : hp_F h 0 13 = .int wr) (w : Int32) (hout : ¬ (nI 0 ≤ w ∧ w ≤ nI 1)) : CC l Z m_X10_common 7 1 6 [.ref 0, .int w] h (TH iaX (hp_sF h 0 13 (.int (wr + nI 1)))) := by
  refine ee_entry hst (by decide +kernel) rfl rfl (by simp [Value.category]) (Nat.le_of_ble_eq_true rfl) ?_
  refine ww_lv (lv2 := [.ref 0, .int w, UU, UU, UU]) rfl ?_
  have hla := hC.la
  have hlw := hC.lw
  have hbk := hC.bk
  refine ww_aload_n dX10_common_0 rfl rfl ?_
  refine ww_iload_n dX10_common_1 rfl rfl ?_
  refine ww_iconst (v := nI 0) dX10_common_2 (by decide) ?_
  refine ww_iconst (v := nI 1) dX10_common_3 (by decide) ?_
  exact ww_cVt (M := m_X10_common) (pc := 4) (st := []) (d := 7) (bc := 0) (bs := 0) (c_within_f hst hC.K0 hwr w (nI 0) (nI 1) hout) vv_X10_within dX10_common_4 wg_410 (hC.K0) rfl rfl rfl rfl (Nat.le_of_ble_eq_true rfl) (Nat.le_of_ble_eq_true rfl) (Nat.le_of_ble_eq_true rfl) (Nat.le_of_ble_eq_true rfl) ⟨rfl, rfl⟩
set_option maxHeartbeats 4000000 in
set_option maxRecDepth 100000 in
theorem l_K_sayable {l : Launch} {Z : EE} (hst : l.stackTraces = false) {la lw bk : Nat} {f : Nat → Int32} {sz : Nat} {kf vf : Nat → Int32} {du : Nat} {h1 : PH} (hC1 : CL h1 la lw bk) (hr : ∀ i, i ≤ 60 → hp_I h1 32 i = nI ((syQ f sz kf vf du).1 i)) (hb : ∀ i, i ≤ 60 → (syQ f sz kf vf du).1 i ≤ 99) (x : Nat) (hx : x ≤ 99) (w : Int32) {Post : Res → PH → Prop} : ∀ (j k : Nat), k + j = 61 → WW l Z m_X10_sayable 6 0 0 72 [.ref 0, .int (nI x), .int w, .int (nI (cnt (fun i => decide ((syQ f sz kf vf du).1 i ≤ x)) 61)), .int (laI (fun i => decide ((syQ f sz kf vf du).1 i ≤ x)) 61), .int (nI 61)] [] h1 Post → WW l Z m_X10_sayable 6 0 0 38 [.ref 0, .int (nI x), .int w, .int (nI (cnt (fun i => decide ((syQ f sz kf vf du).1 i ≤ x)) k)), .int (laI (fun i => decide ((syQ f sz kf vf du).1 i ≤ x)) k), .int (nI k)] [] h1 Post := by
  intro j
  induction j with
  | zero =>
    intro k hk hex
    refine ww_iload dX10_sayable_38 rfl ?_
    refine ww_bipush (v := nI 60) dX10_sayable_40 (by decide) ?_
    refine ww_icmp_gtN (tgt := 72) dX10_sayable_42 (by decide) (by omega) (by omega) (fun c42 => ?_) (fun c42 => ?_)
    · have hk9 : k = 61 := by omega
      subst hk9
      exact hex
    · exfalso; omega
  | succ j ih =>
    intro k hk hex
    have hcl := cnt_le (fun i => decide ((syQ f sz kf vf du).1 i ≤ x)) k
    have hbk9 := hb k (by omega)
    refine ww_iload dX10_sayable_38 rfl ?_
    refine ww_bipush (v := nI 60) dX10_sayable_40 (by decide) ?_
    refine ww_icmp_gtN (tgt := 72) dX10_sayable_42 (by decide) (by omega) (by omega) (fun c42 => ?_) (fun c42 => ?_)
    · exfalso; omega
    · refine ww_aload_n dX10_sayable_45 rfl rfl ?_
      refine ww_get 15 dX10_sayable_46 (hC1.K0) rfl (by decide) inX10 wg_279 (hC1.R0_15) ?_
      refine ww_getN 1 dX10_sayable_49 (hC1.K30) rfl (by decide) inX7 wn_171 (hC1.R30_1) ?_
      refine ww_iload dX10_sayable_52 rfl ?_
      refine ww_ialdF dX10_sayable_54 (hC1.K32) rfl (by omega) (by omega) ?_
      refine ww_sk (st2 := [.int (nI ((syQ f sz kf vf du).1 k))]) (by rw [hr k (by omega)]) ?_
      refine ww_iload_n dX10_sayable_55 rfl rfl ?_
      refine ww_icmp_gtN (tgt := 66) dX10_sayable_56 (by decide) (by omega) (by omega) (fun c56 => ?_) (fun c56 => ?_)
      · refine ww_incN (c := 1) (lv2 := [.ref 0, .int (nI x), .int w, .int (nI (cnt (fun i => decide ((syQ f sz kf vf du).1 i ≤ x)) k)), .int (laI (fun i => decide ((syQ f sz kf vf du).1 i ≤ x)) k), .int (nI (k + 1))]) dX10_sayable_66 rfl rfl rfl (by decide) rfl ?_
        refine ww_goto (tgt := 38) dX10_sayable_69 (by decide) ?_
        refine ww_lv (lv2 := [.ref 0, .int (nI x), .int w, .int (nI (cnt (fun i => decide ((syQ f sz kf vf du).1 i ≤ x)) (k + 1))), .int (laI (fun i => decide ((syQ f sz kf vf du).1 i ≤ x)) (k + 1)), .int (nI (k + 1))]) (by first | (simp [cnt, laI, c56]; done) | simp [cnt, laI, Nat.not_le.mpr c56]) ?_
        exact ih (k + 1) (by omega) hex
      · refine ww_incN (c := 1) (lv2 := [.ref 0, .int (nI x), .int w, .int (nI (cnt (fun i => decide ((syQ f sz kf vf du).1 i ≤ x)) k + 1)), .int (laI (fun i => decide ((syQ f sz kf vf du).1 i ≤ x)) k), .int (nI k)]) dX10_sayable_59 rfl rfl rfl (by decide) rfl ?_
        refine ww_iload dX10_sayable_62 rfl ?_
        refine ww_sti (lv2 := [.ref 0, .int (nI x), .int w, .int (nI (cnt (fun i => decide ((syQ f sz kf vf du).1 i ≤ x)) k + 1)), .int (nI k), .int (nI k)]) dX10_sayable_64 rfl (by decide) rfl ?_
        refine ww_incN (c := 1) (lv2 := [.ref 0, .int (nI x), .int w, .int (nI (cnt (fun i => decide ((syQ f sz kf vf du).1 i ≤ x)) k + 1)), .int (nI k), .int (nI (k + 1))]) dX10_sayable_66 rfl rfl rfl (by decide) rfl ?_
        refine ww_goto (tgt := 38) dX10_sayable_69 (by decide) ?_
        refine ww_lv (lv2 := [.ref 0, .int (nI x), .int w, .int (nI (cnt (fun i => decide ((syQ f sz kf vf du).1 i ≤ x)) (k + 1))), .int (laI (fun i => decide ((syQ f sz kf vf du).1 i ≤ x)) (k + 1)), .int (nI (k + 1))]) (by first | (simp [cnt, laI, c56]; done) | simp [cnt, laI, Nat.not_le.mpr c56]) ?_
        exact ih (k + 1) (by omega) hex
set_option maxHeartbeats 4000000 in
set_option maxRecDepth 100000 in
theorem c_K_sayable0 {l : Launch} {Z : EE} (hst : l.stackTraces = false) {h : PH} {la lw bk : Nat} (hC : CL h la lw bk) {np du : Nat} {f : Nat → Int32} (hL : LandAt h la np du f) {sz : Nat} {kf vf : Nat → Int32} (hW : LawAt h lw sz kf vf) (hok : LawOK kf vf sz) (x : Nat) (lx : 0 ≤ x) (hx : x ≤ 99) : CC l Z m_X10_sayable 6 0 0 [.ref 0, .int (nI x), .int (nI 0)] h (COk (nI (cnt (fun i => decide ((syQ f sz kf vf du).1 i ≤ x)) 61)) h) := by
  refine ee_entry hst (by decide +kernel) rfl rfl (by simp [Value.category]) (Nat.le_of_ble_eq_true rfl) ?_
  refine ww_lv (lv2 := [.ref 0, .int (nI x), .int (nI 0), UU, UU, UU]) rfl ?_
  have hla := hC.la
  have hlw := hC.lw
  have hbk := hC.bk
  refine ww_aload_n dX10_sayable_0 rfl rfl ?_
  refine ww_iload_n dX10_sayable_1 rfl rfl ?_
  refine ww_iconst (v := nI 0) dX10_sayable_2 (by decide) ?_
  refine ww_bipush (v := nI 99) dX10_sayable_3 (by decide) ?_
  refine ww_cV0 (M := m_X10_sayable) (pc := 5) (h1 := h) (st := []) (d := 6) (bc := 0) (bs := 0) (c_within_t hst (nI x) (nI 0) (nI 99) (nI_le (by omega) (by omega)) (nI_le (by omega) (by omega)) _) vv_X10_within dX10_sayable_5 wg_410 (hC.K0) rfl rfl rfl rfl (Nat.le_of_ble_eq_true rfl) (Nat.le_of_ble_eq_true rfl) (Nat.le_of_ble_eq_true rfl) (Nat.le_of_ble_eq_true rfl) ?_
  refine ww_aload_n dX10_sayable_8 rfl rfl ?_
  refine ww_iload_n dX10_sayable_9 rfl rfl ?_
  refine ww_iconst (v := nI 0) dX10_sayable_10 (by decide) ?_
  refine ww_iconst (v := nI 1) dX10_sayable_11 (by decide) ?_
  refine ww_cV0 (M := m_X10_sayable) (pc := 12) (h1 := h) (st := []) (d := 6) (bc := 0) (bs := 0) (c_within_t hst (nI 0) (nI 0) (nI 1) (by decide) (by decide) _) vv_X10_within dX10_sayable_12 wg_410 (hC.K0) rfl rfl rfl rfl (Nat.le_of_ble_eq_true rfl) (Nat.le_of_ble_eq_true rfl) (Nat.le_of_ble_eq_true rfl) (Nat.le_of_ble_eq_true rfl) ?_
  refine ww_aload_n dX10_sayable_15 rfl rfl ?_
  refine ww_get 15 dX10_sayable_16 (hC.K0) rfl (by decide) inX10 wg_279 (hC.R0_15) ?_
  refine ww_aload_n dX10_sayable_19 rfl rfl ?_
  refine ww_get 1 dX10_sayable_20 (hC.K0) rfl (by decide) inX10 wg_265 hC.D1 ?_
  refine ww_aload_n dX10_sayable_23 rfl rfl ?_
  refine ww_get 3 dX10_sayable_24 (hC.K0) rfl (by decide) inX10 wg_267 hC.D3 ?_
  refine ww_cVq0 (M := m_X10_sayable) (pc := 27) (st := []) (d := 6) (bc := 0) (bs := 0) (c_Sp_say hst hC hL hW hok) vv_X7_say dX10_sayable_27 wg_882 (hC.K30) rfl rfl rfl rfl (Nat.le_of_ble_eq_true rfl) (Nat.le_of_ble_eq_true rfl) (Nat.le_of_ble_eq_true rfl) (Nat.le_of_ble_eq_true rfl) (fun hq1 qq1 => ?_)
  have s1 : Same CX CY h hq1 := qq1.1
  have hC1 := hC.scr s1
  refine ww_iconst (v := nI 0) dX10_sayable_30 (by decide) ?_
  refine ww_sti_n (lv2 := [.ref 0, .int (nI x), .int (nI 0), .int (nI 0), UU, UU]) dX10_sayable_31 rfl rfl (by decide) rfl ?_
  refine ww_iconst (v := -1) dX10_sayable_32 (by decide) ?_
  refine ww_sti (lv2 := [.ref 0, .int (nI x), .int (nI 0), .int (nI 0), .int (-1), UU]) dX10_sayable_33 rfl (by decide) rfl ?_
  refine ww_iconst (v := nI 0) dX10_sayable_35 (by decide) ?_
  refine ww_sti (lv2 := [.ref 0, .int (nI x), .int (nI 0), .int (nI 0), .int (-1), .int (nI 0)]) dX10_sayable_36 rfl (by decide) rfl ?_
  refine ww_lv (lv2 := [.ref 0, .int (nI x), .int (nI 0), .int (nI (cnt (fun i => decide ((syQ f sz kf vf du).1 i ≤ x)) 0)), .int (laI (fun i => decide ((syQ f sz kf vf du).1 i ≤ x)) 0), .int (nI 0)]) rfl ?_
  refine l_K_sayable hst hC1 (fun i hi => qq1.2.1.1 i (by omega)) (fun i hi => (syQ_le f sz kf vf du hi).1) x hx (nI 0) 61 0 rfl ?_
  refine ww_iload_n dX10_sayable_72 rfl rfl ?_
  refine ww_if_neN (tgt := 80) dX10_sayable_73 (by decide) (by omega) (fun c73 => ?_) (fun c73 => ?_)
  · exfalso; omega
  · refine ww_iload_n dX10_sayable_76 rfl rfl ?_
    refine ww_goto (tgt := 82) dX10_sayable_77 (by decide) ?_
    exact ww_iret dX10_sayable_82 rfl ⟨rfl, s1⟩
set_option maxHeartbeats 4000000 in
set_option maxRecDepth 100000 in
theorem c_K_sayable1 {l : Launch} {Z : EE} (hst : l.stackTraces = false) {h : PH} {la lw bk : Nat} (hC : CL h la lw bk) {np du : Nat} {f : Nat → Int32} (hL : LandAt h la np du f) {sz : Nat} {kf vf : Nat → Int32} (hW : LawAt h lw sz kf vf) (hok : LawOK kf vf sz) (x : Nat) (lx : 0 ≤ x) (hx : x ≤ 99) : CC l Z m_X10_sayable 6 0 0 [.ref 0, .int (nI x), .int (nI 1)] h (COk (laI (fun i => decide ((syQ f sz kf vf du).1 i ≤ x)) 61) h) := by
  refine ee_entry hst (by decide +kernel) rfl rfl (by simp [Value.category]) (Nat.le_of_ble_eq_true rfl) ?_
  refine ww_lv (lv2 := [.ref 0, .int (nI x), .int (nI 1), UU, UU, UU]) rfl ?_
  have hla := hC.la
  have hlw := hC.lw
  have hbk := hC.bk
  refine ww_aload_n dX10_sayable_0 rfl rfl ?_
  refine ww_iload_n dX10_sayable_1 rfl rfl ?_
  refine ww_iconst (v := nI 0) dX10_sayable_2 (by decide) ?_
  refine ww_bipush (v := nI 99) dX10_sayable_3 (by decide) ?_
  refine ww_cV0 (M := m_X10_sayable) (pc := 5) (h1 := h) (st := []) (d := 6) (bc := 0) (bs := 0) (c_within_t hst (nI x) (nI 0) (nI 99) (nI_le (by omega) (by omega)) (nI_le (by omega) (by omega)) _) vv_X10_within dX10_sayable_5 wg_410 (hC.K0) rfl rfl rfl rfl (Nat.le_of_ble_eq_true rfl) (Nat.le_of_ble_eq_true rfl) (Nat.le_of_ble_eq_true rfl) (Nat.le_of_ble_eq_true rfl) ?_
  refine ww_aload_n dX10_sayable_8 rfl rfl ?_
  refine ww_iload_n dX10_sayable_9 rfl rfl ?_
  refine ww_iconst (v := nI 0) dX10_sayable_10 (by decide) ?_
  refine ww_iconst (v := nI 1) dX10_sayable_11 (by decide) ?_
  refine ww_cV0 (M := m_X10_sayable) (pc := 12) (h1 := h) (st := []) (d := 6) (bc := 0) (bs := 0) (c_within_t hst (nI 1) (nI 0) (nI 1) (by decide) (by decide) _) vv_X10_within dX10_sayable_12 wg_410 (hC.K0) rfl rfl rfl rfl (Nat.le_of_ble_eq_true rfl) (Nat.le_of_ble_eq_true rfl) (Nat.le_of_ble_eq_true rfl) (Nat.le_of_ble_eq_true rfl) ?_
  refine ww_aload_n dX10_sayable_15 rfl rfl ?_
  refine ww_get 15 dX10_sayable_16 (hC.K0) rfl (by decide) inX10 wg_279 (hC.R0_15) ?_
  refine ww_aload_n dX10_sayable_19 rfl rfl ?_
  refine ww_get 1 dX10_sayable_20 (hC.K0) rfl (by decide) inX10 wg_265 hC.D1 ?_
  refine ww_aload_n dX10_sayable_23 rfl rfl ?_
  refine ww_get 3 dX10_sayable_24 (hC.K0) rfl (by decide) inX10 wg_267 hC.D3 ?_
  refine ww_cVq0 (M := m_X10_sayable) (pc := 27) (st := []) (d := 6) (bc := 0) (bs := 0) (c_Sp_say hst hC hL hW hok) vv_X7_say dX10_sayable_27 wg_882 (hC.K30) rfl rfl rfl rfl (Nat.le_of_ble_eq_true rfl) (Nat.le_of_ble_eq_true rfl) (Nat.le_of_ble_eq_true rfl) (Nat.le_of_ble_eq_true rfl) (fun hq1 qq1 => ?_)
  have s1 : Same CX CY h hq1 := qq1.1
  have hC1 := hC.scr s1
  refine ww_iconst (v := nI 0) dX10_sayable_30 (by decide) ?_
  refine ww_sti_n (lv2 := [.ref 0, .int (nI x), .int (nI 1), .int (nI 0), UU, UU]) dX10_sayable_31 rfl rfl (by decide) rfl ?_
  refine ww_iconst (v := -1) dX10_sayable_32 (by decide) ?_
  refine ww_sti (lv2 := [.ref 0, .int (nI x), .int (nI 1), .int (nI 0), .int (-1), UU]) dX10_sayable_33 rfl (by decide) rfl ?_
  refine ww_iconst (v := nI 0) dX10_sayable_35 (by decide) ?_
  refine ww_sti (lv2 := [.ref 0, .int (nI x), .int (nI 1), .int (nI 0), .int (-1), .int (nI 0)]) dX10_sayable_36 rfl (by decide) rfl ?_
  refine ww_lv (lv2 := [.ref 0, .int (nI x), .int (nI 1), .int (nI (cnt (fun i => decide ((syQ f sz kf vf du).1 i ≤ x)) 0)), .int (laI (fun i => decide ((syQ f sz kf vf du).1 i ≤ x)) 0), .int (nI 0)]) rfl ?_
  refine l_K_sayable hst hC1 (fun i hi => qq1.2.1.1 i (by omega)) (fun i hi => (syQ_le f sz kf vf du hi).1) x hx (nI 1) 61 0 rfl ?_
  refine ww_iload_n dX10_sayable_72 rfl rfl ?_
  refine ww_if_neN (tgt := 80) dX10_sayable_73 (by decide) (by omega) (fun c73 => ?_) (fun c73 => ?_)
  · refine ww_iload dX10_sayable_80 rfl ?_
    exact ww_iret dX10_sayable_82 rfl ⟨rfl, s1⟩
  · exfalso; omega
set_option maxHeartbeats 4000000 in
set_option maxRecDepth 100000 in
theorem c_K_sayable_no0 {l : Launch} {Z : EE} (hst : l.stackTraces = false) {h : PH} {la lw bk : Nat} (hC : CL h la lw bk) {np du : Nat} {f : Nat → Int32} (hL : LandAt h la np du f) {sz : Nat} {kf vf : Nat → Int32} (hW : LawAt h lw sz kf vf) (hok : LawOK kf vf sz) {wr : Int32} (hwr : hp_F h 0 13 = .int wr) (x : Int32) (w : Int32) (hout : ¬ (nI 0 ≤ x ∧ x ≤ nI 99)) : CC l Z m_X10_sayable 7 1 6 [.ref 0, .int x, .int w] h (TH iaX (hp_sF h 0 13 (.int (wr + nI 1)))) := by
  refine ee_entry hst (by decide +kernel) rfl rfl (by simp [Value.category]) (Nat.le_of_ble_eq_true rfl) ?_
  refine ww_lv (lv2 := [.ref 0, .int x, .int w, UU, UU, UU]) rfl ?_
  have hla := hC.la
  have hlw := hC.lw
  have hbk := hC.bk
  refine ww_aload_n dX10_sayable_0 rfl rfl ?_
  refine ww_iload_n dX10_sayable_1 rfl rfl ?_
  refine ww_iconst (v := nI 0) dX10_sayable_2 (by decide) ?_
  refine ww_bipush (v := nI 99) dX10_sayable_3 (by decide) ?_
  exact ww_cVt (M := m_X10_sayable) (pc := 5) (st := []) (d := 7) (bc := 0) (bs := 0) (c_within_f hst hC.K0 hwr x (nI 0) (nI 99) hout) vv_X10_within dX10_sayable_5 wg_410 (hC.K0) rfl rfl rfl rfl (Nat.le_of_ble_eq_true rfl) (Nat.le_of_ble_eq_true rfl) (Nat.le_of_ble_eq_true rfl) (Nat.le_of_ble_eq_true rfl) ⟨rfl, rfl⟩
set_option maxHeartbeats 4000000 in
set_option maxRecDepth 100000 in
theorem c_K_sayable_no1 {l : Launch} {Z : EE} (hst : l.stackTraces = false) {h : PH} {la lw bk : Nat} (hC : CL h la lw bk) {np du : Nat} {f : Nat → Int32} (hL : LandAt h la np du f) {sz : Nat} {kf vf : Nat → Int32} (hW : LawAt h lw sz kf vf) (hok : LawOK kf vf sz) {wr : Int32} (hwr : hp_F h 0 13 = .int wr) (x : Nat) (lx : 0 ≤ x) (hx : x ≤ 99) (w : Int32) (hout : ¬ (nI 0 ≤ w ∧ w ≤ nI 1)) : CC l Z m_X10_sayable 7 1 6 [.ref 0, .int (nI x), .int w] h (TH iaX (hp_sF h 0 13 (.int (wr + nI 1)))) := by
  refine ee_entry hst (by decide +kernel) rfl rfl (by simp [Value.category]) (Nat.le_of_ble_eq_true rfl) ?_
  refine ww_lv (lv2 := [.ref 0, .int (nI x), .int w, UU, UU, UU]) rfl ?_
  have hla := hC.la
  have hlw := hC.lw
  have hbk := hC.bk
  refine ww_aload_n dX10_sayable_0 rfl rfl ?_
  refine ww_iload_n dX10_sayable_1 rfl rfl ?_
  refine ww_iconst (v := nI 0) dX10_sayable_2 (by decide) ?_
  refine ww_bipush (v := nI 99) dX10_sayable_3 (by decide) ?_
  refine ww_cV0 (M := m_X10_sayable) (pc := 5) (h1 := h) (st := []) (d := 7) (bc := 1) (bs := 6) (c_within_t hst (nI x) (nI 0) (nI 99) (nI_le (by omega) (by omega)) (nI_le (by omega) (by omega)) _) vv_X10_within dX10_sayable_5 wg_410 (hC.K0) rfl rfl rfl rfl (Nat.le_of_ble_eq_true rfl) (Nat.le_of_ble_eq_true rfl) (Nat.le_of_ble_eq_true rfl) (Nat.le_of_ble_eq_true rfl) ?_
  refine ww_aload_n dX10_sayable_8 rfl rfl ?_
  refine ww_iload_n dX10_sayable_9 rfl rfl ?_
  refine ww_iconst (v := nI 0) dX10_sayable_10 (by decide) ?_
  refine ww_iconst (v := nI 1) dX10_sayable_11 (by decide) ?_
  exact ww_cVt (M := m_X10_sayable) (pc := 12) (st := []) (d := 7) (bc := 0) (bs := 0) (c_within_f hst hC.K0 hwr w (nI 0) (nI 1) hout) vv_X10_within dX10_sayable_12 wg_410 (hC.K0) rfl rfl rfl rfl (Nat.le_of_ble_eq_true rfl) (Nat.le_of_ble_eq_true rfl) (Nat.le_of_ble_eq_true rfl) (Nat.le_of_ble_eq_true rfl) ⟨rfl, rfl⟩
set_option maxHeartbeats 4000000 in
set_option maxRecDepth 100000 in
theorem l_Sp_reach {l : Launch} {Z : EE} (hst : l.stackTraces = false) {h : PH} {la lw bk : Nat} (hC : CL h la lw bk) {np du : Nat} {f : Nat → Int32} (hL : LandAt h la np du f) : ∀ (j k : Nat) (hq9 : PH), k + j = 61 → Same CX CY h hq9 → (∀ i, i < k → hp_I hq9 31 i = nI (ouO f i)) → WW l Z m_X7_reachFromFree 4 0 0 2 [.ref 30, .ref la, .int (nI k)] [] hq9 (RQ none (fun h9 => Same CX CY h h9 ∧ SpA h9 (ouQ f) (knS (ouO f) 1 61).2.1 1)) := by
  intro j
  induction j with
  | zero =>
    intro k hq9 hk s9 hr
    have hk9 : k = 61 := by omega
    subst hk9
    have hC9 := hC.scr s9
    have hL9 := hL.scr hC s9
    have hla := hC.la
    have hlw := hC.lw
    have hbk := hC.bk
    refine ww_iload_n dX7_reachFromFree_2 rfl rfl ?_
    refine ww_bipush (v := nI 60) dX7_reachFromFree_3 (by decide) ?_
    refine ww_icmp_gtN (tgt := 34) dX7_reachFromFree_5 (by decide) (by omega) (by omega) (fun c5 => ?_) (fun c5 => ?_)
    · refine ww_aload_n dX7_reachFromFree_34 rfl rfl ?_
      refine ww_iconst (v := nI 1) dX7_reachFromFree_35 (by decide) ?_
      refine ww_pfI tyX7 5 dX7_reachFromFree_36 (hC9.K30) rfl (by decide) inX7 tyX7_ok nmX7 wg_176 rfl rfl ?_
      refine ww_aload_n dX7_reachFromFree_39 rfl rfl ?_
      have hK0 : SpK (hp_sF hq9 30 5 (.int (nI 1))) := (hC9.scr (Same.rf.sF (show CY _ _ by decide))).sp
      refine ww_cVq0 (M := m_X7_reachFromFree) (pc := 40) (st := []) (d := 4) (bc := 0) (bs := 0) (c_Sp_settle hst (own := ouO f) (D := 1) hK0 (ou_B f) hr (hp_F_eq _ _ _ _)) vv_X7_settleAll dX7_reachFromFree_40 wg_891 (hC9.K30) rfl rfl rfl rfl (Nat.le_of_ble_eq_true rfl) (Nat.le_of_ble_eq_true rfl) (Nat.le_of_ble_eq_true rfl) (Nat.le_of_ble_eq_true rfl) (fun hr8 q8 => ?_)
      have s8 : Same CX CY h hr8 := (s9.sF (show CY _ _ by decide)).tr q8.2.2.sp4
      exact ww_vret dX7_reachFromFree_43 rfl ⟨rfl, s8, (by unfold ouQ; exact q8.1)⟩
    · exfalso; omega
  | succ j ih =>
    intro k hq9 hk s9 hr
    have hC9 := hC.scr s9
    have hL9 := hL.scr hC s9
    have hla := hC.la
    have hlw := hC.lw
    have hbk := hC.bk
    refine ww_iload_n dX7_reachFromFree_2 rfl rfl ?_
    refine ww_bipush (v := nI 60) dX7_reachFromFree_3 (by decide) ?_
    refine ww_icmp_gtN (tgt := 34) dX7_reachFromFree_5 (by decide) (by omega) (by omega) (fun c5 => ?_) (fun c5 => ?_)
    · exfalso; omega
    · refine ww_aload_n dX7_reachFromFree_8 rfl rfl ?_
      refine ww_get 0 dX7_reachFromFree_9 (hC9.K30) rfl (by decide) inX7 wg_168 (hC9.R30_0) ?_
      refine ww_iload_n dX7_reachFromFree_12 rfl rfl ?_
      refine ww_aload_n dX7_reachFromFree_13 rfl rfl ?_
      refine ww_iload_n dX7_reachFromFree_14 rfl rfl ?_
      refine ww_cVr (M := m_X7_reachFromFree) (pc := 15) (v := .int (f (61 + k))) (h1 := hq9) (st := [.int (nI k), .ref 31]) (d := 4) (bc := 0) (bs := 0) (c_Land_rent hst hL9 k (by omega)) vv_X2_rent dX7_reachFromFree_15 wg_960 hL9.1 rfl rfl rfl rfl (Nat.le_of_ble_eq_true rfl) (Nat.le_of_ble_eq_true rfl) (Nat.le_of_ble_eq_true rfl) (Nat.le_of_ble_eq_true rfl) ?_
      refine ww_if_ne (tgt := 25) dX7_reachFromFree_18 (by decide) (fun c18 => ?_) (fun c18 => ?_)
      · refine ww_ldc (v := nI 1000000000) dX7_reachFromFree_25 wg_899 ?_
        refine ww_sk (st2 := [.int (nI (ouO f k)), .int (nI k), .ref 31]) (by simp [ouO, spFAR, nI_0, c18]) ?_
        refine ww_iastF dX7_reachFromFree_27 (hC9.K31) rfl (by omega) (by omega) ?_
        refine ww_incN (c := 1) (lv2 := [.ref 30, .ref la, .int (nI (k + 1))]) dX7_reachFromFree_28 rfl rfl rfl (by decide) rfl ?_
        refine ww_goto (tgt := 2) dX7_reachFromFree_31 (by decide) ?_
        refine ih (k + 1) _ (by omega) (s9.sI (show CX _ by decide)) (fun i hi => ?_)
        rw [hp_I_eq]
        by_cases e : i = k
        · rw [e, pk_us]
        · rw [pk_un e]; exact hr i (by omega)
      · refine ww_iconst (v := nI 0) dX7_reachFromFree_21 (by decide) ?_
        refine ww_goto (tgt := 27) dX7_reachFromFree_22 (by decide) ?_
        refine ww_sk (st2 := [.int (nI (ouO f k)), .int (nI k), .ref 31]) (by simp [ouO, spFAR, nI_0, c18]) ?_
        refine ww_iastF dX7_reachFromFree_27 (hC9.K31) rfl (by omega) (by omega) ?_
        refine ww_incN (c := 1) (lv2 := [.ref 30, .ref la, .int (nI (k + 1))]) dX7_reachFromFree_28 rfl rfl rfl (by decide) rfl ?_
        refine ww_goto (tgt := 2) dX7_reachFromFree_31 (by decide) ?_
        refine ih (k + 1) _ (by omega) (s9.sI (show CX _ by decide)) (fun i hi => ?_)
        rw [hp_I_eq]
        by_cases e : i = k
        · rw [e, pk_us]
        · rw [pk_un e]; exact hr i (by omega)
set_option maxHeartbeats 4000000 in
set_option maxRecDepth 100000 in
theorem c_Sp_reach {l : Launch} {Z : EE} (hst : l.stackTraces = false) {h : PH} {la lw bk : Nat} (hC : CL h la lw bk) {np du : Nat} {f : Nat → Int32} (hL : LandAt h la np du f) : CC l Z m_X7_reachFromFree 4 0 0 [.ref 30, .ref la] h (RQ none (fun h9 => Same CX CY h h9 ∧ SpA h9 (ouQ f) (knS (ouO f) 1 61).2.1 1)) := by
  refine ee_entry hst (by decide +kernel) rfl rfl (by simp [Value.category]) (Nat.le_of_ble_eq_true rfl) ?_
  refine ww_lv (lv2 := [.ref 30, .ref la, UU]) rfl ?_
  refine ww_iconst (v := nI 0) dX7_reachFromFree_0 (by decide) ?_
  refine ww_sti_n (lv2 := [.ref 30, .ref la, .int (nI 0)]) dX7_reachFromFree_1 rfl rfl (by decide) rfl ?_
  exact l_Sp_reach hst hC hL 61 0 h rfl Same.rf (fun i hi => absurd hi (Nat.not_lt_zero i))
set_option maxHeartbeats 4000000 in
set_option maxRecDepth 100000 in
theorem c_K_out {l : Launch} {Z : EE} (hst : l.stackTraces = false) {h : PH} {la lw bk : Nat} (hC : CL h la lw bk) {np du : Nat} {f : Nat → Int32} (hL : LandAt h la np du f) (n : Nat) (hn : n ≤ 60) : CC l Z m_X10_out 6 0 0 [.ref 0, .int (nI n)] h (COk (if (ouQ f).1 n = spFAR then -1 else nI ((ouQ f).1 n)) h) := by
  refine ee_entry hst (by decide +kernel) rfl rfl (by simp [Value.category]) (Nat.le_of_ble_eq_true rfl) ?_
  refine ww_lv (lv2 := [.ref 0, .int (nI n)]) rfl ?_
  have hla := hC.la
  have hlw := hC.lw
  have hbk := hC.bk
  have hle9 := ouQ_le f hn
  refine ww_aload_n dX10_out_0 rfl rfl ?_
  refine ww_iload_n dX10_out_1 rfl rfl ?_
  refine ww_cV0 (M := m_X10_out) (pc := 2) (h1 := h) (st := []) (d := 6) (bc := 0) (bs := 0) (c_needNumber_t hst hC.K0 n hn) vv_X10_needNumber dX10_out_2 wg_847 (hC.K0) rfl rfl rfl rfl (Nat.le_of_ble_eq_true rfl) (Nat.le_of_ble_eq_true rfl) (Nat.le_of_ble_eq_true rfl) (Nat.le_of_ble_eq_true rfl) ?_
  refine ww_aload_n dX10_out_5 rfl rfl ?_
  refine ww_get 15 dX10_out_6 (hC.K0) rfl (by decide) inX10 wg_279 (hC.R0_15) ?_
  refine ww_aload_n dX10_out_9 rfl rfl ?_
  refine ww_get 1 dX10_out_10 (hC.K0) rfl (by decide) inX10 wg_265 hC.D1 ?_
  refine ww_cVq0 (M := m_X10_out) (pc := 13) (st := []) (d := 6) (bc := 0) (bs := 0) (c_Sp_reach hst hC hL) vv_X7_reachFromFree dX10_out_13 wg_956 (hC.K30) rfl rfl rfl rfl (Nat.le_of_ble_eq_true rfl) (Nat.le_of_ble_eq_true rfl) (Nat.le_of_ble_eq_true rfl) (Nat.le_of_ble_eq_true rfl) (fun hq1 qq1 => ?_)
  have s1 : Same CX CY h hq1 := qq1.1
  have hC1 := hC.scr s1
  refine ww_aload_n dX10_out_16 rfl rfl ?_
  refine ww_get 15 dX10_out_17 (hC1.K0) rfl (by decide) inX10 wg_279 (hC1.R0_15) ?_
  refine ww_getN 1 dX10_out_20 (hC1.K30) rfl (by decide) inX7 wn_171 (hC1.R30_1) ?_
  refine ww_iload_n dX10_out_23 rfl rfl ?_
  refine ww_ialdF dX10_out_24 (hC1.K32) rfl (by omega) (by omega) ?_
  refine ww_sk (st2 := [.int (nI ((ouQ f).1 n))]) (by rw [qq1.2.1 n (by omega)]) ?_
  refine ww_ldcw (v := nI 1000000000) dX10_out_25 wg_961 ?_
  refine ww_icmp_neN (tgt := 35) dX10_out_28 (by decide) (by omega) (by omega) (fun c28 => ?_) (fun c28 => ?_)
  · refine ww_aload_n dX10_out_35 rfl rfl ?_
    refine ww_get 15 dX10_out_36 (hC1.K0) rfl (by decide) inX10 wg_279 (hC1.R0_15) ?_
    refine ww_getN 1 dX10_out_39 (hC1.K30) rfl (by decide) inX7 wn_171 (hC1.R30_1) ?_
    refine ww_iload_n dX10_out_42 rfl rfl ?_
    refine ww_ialdF dX10_out_43 (hC1.K32) rfl (by omega) (by omega) ?_
    refine ww_sk (st2 := [.int (nI ((ouQ f).1 n))]) (by rw [qq1.2.1 n (by omega)]) ?_
    exact ww_iret dX10_out_44 rfl ⟨by simp [spFAR, c28], s1⟩
  · refine ww_iconst (v := -1) dX10_out_31 (by decide) ?_
    refine ww_goto (tgt := 44) dX10_out_32 (by decide) ?_
    exact ww_iret dX10_out_44 rfl ⟨by simp [spFAR, c28], s1⟩
set_option maxHeartbeats 4000000 in
set_option maxRecDepth 100000 in
theorem c_K_out_no0 {l : Launch} {Z : EE} (hst : l.stackTraces = false) {h : PH} {la lw bk : Nat} (hC : CL h la lw bk) {np du : Nat} {f : Nat → Int32} (hL : LandAt h la np du f) {mi : Int32} (hmi : hp_F h 0 12 = .int mi) (n : Int32) (hout : outR 0 60 n) : CC l Z m_X10_out 7 1 6 [.ref 0, .int n] h (TH nsX (hp_sF h 0 12 (.int (mi + nI 1)))) := by
  refine ee_entry hst (by decide +kernel) rfl rfl (by simp [Value.category]) (Nat.le_of_ble_eq_true rfl) ?_
  refine ww_lv (lv2 := [.ref 0, .int n]) rfl ?_
  have hla := hC.la
  have hlw := hC.lw
  have hbk := hC.bk
  refine ww_aload_n dX10_out_0 rfl rfl ?_
  refine ww_iload_n dX10_out_1 rfl rfl ?_
  exact ww_cVt (M := m_X10_out) (pc := 2) (st := []) (d := 7) (bc := 0) (bs := 0) (c_needNumber_f hst hC.K0 hmi n hout) vv_X10_needNumber dX10_out_2 wg_847 (hC.K0) rfl rfl rfl rfl (Nat.le_of_ble_eq_true rfl) (Nat.le_of_ble_eq_true rfl) (Nat.le_of_ble_eq_true rfl) (Nat.le_of_ble_eq_true rfl) ⟨rfl, rfl⟩
