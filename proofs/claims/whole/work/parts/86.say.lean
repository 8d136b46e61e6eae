/-! ===== the class says: prices and leaves of all numbers ===== -/
theorem Same.sp4 {h h' : PH} (hS : Same spX4 SpN h h') : Same CX CY h h' := hS.mono (fun c hc => by rcases hc with rfl | rfl | rfl | rfl <;> decide) (fun _ _ e => e.elim)
def syO (f : Nat → Int32) (sz : Nat) (kf vf : Nat → Int32) (n : Nat) : Nat := fareTn f sz kf vf n 1
def syQ (f : Nat → Int32) (sz : Nat) (kf vf : Nat → Int32) (du : Nat) : PQ := (knS (syO f sz kf vf) du 61).1
theorem syO_le (f : Nat → Int32) (sz : Nat) (kf vf : Nat → Int32) (n : Nat) : syO f sz kf vf n ≤ 99 := (fareTn_ok f sz kf vf n 1).2
theorem sy_B (f : Nat → Int32) (sz : Nat) (kf vf : Nat → Int32) {du : Nat} (hd : du ≤ 20) : knB (syO f sz kf vf) du := by
  refine ⟨fun m hm _ => ?_, fun m _ => ?_, hd⟩
  · have h1 := (kn_fix (own := syO f sz kf vf) (D := du)).ple hm
    have h2 := syO_le f sz kf vf m
    have h3 := say_q (kn_fix (own := syO f sz kf vf) (D := du)) (fun n _ => syO_le f sz kf vf n) hm
    exact ⟨by omega, by omega⟩
  · have h2 := syO_le f sz kf vf m
    omega
theorem syQ_le (f : Nat → Int32) (sz : Nat) (kf vf : Nat → Int32) (du : Nat) {m : Nat} (hm : m ≤ 60) : (syQ f sz kf vf du).1 m ≤ 99 ∧ (syQ f sz kf vf du).2 m < 1000000 := by
  have h1 := (kn_fix (own := syO f sz kf vf) (D := du)).ple hm
  have h2 := syO_le f sz kf vf m
  have h3 := say_q (kn_fix (own := syO f sz kf vf) (D := du)) (fun n _ => syO_le f sz kf vf n) hm
  unfold syQ
  exact ⟨by omega, h3⟩
def ouO (f : Nat → Int32) (n : Nat) : Nat := if f (61 + n) = nI 0 then 0 else spFAR
def ouQ (f : Nat → Int32) : PQ := (knS (ouO f) 1 61).1
theorem ouO_or (f : Nat → Int32) (n : Nat) : ouO f n = 0 ∨ ouO f n = spFAR := by unfold ouO; split; exact Or.inl rfl; exact Or.inr rfl
theorem ou_q {f : Nat → Int32} : ∀ (k n : Nat), n ≤ 60 → (ouQ f).2 n ≤ k → (ouQ f).1 n < spFAR → (ouQ f).2 n ≤ (ouQ f).1 n + 1 := by
  have h : fixC (ouO f) 1 (ouQ f).1 (ouQ f).2 := by unfold ouQ; exact kn_fix
  intro k
  induction k with
  | zero => intro n hn hk hf; have := h.2.2.2 n hn; omega
  | succ k ih =>
    intro n hn hk hf
    rcases h.1 n hn with ⟨e1, e2⟩ | ⟨a, b, ha, hb, hm, fa, fb, e1, e2⟩
    · omega
    · have qa := h.2.2.2 a ha
      have qb := h.2.2.2 b hb
      have := ih a ha (by omega) fa
      have := ih b hb (by omega) fb
      omega
theorem ou_B (f : Nat → Int32) : knB (ouO f) 1 := by
  have h : fixC (ouO f) 1 (ouQ f).1 (ouQ f).2 := by unfold ouQ; exact kn_fix
  refine ⟨fun m hm hf => ?_, fun m _ => ?_, by decide⟩
  · have hf2 : (ouQ f).1 m < spFAR := by unfold ouQ; exact hf
    have h1 := out_q h (fun n _ => ouO_or f n) hm hf2
    have h2 := ou_q _ m hm (Nat.le_refl _) hf2
    unfold ouQ at h1 h2
    exact ⟨by omega, by omega⟩
  · rcases ouO_or f m with e | e
    · omega
    · rw [e]; decide
theorem ouQ_le (f : Nat → Int32) {m : Nat} (hm : m ≤ 60) : (ouQ f).1 m ≤ 1000000000 := by
  have h : fixC (ouO f) 1 (ouQ f).1 (ouQ f).2 := by unfold ouQ; exact kn_fix
  have h1 := h.ple hm
  have h2 := (ou_B f).2.1 m hm
  omega
set_option maxHeartbeats 4000000 in
set_option maxRecDepth 100000 in
theorem c_Sp_say {l : Launch} {Z : EE} (hst : l.stackTraces = false) {h : PH} {la lw bk : Nat} (hC : CL h la lw bk) {np du : Nat} {f : Nat → Int32} (hL : LandAt h la np du f) {sz : Nat} {kf vf : Nat → Int32} (hW : LawAt h lw sz kf vf) (hok : LawOK kf vf sz) : CC l Z m_X7_say 5 0 0 [.ref 30, .ref la, .ref lw] h (RQ none (fun h9 => Same CX CY h h9 ∧ SpA h9 (syQ f sz kf vf du) (knS (syO f sz kf vf) du 61).2.1 du ∧ ∀ i, i ≤ 60 → hp_I h9 31 i = nI (syO f sz kf vf i))) := by
  refine ee_entry hst (by decide +kernel) rfl rfl (by simp [Value.category]) (Nat.le_of_ble_eq_true rfl) ?_
  refine ww_lv (lv2 := [.ref 30, .ref la, .ref lw]) rfl ?_
  have hla := hC.la
  have hlw := hC.lw
  have hbk := hC.bk
  refine ww_aload_n dX7_say_0 rfl rfl ?_
  refine ww_aload_n dX7_say_1 rfl rfl ?_
  refine ww_iconst (v := nI 1) dX7_say_2 (by decide) ?_
  refine ww_aload_n dX7_say_3 rfl rfl ?_
  refine ww_get 0 dX7_say_4 (hC.K30) rfl (by decide) inX7 wg_168 (hC.R30_0) ?_
  refine ww_cVq0 (M := m_X7_say) (pc := 7) (st := []) (d := 5) (bc := 0) (bs := 0) (c_Land_faresT hst hC hL hW hok 31 (by exact hC.K31) (by omega) 1 (by omega)) vv_X2_faresBy dX7_say_7 wg_886 hL.1 rfl rfl rfl rfl (Nat.le_of_ble_eq_true rfl) (Nat.le_of_ble_eq_true rfl) (Nat.le_of_ble_eq_true rfl) (Nat.le_of_ble_eq_true rfl) (fun hq1 qq1 => ?_)
  have s1 : Same CX CY h hq1 := qq1.1.fares (by omega)
  have hC1 := hC.scr s1
  have hL1 := hL.scr hC s1
  have hW1 := hW.scr hC s1
  refine ww_aload_n dX7_say_10 rfl rfl ?_
  refine ww_aload_n dX7_say_11 rfl rfl ?_
  refine ww_getN 2 dX7_say_12 hL1.1 rfl (by decide) inX2 wn_78 hL1.2.2.2.2.1 ?_
  refine ww_pfI tyX7 5 dX7_say_15 (hC1.K30) rfl (by decide) inX7 tyX7_ok nmX7 wg_176 rfl rfl ?_
  refine ww_aload_n dX7_say_18 rfl rfl ?_
  have hK0 : SpK (hp_sF hq1 30 5 (.int (nI du))) := (hC1.scr (Same.rf.sF (show CY _ _ by decide))).sp
  refine ww_cVq0 (M := m_X7_say) (pc := 19) (st := []) (d := 5) (bc := 0) (bs := 0) (c_Sp_settle hst (own := syO f sz kf vf) (D := du) hK0 (sy_B f sz kf vf hL.2.2.2.2.2.2.2) (fun i hi => (qq1.2 i (by omega)).trans (fareTn_ok f sz kf vf i 1).1) (hp_F_eq _ _ _ _)) vv_X7_settleAll dX7_say_19 wg_891 (hC1.K30) rfl rfl rfl rfl (Nat.le_of_ble_eq_true rfl) (Nat.le_of_ble_eq_true rfl) (Nat.le_of_ble_eq_true rfl) (Nat.le_of_ble_eq_true rfl) (fun hr qr => ?_)
  have s9 : Same CX CY h hr := (s1.sF (show CY _ _ by decide)).tr qr.2.2.sp4
  exact ww_vret dX7_say_22 rfl ⟨rfl, s9, (by unfold syQ; exact qr.1), fun i hi => by rw [qr.2.2.2.2.2.1 _ (by unfold spX4; omega)]; exact (qq1.2 i (by omega)).trans (fareTn_ok f sz kf vf i 1).1⟩
set_option maxHeartbeats 4000000 in
set_option maxRecDepth 100000 in
theorem c_K_cost {l : Launch} {Z : EE} (hst : l.stackTraces = false) {h : PH} {la lw bk : Nat} (hC : CL h la lw bk) {np du : Nat} {f : Nat → Int32} (hL : LandAt h la np du f) {sz : Nat} {kf vf : Nat → Int32} (hW : LawAt h lw sz kf vf) (hok : LawOK kf vf sz) (n : Nat) (hn : n ≤ 60) : CC l Z m_X10_cost 6 0 0 [.ref 0, .int (nI n)] h (COk (nI ((syQ f sz kf vf du).1 n)) h) := by
  refine ee_entry hst (by decide +kernel) rfl rfl (by simp [Value.category]) (Nat.le_of_ble_eq_true rfl) ?_
  refine ww_lv (lv2 := [.ref 0, .int (nI n)]) rfl ?_
  have hla := hC.la
  have hlw := hC.lw
  have hbk := hC.bk
  refine ww_aload_n dX10_cost_0 rfl rfl ?_
  refine ww_iload_n dX10_cost_1 rfl rfl ?_
  refine ww_cV0 (M := m_X10_cost) (pc := 2) (h1 := h) (st := []) (d := 6) (bc := 0) (bs := 0) (c_needNumber_t hst hC.K0 n hn) vv_X10_needNumber dX10_cost_2 wg_847 (hC.K0) rfl rfl rfl rfl (Nat.le_of_ble_eq_true rfl) (Nat.le_of_ble_eq_true rfl) (Nat.le_of_ble_eq_true rfl) (Nat.le_of_ble_eq_true rfl) ?_
  refine ww_aload_n dX10_cost_5 rfl rfl ?_
  refine ww_get 15 dX10_cost_6 (hC.K0) rfl (by decide) inX10 wg_279 (hC.R0_15) ?_
  refine ww_aload_n dX10_cost_9 rfl rfl ?_
  refine ww_get 1 dX10_cost_10 (hC.K0) rfl (by decide) inX10 wg_265 hC.D1 ?_
  refine ww_aload_n dX10_cost_13 rfl rfl ?_
  refine ww_get 3 dX10_cost_14 (hC.K0) rfl (by decide) inX10 wg_267 hC.D3 ?_
  refine ww_cVq0 (M := m_X10_cost) (pc := 17) (st := []) (d := 6) (bc := 0) (bs := 0) (c_Sp_say hst hC hL hW hok) vv_X7_say dX10_cost_17 wg_882 (hC.K30) rfl rfl rfl rfl (Nat.le_of_ble_eq_true rfl) (Nat.le_of_ble_eq_true rfl) (Nat.le_of_ble_eq_true rfl) (Nat.le_of_ble_eq_true rfl) (fun hq1 qq1 => ?_)
  have s1 : Same CX CY h hq1 := qq1.1
  have hC1 := hC.scr s1
  refine ww_aload_n dX10_cost_20 rfl rfl ?_
  refine ww_get 15 dX10_cost_21 (hC1.K0) rfl (by decide) inX10 wg_279 (hC1.R0_15) ?_
  refine ww_getN 1 dX10_cost_24 (hC1.K30) rfl (by decide) inX7 wn_171 (hC1.R30_1) ?_
  refine ww_iload_n dX10_cost_27 rfl rfl ?_
  refine ww_ialdF dX10_cost_28 (hC1.K32) rfl (by omega) (by omega) ?_
  refine ww_sk (st2 := [.int (nI (((syQ f sz kf vf du).1 n)))]) (by rw [qq1.2.1.1 n (by omega)]) ?_
  exact ww_iret dX10_cost_29 rfl ⟨rfl, s1⟩
set_option maxHeartbeats 4000000 in
set_option maxRecDepth 100000 in
theorem c_K_cost_no0 {l : Launch} {Z : EE} (hst : l.stackTraces = false) {h : PH} {la lw bk : Nat} (hC : CL h la lw bk) {np du : Nat} {f : Nat → Int32} (hL : LandAt h la np du f) {sz : Nat} {kf vf : Nat → Int32} (hW : LawAt h lw sz kf vf) (hok : LawOK kf vf sz) {mi : Int32} (hmi : hp_F h 0 12 = .int mi) (n : Int32) (hout : outR 0 60 n) : CC l Z m_X10_cost 7 1 6 [.ref 0, .int n] h (TH nsX (hp_sF h 0 12 (.int (mi + nI 1)))) := by
  refine ee_entry hst (by decide +kernel) rfl rfl (by simp [Value.category]) (Nat.le_of_ble_eq_true rfl) ?_
  refine ww_lv (lv2 := [.ref 0, .int n]) rfl ?_
  have hla := hC.la
  have hlw := hC.lw
  have hbk := hC.bk
  refine ww_aload_n dX10_cost_0 rfl rfl ?_
  refine ww_iload_n dX10_cost_1 rfl rfl ?_
  exact ww_cVt (M := m_X10_cost) (pc := 2) (st := []) (d := 7) (bc := 0) (bs := 0) (c_needNumber_f hst hC.K0 hmi n hout) vv_X10_needNumber dX10_cost_2 wg_847 (hC.K0) rfl rfl rfl rfl (Nat.le_of_ble_eq_true rfl) (Nat.le_of_ble_eq_true rfl) (Nat.le_of_ble_eq_true rfl) (Nat.le_of_ble_eq_true rfl) ⟨rfl, rfl⟩
set_option maxHeartbeats 4000000 in
set_option maxRecDepth 100000 in
theorem c_K_leaves {l : Launch} {Z : EE} (hst : l.stackTraces = false) {h : PH} {la lw bk : Nat} (hC : CL h la lw bk) {np du : Nat} {f : Nat → Int32} (hL : LandAt h la np du f) {sz : Nat} {kf vf : Nat → Int32} (hW : LawAt h lw sz kf vf) (hok : LawOK kf vf sz) (n : Nat) (hn : n ≤ 60) : CC l Z m_X10_leaves 6 0 0 [.ref 0, .int (nI n)] h (COk (nI ((syQ f sz kf vf du).2 n)) h) := by
  refine ee_entry hst (by decide +kernel) rfl rfl (by simp [Value.category]) (Nat.le_of_ble_eq_true rfl) ?_
  refine ww_lv (lv2 := [.ref 0, .int (nI n)]) rfl ?_
  have hla := hC.la
  have hlw := hC.lw
  have hbk := hC.bk
  refine ww_aload_n dX10_leaves_0 rfl rfl ?_
  refine ww_iload_n dX10_leaves_1 rfl rfl ?_
  refine ww_cV0 (M := m_X10_leaves) (pc := 2) (h1 := h) (st := []) (d := 6) (bc := 0) (bs := 0) (c_needNumber_t hst hC.K0 n hn) vv_X10_needNumber dX10_leaves_2 wg_847 (hC.K0) rfl rfl rfl rfl (Nat.le_of_ble_eq_true rfl) (Nat.le_of_ble_eq_true rfl) (Nat.le_of_ble_eq_true rfl) (Nat.le_of_ble_eq_true rfl) ?_
  refine ww_aload_n dX10_leaves_5 rfl rfl ?_
  refine ww_get 15 dX10_leaves_6 (hC.K0) rfl (by decide) inX10 wg_279 (hC.R0_15) ?_
  refine ww_aload_n dX10_leaves_9 rfl rfl ?_
  refine ww_get 1 dX10_leaves_10 (hC.K0) rfl (by decide) inX10 wg_265 hC.D1 ?_
  refine ww_aload_n dX10_leaves_13 rfl rfl ?_
  refine ww_get 3 dX10_leaves_14 (hC.K0) rfl (by decide) inX10 wg_267 hC.D3 ?_
  refine ww_cVq0 (M := m_X10_leaves) (pc := 17) (st := []) (d := 6) (bc := 0) (bs := 0) (c_Sp_say hst hC hL hW hok) vv_X7_say dX10_leaves_17 wg_882 (hC.K30) rfl rfl rfl rfl (Nat.le_of_ble_eq_true rfl) (Nat.le_of_ble_eq_true rfl) (Nat.le_of_ble_eq_true rfl) (Nat.le_of_ble_eq_true rfl) (fun hq1 qq1 => ?_)
  have s1 : Same CX CY h hq1 := qq1.1
  have hC1 := hC.scr s1
  refine ww_aload_n dX10_leaves_20 rfl rfl ?_
  refine ww_get 15 dX10_leaves_21 (hC1.K0) rfl (by decide) inX10 wg_279 (hC1.R0_15) ?_
  refine ww_getN 2 dX10_leaves_24 (hC1.K30) rfl (by decide) inX7 wn_173 (hC1.R30_2) ?_
  refine ww_iload_n dX10_leaves_27 rfl rfl ?_
  refine ww_ialdF dX10_leaves_28 (hC1.K33) rfl (by omega) (by omega) ?_
  refine ww_sk (st2 := [.int (nI (((syQ f sz kf vf du).2 n)))]) (by rw [qq1.2.1.2.1 n (by omega)]) ?_
  exact ww_iret dX10_leaves_29 rfl ⟨rfl, s1⟩
set_option maxHeartbeats 4000000 in
set_option maxRecDepth 100000 in
theorem c_K_leaves_no0 {l : Launch} {Z : EE} (hst : l.stackTraces = false) {h : PH} {la lw bk : Nat} (hC : CL h la lw bk) {np du : Nat} {f : Nat → Int32} (hL : LandAt h la np du f) {sz : Nat} {kf vf : Nat → Int32} (hW : LawAt h lw sz kf vf) (hok : LawOK kf vf sz) {mi : Int32} (hmi : hp_F h 0 12 = .int mi) (n : Int32) (hout : outR 0 60 n) : CC l Z m_X10_leaves 7 1 6 [.ref 0, .int n] h (TH nsX (hp_sF h 0 12 (.int (mi + nI 1)))) := by
  refine ee_entry hst (by decide +kernel) rfl rfl (by simp [Value.category]) (Nat.le_of_ble_eq_true rfl) ?_
  refine ww_lv (lv2 := [.ref 0, .int n]) rfl ?_
  have hla := hC.la
  have hlw := hC.lw
  have hbk := hC.bk
  refine ww_aload_n dX10_leaves_0 rfl rfl ?_
  refine ww_iload_n dX10_leaves_1 rfl rfl ?_
  exact ww_cVt (M := m_X10_leaves) (pc := 2) (st := []) (d := 7) (bc := 0) (bs := 0) (c_needNumber_f hst hC.K0 hmi n hout) vv_X10_needNumber dX10_leaves_2 wg_847 (hC.K0) rfl rfl rfl rfl (Nat.le_of_ble_eq_true rfl) (Nat.le_of_ble_eq_true rfl) (Nat.le_of_ble_eq_true rfl) (Nat.le_of_ble_eq_true rfl) ⟨rfl, rfl⟩
