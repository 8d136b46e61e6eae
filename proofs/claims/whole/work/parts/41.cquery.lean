set_option maxHeartbeats 4000000 in
set_option maxRecDepth 100000 in
theorem c_K_told0 {l : Launch} {Z : EE} (hst : l.stackTraces = false) {h : PH} {la lw bk : Nat} (hC : CL h la lw bk) {np du : Nat} {f : Nat → Int32} (hL : LandAt h la np du f) {ln : Nat} (hln : hp_F h bk 2 = .int (nI ln)) (hkb : hp_K h bk = (1, 3)) {rs : Int32} (hrs : hp_F h 0 11 = .int rs) : CC l Z m_X10_told 3 0 0 [.ref 0, .int (nI 0)] h (COk (nI np) h) := by
  refine ee_entry hst (by decide +kernel) rfl rfl (by simp [Value.category]) (Nat.le_of_ble_eq_true rfl) ?_
  refine ww_lv (lv2 := [.ref 0, .int (nI 0)]) rfl ?_
  have hla := hC.la
  have hlw := hC.lw
  have hbk := hC.bk
  refine ww_aload_n dX10_told_0 rfl rfl ?_
  refine ww_iload_n dX10_told_1 rfl rfl ?_
  refine ww_iconst (v := nI 0) dX10_told_2 (by decide) ?_
  refine ww_bipush (v := nI 7) dX10_told_3 (by decide) ?_
  refine ww_cV0 (M := m_X10_told) (pc := 5) (h1 := h) (st := []) (bc := 0) (bs := 0) (c_within_t hst (nI 0) (nI 0) (nI 7) (by decide) (by decide) _) vv_X10_within dX10_told_5 wg_410 (hC.K0) rfl rfl rfl rfl (Nat.le_of_ble_eq_true rfl) (Nat.le_of_ble_eq_true rfl) (Nat.le_of_ble_eq_true rfl) (Nat.le_of_ble_eq_true rfl) ?_
  refine ww_iload_n dX10_told_8 rfl rfl ?_
  refine ww_tableIn (off := 43) (tgt := 52) dX10_told_9 (by decide) (by decide) (by decide) (by decide) ?_
  refine ww_aload_n dX10_told_52 rfl rfl ?_
  refine ww_get 1 dX10_told_53 (hC.K0) rfl (by decide) inX10 wg_265 hC.D1 ?_
  refine ww_getN 1 dX10_told_56 hL.1 rfl (by decide) inX2 wn_77 hL.2.2.2.1 ?_
  exact ww_iret dX10_told_59 rfl ⟨rfl, Same.rf⟩
set_option maxHeartbeats 4000000 in
set_option maxRecDepth 100000 in
theorem c_K_told1 {l : Launch} {Z : EE} (hst : l.stackTraces = false) {h : PH} {la lw bk : Nat} (hC : CL h la lw bk) {np du : Nat} {f : Nat → Int32} (hL : LandAt h la np du f) {ln : Nat} (hln : hp_F h bk 2 = .int (nI ln)) (hkb : hp_K h bk = (1, 3)) {rs : Int32} (hrs : hp_F h 0 11 = .int rs) : CC l Z m_X10_told 3 0 0 [.ref 0, .int (nI 1)] h (COk (f 189) h) := by
  refine ee_entry hst (by decide +kernel) rfl rfl (by simp [Value.category]) (Nat.le_of_ble_eq_true rfl) ?_
  refine ww_lv (lv2 := [.ref 0, .int (nI 1)]) rfl ?_
  have hla := hC.la
  have hlw := hC.lw
  have hbk := hC.bk
  refine ww_aload_n dX10_told_0 rfl rfl ?_
  refine ww_iload_n dX10_told_1 rfl rfl ?_
  refine ww_iconst (v := nI 0) dX10_told_2 (by decide) ?_
  refine ww_bipush (v := nI 7) dX10_told_3 (by decide) ?_
  refine ww_cV0 (M := m_X10_told) (pc := 5) (h1 := h) (st := []) (bc := 0) (bs := 0) (c_within_t hst (nI 1) (nI 0) (nI 7) (by decide) (by decide) _) vv_X10_within dX10_told_5 wg_410 (hC.K0) rfl rfl rfl rfl (Nat.le_of_ble_eq_true rfl) (Nat.le_of_ble_eq_true rfl) (Nat.le_of_ble_eq_true rfl) (Nat.le_of_ble_eq_true rfl) ?_
  refine ww_iload_n dX10_told_8 rfl rfl ?_
  refine ww_tableIn (off := 51) (tgt := 60) dX10_told_9 (by decide) (by decide) (by decide) (by decide) ?_
  refine ww_aload_n dX10_told_60 rfl rfl ?_
  refine ww_get 1 dX10_told_61 (hC.K0) rfl (by decide) inX10 wg_265 hC.D1 ?_
  refine ww_cVr (M := m_X10_told) (pc := 64) (v := .int (f 189)) (h1 := h) (st := []) (bc := 0) (bs := 0) (c_Land_day hst hL) vv_X2_day dX10_told_64 wg_778 hL.1 rfl rfl rfl rfl (Nat.le_of_ble_eq_true rfl) (Nat.le_of_ble_eq_true rfl) (Nat.le_of_ble_eq_true rfl) (Nat.le_of_ble_eq_true rfl) ?_
  exact ww_iret dX10_told_67 rfl ⟨rfl, Same.rf⟩
set_option maxHeartbeats 4000000 in
set_option maxRecDepth 100000 in
theorem c_K_told2 {l : Launch} {Z : EE} (hst : l.stackTraces = false) {h : PH} {la lw bk : Nat} (hC : CL h la lw bk) {np du : Nat} {f : Nat → Int32} (hL : LandAt h la np du f) {ln : Nat} (hln : hp_F h bk 2 = .int (nI ln)) (hkb : hp_K h bk = (1, 3)) {rs : Int32} (hrs : hp_F h 0 11 = .int rs) : CC l Z m_X10_told 3 0 0 [.ref 0, .int (nI 2)] h (COk (nI du) h) := by
  refine ee_entry hst (by decide +kernel) rfl rfl (by simp [Value.category]) (Nat.le_of_ble_eq_true rfl) ?_
  refine ww_lv (lv2 := [.ref 0, .int (nI 2)]) rfl ?_
  have hla := hC.la
  have hlw := hC.lw
  have hbk := hC.bk
  refine ww_aload_n dX10_told_0 rfl rfl ?_
  refine ww_iload_n dX10_told_1 rfl rfl ?_
  refine ww_iconst (v := nI 0) dX10_told_2 (by decide) ?_
  refine ww_bipush (v := nI 7) dX10_told_3 (by decide) ?_
  refine ww_cV0 (M := m_X10_told) (pc := 5) (h1 := h) (st := []) (bc := 0) (bs := 0) (c_within_t hst (nI 2) (nI 0) (nI 7) (by decide) (by decide) _) vv_X10_within dX10_told_5 wg_410 (hC.K0) rfl rfl rfl rfl (Nat.le_of_ble_eq_true rfl) (Nat.le_of_ble_eq_true rfl) (Nat.le_of_ble_eq_true rfl) (Nat.le_of_ble_eq_true rfl) ?_
  refine ww_iload_n dX10_told_8 rfl rfl ?_
  refine ww_tableIn (off := 59) (tgt := 68) dX10_told_9 (by decide) (by decide) (by decide) (by decide) ?_
  refine ww_aload_n dX10_told_68 rfl rfl ?_
  refine ww_get 1 dX10_told_69 (hC.K0) rfl (by decide) inX10 wg_265 hC.D1 ?_
  refine ww_getN 2 dX10_told_72 hL.1 rfl (by decide) inX2 wn_80 hL.2.2.2.2.1 ?_
  exact ww_iret dX10_told_75 rfl ⟨rfl, Same.rf⟩
set_option maxHeartbeats 4000000 in
set_option maxRecDepth 100000 in
theorem c_K_told3 {l : Launch} {Z : EE} (hst : l.stackTraces = false) {h : PH} {la lw bk : Nat} (hC : CL h la lw bk) {np du : Nat} {f : Nat → Int32} (hL : LandAt h la np du f) {ln : Nat} (hln : hp_F h bk 2 = .int (nI ln)) (hkb : hp_K h bk = (1, 3)) {rs : Int32} (hrs : hp_F h 0 11 = .int rs) : CC l Z m_X10_told 3 0 0 [.ref 0, .int (nI 3)] h (COk (nI (cnt (fun n => f n != -1) 61)) h) := by
  refine ee_entry hst (by decide +kernel) rfl rfl (by simp [Value.category]) (Nat.le_of_ble_eq_true rfl) ?_
  refine ww_lv (lv2 := [.ref 0, .int (nI 3)]) rfl ?_
  have hla := hC.la
  have hlw := hC.lw
  have hbk := hC.bk
  refine ww_aload_n dX10_told_0 rfl rfl ?_
  refine ww_iload_n dX10_told_1 rfl rfl ?_
  refine ww_iconst (v := nI 0) dX10_told_2 (by decide) ?_
  refine ww_bipush (v := nI 7) dX10_told_3 (by decide) ?_
  refine ww_cV0 (M := m_X10_told) (pc := 5) (h1 := h) (st := []) (bc := 0) (bs := 0) (c_within_t hst (nI 3) (nI 0) (nI 7) (by decide) (by decide) _) vv_X10_within dX10_told_5 wg_410 (hC.K0) rfl rfl rfl rfl (Nat.le_of_ble_eq_true rfl) (Nat.le_of_ble_eq_true rfl) (Nat.le_of_ble_eq_true rfl) (Nat.le_of_ble_eq_true rfl) ?_
  refine ww_iload_n dX10_told_8 rfl rfl ?_
  refine ww_tableIn (off := 67) (tgt := 76) dX10_told_9 (by decide) (by decide) (by decide) (by decide) ?_
  refine ww_aload_n dX10_told_76 rfl rfl ?_
  refine ww_get 1 dX10_told_77 (hC.K0) rfl (by decide) inX10 wg_265 hC.D1 ?_
  refine ww_cVr (M := m_X10_told) (pc := 80) (v := .int (nI (cnt (fun n => f n != -1) 61))) (h1 := h) (st := []) (bc := 0) (bs := 0) (c_Land_owned hst hL) vv_X2_owned dX10_told_80 wg_779 hL.1 rfl rfl rfl rfl (Nat.le_of_ble_eq_true rfl) (Nat.le_of_ble_eq_true rfl) (Nat.le_of_ble_eq_true rfl) (Nat.le_of_ble_eq_true rfl) ?_
  exact ww_iret dX10_told_83 rfl ⟨rfl, Same.rf⟩
set_option maxHeartbeats 4000000 in
set_option maxRecDepth 100000 in
theorem c_K_told4 {l : Launch} {Z : EE} (hst : l.stackTraces = false) {h : PH} {la lw bk : Nat} (hC : CL h la lw bk) {np du : Nat} {f : Nat → Int32} (hL : LandAt h la np du f) {ln : Nat} (hln : hp_F h bk 2 = .int (nI ln)) (hkb : hp_K h bk = (1, 3)) {rs : Int32} (hrs : hp_F h 0 11 = .int rs) : CC l Z m_X10_told 3 0 0 [.ref 0, .int (nI 4)] h (COk (smI (fun n => f (122 + n)) 61) h) := by
  refine ee_entry hst (by decide +kernel) rfl rfl (by simp [Value.category]) (Nat.le_of_ble_eq_true rfl) ?_
  refine ww_lv (lv2 := [.ref 0, .int (nI 4)]) rfl ?_
  have hla := hC.la
  have hlw := hC.lw
  have hbk := hC.bk
  refine ww_aload_n dX10_told_0 rfl rfl ?_
  refine ww_iload_n dX10_told_1 rfl rfl ?_
  refine ww_iconst (v := nI 0) dX10_told_2 (by decide) ?_
  refine ww_bipush (v := nI 7) dX10_told_3 (by decide) ?_
  refine ww_cV0 (M := m_X10_told) (pc := 5) (h1 := h) (st := []) (bc := 0) (bs := 0) (c_within_t hst (nI 4) (nI 0) (nI 7) (by decide) (by decide) _) vv_X10_within dX10_told_5 wg_410 (hC.K0) rfl rfl rfl rfl (Nat.le_of_ble_eq_true rfl) (Nat.le_of_ble_eq_true rfl) (Nat.le_of_ble_eq_true rfl) (Nat.le_of_ble_eq_true rfl) ?_
  refine ww_iload_n dX10_told_8 rfl rfl ?_
  refine ww_tableIn (off := 75) (tgt := 84) dX10_told_9 (by decide) (by decide) (by decide) (by decide) ?_
  refine ww_aload_n dX10_told_84 rfl rfl ?_
  refine ww_get 1 dX10_told_85 (hC.K0) rfl (by decide) inX10 wg_265 hC.D1 ?_
  refine ww_cVr (M := m_X10_told) (pc := 88) (v := .int (smI (fun n => f (122 + n)) 61)) (h1 := h) (st := []) (bc := 0) (bs := 0) (c_Land_uses hst hL) vv_X2_uses dX10_told_88 wg_783 hL.1 rfl rfl rfl rfl (Nat.le_of_ble_eq_true rfl) (Nat.le_of_ble_eq_true rfl) (Nat.le_of_ble_eq_true rfl) (Nat.le_of_ble_eq_true rfl) ?_
  exact ww_iret dX10_told_91 rfl ⟨rfl, Same.rf⟩
set_option maxHeartbeats 4000000 in
set_option maxRecDepth 100000 in
theorem c_K_told5 {l : Launch} {Z : EE} (hst : l.stackTraces = false) {h : PH} {la lw bk : Nat} (hC : CL h la lw bk) {np du : Nat} {f : Nat → Int32} (hL : LandAt h la np du f) {ln : Nat} (hln : hp_F h bk 2 = .int (nI ln)) (hkb : hp_K h bk = (1, 3)) {rs : Int32} (hrs : hp_F h 0 11 = .int rs) : CC l Z m_X10_told 3 0 0 [.ref 0, .int (nI 5)] h (COk (nI ln) h) := by
  refine ee_entry hst (by decide +kernel) rfl rfl (by simp [Value.category]) (Nat.le_of_ble_eq_true rfl) ?_
  refine ww_lv (lv2 := [.ref 0, .int (nI 5)]) rfl ?_
  have hla := hC.la
  have hlw := hC.lw
  have hbk := hC.bk
  refine ww_aload_n dX10_told_0 rfl rfl ?_
  refine ww_iload_n dX10_told_1 rfl rfl ?_
  refine ww_iconst (v := nI 0) dX10_told_2 (by decide) ?_
  refine ww_bipush (v := nI 7) dX10_told_3 (by decide) ?_
  refine ww_cV0 (M := m_X10_told) (pc := 5) (h1 := h) (st := []) (bc := 0) (bs := 0) (c_within_t hst (nI 5) (nI 0) (nI 7) (by decide) (by decide) _) vv_X10_within dX10_told_5 wg_410 (hC.K0) rfl rfl rfl rfl (Nat.le_of_ble_eq_true rfl) (Nat.le_of_ble_eq_true rfl) (Nat.le_of_ble_eq_true rfl) (Nat.le_of_ble_eq_true rfl) ?_
  refine ww_iload_n dX10_told_8 rfl rfl ?_
  refine ww_tableIn (off := 83) (tgt := 92) dX10_told_9 (by decide) (by decide) (by decide) (by decide) ?_
  refine ww_aload_n dX10_told_92 rfl rfl ?_
  refine ww_get 5 dX10_told_93 (hC.K0) rfl (by decide) inX10 wg_269 hC.D5 ?_
  refine ww_getN 2 dX10_told_96 hkb rfl (by decide) inX1 wn_119 hln ?_
  exact ww_iret dX10_told_99 rfl ⟨rfl, Same.rf⟩
set_option maxHeartbeats 4000000 in
set_option maxRecDepth 100000 in
theorem c_K_told6 {l : Launch} {Z : EE} (hst : l.stackTraces = false) {h : PH} {la lw bk : Nat} (hC : CL h la lw bk) {np du : Nat} {f : Nat → Int32} (hL : LandAt h la np du f) {ln : Nat} (hln : hp_F h bk 2 = .int (nI ln)) (hkb : hp_K h bk = (1, 3)) {rs : Int32} (hrs : hp_F h 0 11 = .int rs) : CC l Z m_X10_told 3 0 0 [.ref 0, .int (nI 6)] h (COk (rs) h) := by
  refine ee_entry hst (by decide +kernel) rfl rfl (by simp [Value.category]) (Nat.le_of_ble_eq_true rfl) ?_
  refine ww_lv (lv2 := [.ref 0, .int (nI 6)]) rfl ?_
  have hla := hC.la
  have hlw := hC.lw
  have hbk := hC.bk
  refine ww_aload_n dX10_told_0 rfl rfl ?_
  refine ww_iload_n dX10_told_1 rfl rfl ?_
  refine ww_iconst (v := nI 0) dX10_told_2 (by decide) ?_
  refine ww_bipush (v := nI 7) dX10_told_3 (by decide) ?_
  refine ww_cV0 (M := m_X10_told) (pc := 5) (h1 := h) (st := []) (bc := 0) (bs := 0) (c_within_t hst (nI 6) (nI 0) (nI 7) (by decide) (by decide) _) vv_X10_within dX10_told_5 wg_410 (hC.K0) rfl rfl rfl rfl (Nat.le_of_ble_eq_true rfl) (Nat.le_of_ble_eq_true rfl) (Nat.le_of_ble_eq_true rfl) (Nat.le_of_ble_eq_true rfl) ?_
  refine ww_iload_n dX10_told_8 rfl rfl ?_
  refine ww_tableIn (off := 91) (tgt := 100) dX10_told_9 (by decide) (by decide) (by decide) (by decide) ?_
  refine ww_aload_n dX10_told_100 rfl rfl ?_
  refine ww_get 11 dX10_told_101 (hC.K0) rfl (by decide) inX10 wg_275 hrs ?_
  exact ww_iret dX10_told_104 rfl ⟨rfl, Same.rf⟩
set_option maxHeartbeats 4000000 in
set_option maxRecDepth 100000 in
theorem c_K_told7 {l : Launch} {Z : EE} (hst : l.stackTraces = false) {h : PH} {la lw bk : Nat} (hC : CL h la lw bk) {np du : Nat} {f : Nat → Int32} (hL : LandAt h la np du f) {ln : Nat} (hln : hp_F h bk 2 = .int (nI ln)) (hkb : hp_K h bk = (1, 3)) {rs : Int32} (hrs : hp_F h 0 11 = .int rs) : CC l Z m_X10_told 3 0 0 [.ref 0, .int (nI 7)] h (COk (smI (fun q => mnI (nI 9999) (f (183 + q))) np) h) := by
  refine ee_entry hst (by decide +kernel) rfl rfl (by simp [Value.category]) (Nat.le_of_ble_eq_true rfl) ?_
  refine ww_lv (lv2 := [.ref 0, .int (nI 7)]) rfl ?_
  have hla := hC.la
  have hlw := hC.lw
  have hbk := hC.bk
  refine ww_aload_n dX10_told_0 rfl rfl ?_
  refine ww_iload_n dX10_told_1 rfl rfl ?_
  refine ww_iconst (v := nI 0) dX10_told_2 (by decide) ?_
  refine ww_bipush (v := nI 7) dX10_told_3 (by decide) ?_
  refine ww_cV0 (M := m_X10_told) (pc := 5) (h1 := h) (st := []) (bc := 0) (bs := 0) (c_within_t hst (nI 7) (nI 0) (nI 7) (by decide) (by decide) _) vv_X10_within dX10_told_5 wg_410 (hC.K0) rfl rfl rfl rfl (Nat.le_of_ble_eq_true rfl) (Nat.le_of_ble_eq_true rfl) (Nat.le_of_ble_eq_true rfl) (Nat.le_of_ble_eq_true rfl) ?_
  refine ww_iload_n dX10_told_8 rfl rfl ?_
  refine ww_tableOut (tgt := 105) dX10_told_9 (by decide) (by decide) ?_
  refine ww_aload_n dX10_told_105 rfl rfl ?_
  refine ww_get 1 dX10_told_106 (hC.K0) rfl (by decide) inX10 wg_265 hC.D1 ?_
  refine ww_cVr (M := m_X10_told) (pc := 109) (v := .int (smI (fun q => mnI (nI 9999) (f (183 + q))) np)) (h1 := h) (st := []) (bc := 0) (bs := 0) (c_Land_allCoins hst hL) vv_X2_allCoins dX10_told_109 wg_787 hL.1 rfl rfl rfl rfl (Nat.le_of_ble_eq_true rfl) (Nat.le_of_ble_eq_true rfl) (Nat.le_of_ble_eq_true rfl) (Nat.le_of_ble_eq_true rfl) ?_
  exact ww_iret dX10_told_112 rfl ⟨rfl, Same.rf⟩
set_option maxHeartbeats 4000000 in
set_option maxRecDepth 100000 in
theorem c_K_told_no0 {l : Launch} {Z : EE} (hst : l.stackTraces = false) {h : PH} {la lw bk : Nat} (hC : CL h la lw bk) {np du : Nat} {f : Nat → Int32} (hL : LandAt h la np du f) {wr : Int32} (hwr : hp_F h 0 13 = .int wr) (w : Int32) (hout : ¬ (nI 0 ≤ w ∧ w ≤ nI 7)) : CC l Z m_X10_told 7 1 6 [.ref 0, .int w] h (TH iaX (hp_sF h 0 13 (.int (wr + nI 1)))) := by
  refine ee_entry hst (by decide +kernel) rfl rfl (by simp [Value.category]) (Nat.le_of_ble_eq_true rfl) ?_
  refine ww_lv (lv2 := [.ref 0, .int w]) rfl ?_
  have hla := hC.la
  have hlw := hC.lw
  have hbk := hC.bk
  refine ww_aload_n dX10_told_0 rfl rfl ?_
  refine ww_iload_n dX10_told_1 rfl rfl ?_
  refine ww_iconst (v := nI 0) dX10_told_2 (by decide) ?_
  refine ww_bipush (v := nI 7) dX10_told_3 (by decide) ?_
  exact ww_cVt (M := m_X10_told) (pc := 5) (st := []) (bc := 0) (bs := 0) (c_within_f hst hC.K0 hwr w (nI 0) (nI 7) hout) vv_X10_within dX10_told_5 wg_410 (hC.K0) rfl rfl rfl rfl (Nat.le_of_ble_eq_true rfl) (Nat.le_of_ble_eq_true rfl) (Nat.le_of_ble_eq_true rfl) (Nat.le_of_ble_eq_true rfl) ⟨rfl, rfl⟩
set_option maxHeartbeats 4000000 in
set_option maxRecDepth 100000 in
theorem c_K_person0 {l : Launch} {Z : EE} (hst : l.stackTraces = false) {h : PH} {la lw bk : Nat} (hC : CL h la lw bk) {np du : Nat} {f : Nat → Int32} (hL : LandAt h la np du f) (q : Nat) (hq : q < np) : CC l Z m_X10_person 3 0 0 [.ref 0, .int (nI q), .int (nI 0)] h (COk (f (183 + q)) h) := by
  refine ee_entry hst (by decide +kernel) rfl rfl (by simp [Value.category]) (Nat.le_of_ble_eq_true rfl) ?_
  refine ww_lv (lv2 := [.ref 0, .int (nI q), .int (nI 0)]) rfl ?_
  have hla := hC.la
  have hlw := hC.lw
  have hbk := hC.bk
  have hnp := hL.2.2.2.2.2.2.1
  refine ww_aload_n dX10_person_0 rfl rfl ?_
  refine ww_iload_n dX10_person_1 rfl rfl ?_
  refine ww_cV0 (M := m_X10_person) (pc := 2) (h1 := h) (st := []) (bc := 0) (bs := 0) (c_needPerson_t hst hC.K0 hC.D1 hL.1 hL.2.2.2.1 hL.2.2.2.2.2.2.1 q hq) vv_X10_needPerson dX10_person_2 wg_803 (hC.K0) rfl rfl rfl rfl (Nat.le_of_ble_eq_true rfl) (Nat.le_of_ble_eq_true rfl) (Nat.le_of_ble_eq_true rfl) (Nat.le_of_ble_eq_true rfl) ?_
  refine ww_aload_n dX10_person_5 rfl rfl ?_
  refine ww_iload_n dX10_person_6 rfl rfl ?_
  refine ww_iconst (v := nI 0) dX10_person_7 (by decide) ?_
  refine ww_iconst (v := nI 4) dX10_person_8 (by decide) ?_
  refine ww_cV0 (M := m_X10_person) (pc := 9) (h1 := h) (st := []) (bc := 0) (bs := 0) (c_within_t hst (nI 0) (nI 0) (nI 4) (by decide) (by decide) _) vv_X10_within dX10_person_9 wg_410 (hC.K0) rfl rfl rfl rfl (Nat.le_of_ble_eq_true rfl) (Nat.le_of_ble_eq_true rfl) (Nat.le_of_ble_eq_true rfl) (Nat.le_of_ble_eq_true rfl) ?_
  refine ww_iload_n dX10_person_12 rfl rfl ?_
  refine ww_tableIn (off := 31) (tgt := 44) dX10_person_13 (by decide) (by decide) (by decide) (by decide) ?_
  refine ww_aload_n dX10_person_44 rfl rfl ?_
  refine ww_get 1 dX10_person_45 (hC.K0) rfl (by decide) inX10 wg_265 hC.D1 ?_
  refine ww_iload_n dX10_person_48 rfl rfl ?_
  refine ww_cVr (M := m_X10_person) (pc := 49) (v := .int (f (183 + q))) (h1 := h) (st := []) (bc := 0) (bs := 0) (c_Land_coins hst hL q (by omega)) vv_X2_coins dX10_person_49 wg_823 hL.1 rfl rfl rfl rfl (Nat.le_of_ble_eq_true rfl) (Nat.le_of_ble_eq_true rfl) (Nat.le_of_ble_eq_true rfl) (Nat.le_of_ble_eq_true rfl) ?_
  exact ww_iret dX10_person_52 rfl ⟨rfl, Same.rf⟩
set_option maxHeartbeats 4000000 in
set_option maxRecDepth 100000 in
theorem c_K_person1 {l : Launch} {Z : EE} (hst : l.stackTraces = false) {h : PH} {la lw bk : Nat} (hC : CL h la lw bk) {np du : Nat} {f : Nat → Int32} (hL : LandAt h la np du f) (q : Nat) (hq : q < np) : CC l Z m_X10_person 3 0 0 [.ref 0, .int (nI q), .int (nI 1)] h (COk (nI (cnt (fun n => f n == nI q) 61)) h) := by
  refine ee_entry hst (by decide +kernel) rfl rfl (by simp [Value.category]) (Nat.le_of_ble_eq_true rfl) ?_
  refine ww_lv (lv2 := [.ref 0, .int (nI q), .int (nI 1)]) rfl ?_
  have hla := hC.la
  have hlw := hC.lw
  have hbk := hC.bk
  have hnp := hL.2.2.2.2.2.2.1
  refine ww_aload_n dX10_person_0 rfl rfl ?_
  refine ww_iload_n dX10_person_1 rfl rfl ?_
  refine ww_cV0 (M := m_X10_person) (pc := 2) (h1 := h) (st := []) (bc := 0) (bs := 0) (c_needPerson_t hst hC.K0 hC.D1 hL.1 hL.2.2.2.1 hL.2.2.2.2.2.2.1 q hq) vv_X10_needPerson dX10_person_2 wg_803 (hC.K0) rfl rfl rfl rfl (Nat.le_of_ble_eq_true rfl) (Nat.le_of_ble_eq_true rfl) (Nat.le_of_ble_eq_true rfl) (Nat.le_of_ble_eq_true rfl) ?_
  refine ww_aload_n dX10_person_5 rfl rfl ?_
  refine ww_iload_n dX10_person_6 rfl rfl ?_
  refine ww_iconst (v := nI 0) dX10_person_7 (by decide) ?_
  refine ww_iconst (v := nI 4) dX10_person_8 (by decide) ?_
  refine ww_cV0 (M := m_X10_person) (pc := 9) (h1 := h) (st := []) (bc := 0) (bs := 0) (c_within_t hst (nI 1) (nI 0) (nI 4) (by decide) (by decide) _) vv_X10_within dX10_person_9 wg_410 (hC.K0) rfl rfl rfl rfl (Nat.le_of_ble_eq_true rfl) (Nat.le_of_ble_eq_true rfl) (Nat.le_of_ble_eq_true rfl) (Nat.le_of_ble_eq_true rfl) ?_
  refine ww_iload_n dX10_person_12 rfl rfl ?_
  refine ww_tableIn (off := 40) (tgt := 53) dX10_person_13 (by decide) (by decide) (by decide) (by decide) ?_
  refine ww_aload_n dX10_person_53 rfl rfl ?_
  refine ww_get 1 dX10_person_54 (hC.K0) rfl (by decide) inX10 wg_265 hC.D1 ?_
  refine ww_iload_n dX10_person_57 rfl rfl ?_
  refine ww_cVr (M := m_X10_person) (pc := 58) (v := .int (nI (cnt (fun n => f n == nI q) 61))) (h1 := h) (st := []) (bc := 0) (bs := 0) (c_Land_numbersOf hst hL (nI q)) vv_X2_numbersOf dX10_person_58 wg_824 hL.1 rfl rfl rfl rfl (Nat.le_of_ble_eq_true rfl) (Nat.le_of_ble_eq_true rfl) (Nat.le_of_ble_eq_true rfl) (Nat.le_of_ble_eq_true rfl) ?_
  exact ww_iret dX10_person_61 rfl ⟨rfl, Same.rf⟩
set_option maxHeartbeats 4000000 in
set_option maxRecDepth 100000 in
theorem c_K_person2 {l : Launch} {Z : EE} (hst : l.stackTraces = false) {h : PH} {la lw bk : Nat} (hC : CL h la lw bk) {np du : Nat} {f : Nat → Int32} (hL : LandAt h la np du f) (q : Nat) (hq : q < np) : CC l Z m_X10_person 3 0 0 [.ref 0, .int (nI q), .int (nI 2)] h (COk (smI (fun n => if f n = nI q then f (61 + n) else 0) 61) h) := by
  refine ee_entry hst (by decide +kernel) rfl rfl (by simp [Value.category]) (Nat.le_of_ble_eq_true rfl) ?_
  refine ww_lv (lv2 := [.ref 0, .int (nI q), .int (nI 2)]) rfl ?_
  have hla := hC.la
  have hlw := hC.lw
  have hbk := hC.bk
  have hnp := hL.2.2.2.2.2.2.1
  refine ww_aload_n dX10_person_0 rfl rfl ?_
  refine ww_iload_n dX10_person_1 rfl rfl ?_
  refine ww_cV0 (M := m_X10_person) (pc := 2) (h1 := h) (st := []) (bc := 0) (bs := 0) (c_needPerson_t hst hC.K0 hC.D1 hL.1 hL.2.2.2.1 hL.2.2.2.2.2.2.1 q hq) vv_X10_needPerson dX10_person_2 wg_803 (hC.K0) rfl rfl rfl rfl (Nat.le_of_ble_eq_true rfl) (Nat.le_of_ble_eq_true rfl) (Nat.le_of_ble_eq_true rfl) (Nat.le_of_ble_eq_true rfl) ?_
  refine ww_aload_n dX10_person_5 rfl rfl ?_
  refine ww_iload_n dX10_person_6 rfl rfl ?_
  refine ww_iconst (v := nI 0) dX10_person_7 (by decide) ?_
  refine ww_iconst (v := nI 4) dX10_person_8 (by decide) ?_
  refine ww_cV0 (M := m_X10_person) (pc := 9) (h1 := h) (st := []) (bc := 0) (bs := 0) (c_within_t hst (nI 2) (nI 0) (nI 4) (by decide) (by decide) _) vv_X10_within dX10_person_9 wg_410 (hC.K0) rfl rfl rfl rfl (Nat.le_of_ble_eq_true rfl) (Nat.le_of_ble_eq_true rfl) (Nat.le_of_ble_eq_true rfl) (Nat.le_of_ble_eq_true rfl) ?_
  refine ww_iload_n dX10_person_12 rfl rfl ?_
  refine ww_tableIn (off := 49) (tgt := 62) dX10_person_13 (by decide) (by decide) (by decide) (by decide) ?_
  refine ww_aload_n dX10_person_62 rfl rfl ?_
  refine ww_get 1 dX10_person_63 (hC.K0) rfl (by decide) inX10 wg_265 hC.D1 ?_
  refine ww_iload_n dX10_person_66 rfl rfl ?_
  refine ww_cVr (M := m_X10_person) (pc := 67) (v := .int (smI (fun n => if f n = nI q then f (61 + n) else 0) 61)) (h1 := h) (st := []) (bc := 0) (bs := 0) (c_Land_rentsOf hst hL (nI q)) vv_X2_rentsOf dX10_person_67 wg_828 hL.1 rfl rfl rfl rfl (Nat.le_of_ble_eq_true rfl) (Nat.le_of_ble_eq_true rfl) (Nat.le_of_ble_eq_true rfl) (Nat.le_of_ble_eq_true rfl) ?_
  exact ww_iret dX10_person_70 rfl ⟨rfl, Same.rf⟩
set_option maxHeartbeats 4000000 in
set_option maxRecDepth 100000 in
theorem c_K_person3 {l : Launch} {Z : EE} (hst : l.stackTraces = false) {h : PH} {la lw bk : Nat} (hC : CL h la lw bk) {np du : Nat} {f : Nat → Int32} (hL : LandAt h la np du f) (q : Nat) (hq : q < np) : CC l Z m_X10_person 3 0 0 [.ref 0, .int (nI q), .int (nI 3)] h (COk (fsI (fun n => f n == nI q) 0 61) h) := by
  refine ee_entry hst (by decide +kernel) rfl rfl (by simp [Value.category]) (Nat.le_of_ble_eq_true rfl) ?_
  refine ww_lv (lv2 := [.ref 0, .int (nI q), .int (nI 3)]) rfl ?_
  have hla := hC.la
  have hlw := hC.lw
  have hbk := hC.bk
  have hnp := hL.2.2.2.2.2.2.1
  refine ww_aload_n dX10_person_0 rfl rfl ?_
  refine ww_iload_n dX10_person_1 rfl rfl ?_
  refine ww_cV0 (M := m_X10_person) (pc := 2) (h1 := h) (st := []) (bc := 0) (bs := 0) (c_needPerson_t hst hC.K0 hC.D1 hL.1 hL.2.2.2.1 hL.2.2.2.2.2.2.1 q hq) vv_X10_needPerson dX10_person_2 wg_803 (hC.K0) rfl rfl rfl rfl (Nat.le_of_ble_eq_true rfl) (Nat.le_of_ble_eq_true rfl) (Nat.le_of_ble_eq_true rfl) (Nat.le_of_ble_eq_true rfl) ?_
  refine ww_aload_n dX10_person_5 rfl rfl ?_
  refine ww_iload_n dX10_person_6 rfl rfl ?_
  refine ww_iconst (v := nI 0) dX10_person_7 (by decide) ?_
  refine ww_iconst (v := nI 4) dX10_person_8 (by decide) ?_
  refine ww_cV0 (M := m_X10_person) (pc := 9) (h1 := h) (st := []) (bc := 0) (bs := 0) (c_within_t hst (nI 3) (nI 0) (nI 4) (by decide) (by decide) _) vv_X10_within dX10_person_9 wg_410 (hC.K0) rfl rfl rfl rfl (Nat.le_of_ble_eq_true rfl) (Nat.le_of_ble_eq_true rfl) (Nat.le_of_ble_eq_true rfl) (Nat.le_of_ble_eq_true rfl) ?_
  refine ww_iload_n dX10_person_12 rfl rfl ?_
  refine ww_tableIn (off := 58) (tgt := 71) dX10_person_13 (by decide) (by decide) (by decide) (by decide) ?_
  refine ww_aload_n dX10_person_71 rfl rfl ?_
  refine ww_get 1 dX10_person_72 (hC.K0) rfl (by decide) inX10 wg_265 hC.D1 ?_
  refine ww_iload_n dX10_person_75 rfl rfl ?_
  refine ww_cVr (M := m_X10_person) (pc := 76) (v := .int (fsI (fun n => f n == nI q) 0 61)) (h1 := h) (st := []) (bc := 0) (bs := 0) (c_Land_leastOf hst hL (nI q)) vv_X2_leastOf dX10_person_76 wg_832 hL.1 rfl rfl rfl rfl (Nat.le_of_ble_eq_true rfl) (Nat.le_of_ble_eq_true rfl) (Nat.le_of_ble_eq_true rfl) (Nat.le_of_ble_eq_true rfl) ?_
  exact ww_iret dX10_person_79 rfl ⟨rfl, Same.rf⟩
set_option maxHeartbeats 4000000 in
set_option maxRecDepth 100000 in
theorem c_K_person4 {l : Launch} {Z : EE} (hst : l.stackTraces = false) {h : PH} {la lw bk : Nat} (hC : CL h la lw bk) {np du : Nat} {f : Nat → Int32} (hL : LandAt h la np du f) (q : Nat) (hq : q < np) : CC l Z m_X10_person 3 0 0 [.ref 0, .int (nI q), .int (nI 4)] h (COk (laI (fun n => f n == nI q) 61) h) := by
  refine ee_entry hst (by decide +kernel) rfl rfl (by simp [Value.category]) (Nat.le_of_ble_eq_true rfl) ?_
  refine ww_lv (lv2 := [.ref 0, .int (nI q), .int (nI 4)]) rfl ?_
  have hla := hC.la
  have hlw := hC.lw
  have hbk := hC.bk
  have hnp := hL.2.2.2.2.2.2.1
  refine ww_aload_n dX10_person_0 rfl rfl ?_
  refine ww_iload_n dX10_person_1 rfl rfl ?_
  refine ww_cV0 (M := m_X10_person) (pc := 2) (h1 := h) (st := []) (bc := 0) (bs := 0) (c_needPerson_t hst hC.K0 hC.D1 hL.1 hL.2.2.2.1 hL.2.2.2.2.2.2.1 q hq) vv_X10_needPerson dX10_person_2 wg_803 (hC.K0) rfl rfl rfl rfl (Nat.le_of_ble_eq_true rfl) (Nat.le_of_ble_eq_true rfl) (Nat.le_of_ble_eq_true rfl) (Nat.le_of_ble_eq_true rfl) ?_
  refine ww_aload_n dX10_person_5 rfl rfl ?_
  refine ww_iload_n dX10_person_6 rfl rfl ?_
  refine ww_iconst (v := nI 0) dX10_person_7 (by decide) ?_
  refine ww_iconst (v := nI 4) dX10_person_8 (by decide) ?_
  refine ww_cV0 (M := m_X10_person) (pc := 9) (h1 := h) (st := []) (bc := 0) (bs := 0) (c_within_t hst (nI 4) (nI 0) (nI 4) (by decide) (by decide) _) vv_X10_within dX10_person_9 wg_410 (hC.K0) rfl rfl rfl rfl (Nat.le_of_ble_eq_true rfl) (Nat.le_of_ble_eq_true rfl) (Nat.le_of_ble_eq_true rfl) (Nat.le_of_ble_eq_true rfl) ?_
  refine ww_iload_n dX10_person_12 rfl rfl ?_
  refine ww_tableOut (tgt := 80) dX10_person_13 (by decide) (by decide) ?_
  refine ww_aload_n dX10_person_80 rfl rfl ?_
  refine ww_get 1 dX10_person_81 (hC.K0) rfl (by decide) inX10 wg_265 hC.D1 ?_
  refine ww_iload_n dX10_person_84 rfl rfl ?_
  refine ww_cVr (M := m_X10_person) (pc := 85) (v := .int (laI (fun n => f n == nI q) 61)) (h1 := h) (st := []) (bc := 0) (bs := 0) (c_Land_greatestOf hst hL (nI q)) vv_X2_greatestOf dX10_person_85 wg_836 hL.1 rfl rfl rfl rfl (Nat.le_of_ble_eq_true rfl) (Nat.le_of_ble_eq_true rfl) (Nat.le_of_ble_eq_true rfl) (Nat.le_of_ble_eq_true rfl) ?_
  exact ww_iret dX10_person_88 rfl ⟨rfl, Same.rf⟩
set_option maxHeartbeats 4000000 in
set_option maxRecDepth 100000 in
theorem c_K_person_no0 {l : Launch} {Z : EE} (hst : l.stackTraces = false) {h : PH} {la lw bk : Nat} (hC : CL h la lw bk) {np du : Nat} {f : Nat → Int32} (hL : LandAt h la np du f) {mi : Int32} (hmi : hp_F h 0 12 = .int mi) (q : Int32) (w : Int32) (hout : outP np q) : CC l Z m_X10_person 7 1 6 [.ref 0, .int q, .int w] h (TH nsX (hp_sF h 0 12 (.int (mi + nI 1)))) := by
  refine ee_entry hst (by decide +kernel) rfl rfl (by simp [Value.category]) (Nat.le_of_ble_eq_true rfl) ?_
  refine ww_lv (lv2 := [.ref 0, .int q, .int w]) rfl ?_
  have hla := hC.la
  have hlw := hC.lw
  have hbk := hC.bk
  refine ww_aload_n dX10_person_0 rfl rfl ?_
  refine ww_iload_n dX10_person_1 rfl rfl ?_
  exact ww_cVt (M := m_X10_person) (pc := 2) (st := []) (bc := 0) (bs := 0) (c_needPerson_f hst hC.K0 hC.D1 hL.1 hL.2.2.2.1 hL.2.2.2.2.2.2.1 hmi q hout) vv_X10_needPerson dX10_person_2 wg_803 (hC.K0) rfl rfl rfl rfl (Nat.le_of_ble_eq_true rfl) (Nat.le_of_ble_eq_true rfl) (Nat.le_of_ble_eq_true rfl) (Nat.le_of_ble_eq_true rfl) ⟨rfl, rfl⟩
set_option maxHeartbeats 4000000 in
set_option maxRecDepth 100000 in
theorem c_K_person_no1 {l : Launch} {Z : EE} (hst : l.stackTraces = false) {h : PH} {la lw bk : Nat} (hC : CL h la lw bk) {np du : Nat} {f : Nat → Int32} (hL : LandAt h la np du f) {wr : Int32} (hwr : hp_F h 0 13 = .int wr) (q : Nat) (hq : q < np) (w : Int32) (hout : ¬ (nI 0 ≤ w ∧ w ≤ nI 4)) : CC l Z m_X10_person 7 1 6 [.ref 0, .int (nI q), .int w] h (TH iaX (hp_sF h 0 13 (.int (wr + nI 1)))) := by
  refine ee_entry hst (by decide +kernel) rfl rfl (by simp [Value.category]) (Nat.le_of_ble_eq_true rfl) ?_
  refine ww_lv (lv2 := [.ref 0, .int (nI q), .int w]) rfl ?_
  have hla := hC.la
  have hlw := hC.lw
  have hbk := hC.bk
  refine ww_aload_n dX10_person_0 rfl rfl ?_
  refine ww_iload_n dX10_person_1 rfl rfl ?_
  refine ww_cV0 (M := m_X10_person) (pc := 2) (h1 := h) (st := []) (bc := 1) (bs := 6) (c_needPerson_t hst hC.K0 hC.D1 hL.1 hL.2.2.2.1 hL.2.2.2.2.2.2.1 q hq) vv_X10_needPerson dX10_person_2 wg_803 (hC.K0) rfl rfl rfl rfl (Nat.le_of_ble_eq_true rfl) (Nat.le_of_ble_eq_true rfl) (Nat.le_of_ble_eq_true rfl) (Nat.le_of_ble_eq_true rfl) ?_
  refine ww_aload_n dX10_person_5 rfl rfl ?_
  refine ww_iload_n dX10_person_6 rfl rfl ?_
  refine ww_iconst (v := nI 0) dX10_person_7 (by decide) ?_
  refine ww_iconst (v := nI 4) dX10_person_8 (by decide) ?_
  exact ww_cVt (M := m_X10_person) (pc := 9) (st := []) (bc := 0) (bs := 0) (c_within_f hst hC.K0 hwr w (nI 0) (nI 4) hout) vv_X10_within dX10_person_9 wg_410 (hC.K0) rfl rfl rfl rfl (Nat.le_of_ble_eq_true rfl) (Nat.le_of_ble_eq_true rfl) (Nat.le_of_ble_eq_true rfl) (Nat.le_of_ble_eq_true rfl) ⟨rfl, rfl⟩
set_option maxHeartbeats 4000000 in
set_option maxRecDepth 100000 in
theorem l_K_leastPrime {l : Launch} {Z : EE} (hst : l.stackTraces = false) (n : Nat) (hn : n ≤ 60) (h : PH) : ∀ (j k : Nat), k + j = n + 1 ∨ (j = 0 ∧ n < k ∧ k ≤ 61) → 2 ≤ k → WW l Z m_X10_leastPrime 0 0 0 2 [.int (nI n), .int (nI k)] [] h (RT (some (.int (fsI (fun i => n % i == 0) k j))) h) := by
  intro j
  induction j with
  | zero =>
    intro k hk h2
    refine ww_iload_n dX10_leastPrime_2 rfl rfl ?_
    refine ww_iload_n dX10_leastPrime_3 rfl rfl ?_
    refine ww_icmp_gtN (tgt := 21) dX10_leastPrime_4 (by decide) (by omega) (by omega) (fun c4 => ?_) (fun c4 => ?_)
    · refine ww_iconst (v := -1) dX10_leastPrime_21 (by decide) ?_
      exact ww_iret dX10_leastPrime_22 rfl ⟨rfl, rfl⟩
    · exfalso; omega
  | succ j ih =>
    intro k hk h2
    refine ww_iload_n dX10_leastPrime_2 rfl rfl ?_
    refine ww_iload_n dX10_leastPrime_3 rfl rfl ?_
    refine ww_icmp_gtN (tgt := 21) dX10_leastPrime_4 (by decide) (by have := Nat.mod_le n k; omega) (by have := Nat.mod_le n k; omega) (fun c4 => ?_) (fun c4 => ?_)
    · exfalso; omega
    · refine ww_iload_n dX10_leastPrime_7 rfl rfl ?_
      refine ww_iload_n dX10_leastPrime_8 rfl rfl ?_
      refine ww_iremN dX10_leastPrime_9 (by have := Nat.mod_le n k; omega) (by have := Nat.mod_le n k; omega) (by have := Nat.mod_le n k; omega) ?_
      refine ww_if_neN (tgt := 15) dX10_leastPrime_10 (by decide) (by have := Nat.mod_le n k; omega) (fun c10 => ?_) (fun c10 => ?_)
      · refine ww_incN (c := 1) (lv2 := [.int (nI n), .int (nI (k + 1))]) dX10_leastPrime_15 rfl rfl rfl (by decide) rfl ?_
        refine ww_goto (tgt := 2) dX10_leastPrime_18 (by decide) ?_
        rw [show fsI (fun i => n % i == 0) k (j + 1) = fsI (fun i => n % i == 0) (k + 1) j by simp [fsI, Nat.ne_of_gt c10]]
        exact ih (k + 1) (by omega) (by omega)
      · refine ww_iload_n dX10_leastPrime_13 rfl rfl ?_
        exact ww_iret dX10_leastPrime_14 rfl ⟨by rw [show fsI (fun i => n % i == 0) k (j + 1) = nI k by simp [fsI, c10]], rfl⟩
set_option maxHeartbeats 4000000 in
set_option maxRecDepth 100000 in
theorem c_K_leastPrime {l : Launch} {Z : EE} (hst : l.stackTraces = false) (n : Nat) (hn : n ≤ 60) (h : PH) : CC l Z m_X10_leastPrime 0 0 0 [.int (nI n)] h (RT (some (.int (fsI (fun i => n % i == 0) 2 (n - 1)))) h) := by
  refine ee_entry hst (by decide +kernel) rfl rfl (by simp [Value.category]) (Nat.le_of_ble_eq_true rfl) ?_
  refine ww_lv (lv2 := [.int (nI n), UU]) rfl ?_
  refine ww_iconst (v := nI 2) dX10_leastPrime_0 (by decide) ?_
  refine ww_sti_n (lv2 := [.int (nI n), .int (nI 2)]) dX10_leastPrime_1 rfl rfl (by decide) rfl ?_
  exact l_K_leastPrime hst n hn h (n - 1) 2 (by omega) (by omega)
set_option maxHeartbeats 4000000 in
set_option maxRecDepth 100000 in
theorem c_K_number0 {l : Launch} {Z : EE} (hst : l.stackTraces = false) {h : PH} {la lw bk : Nat} (hC : CL h la lw bk) {np du : Nat} {f : Nat → Int32} (hL : LandAt h la np du f) (n : Nat) (hn : n ≤ 60) : CC l Z m_X10_number 3 0 0 [.ref 0, .int (nI n), .int (nI 0)] h (COk (f n) h) := by
  refine ee_entry hst (by decide +kernel) rfl rfl (by simp [Value.category]) (Nat.le_of_ble_eq_true rfl) ?_
  refine ww_lv (lv2 := [.ref 0, .int (nI n), .int (nI 0)]) rfl ?_
  have hla := hC.la
  have hlw := hC.lw
  have hbk := hC.bk
  refine ww_aload_n dX10_number_0 rfl rfl ?_
  refine ww_iload_n dX10_number_1 rfl rfl ?_
  refine ww_cV0 (M := m_X10_number) (pc := 2) (h1 := h) (st := []) (bc := 0) (bs := 0) (c_needNumber_t hst hC.K0 n hn) vv_X10_needNumber dX10_number_2 wg_847 (hC.K0) rfl rfl rfl rfl (Nat.le_of_ble_eq_true rfl) (Nat.le_of_ble_eq_true rfl) (Nat.le_of_ble_eq_true rfl) (Nat.le_of_ble_eq_true rfl) ?_
  refine ww_aload_n dX10_number_5 rfl rfl ?_
  refine ww_iload_n dX10_number_6 rfl rfl ?_
  refine ww_iconst (v := nI 0) dX10_number_7 (by decide) ?_
  refine ww_iconst (v := nI 4) dX10_number_8 (by decide) ?_
  refine ww_cV0 (M := m_X10_number) (pc := 9) (h1 := h) (st := []) (bc := 0) (bs := 0) (c_within_t hst (nI 0) (nI 0) (nI 4) (by decide) (by decide) _) vv_X10_within dX10_number_9 wg_410 (hC.K0) rfl rfl rfl rfl (Nat.le_of_ble_eq_true rfl) (Nat.le_of_ble_eq_true rfl) (Nat.le_of_ble_eq_true rfl) (Nat.le_of_ble_eq_true rfl) ?_
  refine ww_iload_n dX10_number_12 rfl rfl ?_
  refine ww_tableIn (off := 31) (tgt := 44) dX10_number_13 (by decide) (by decide) (by decide) (by decide) ?_
  refine ww_aload_n dX10_number_44 rfl rfl ?_
  refine ww_get 1 dX10_number_45 (hC.K0) rfl (by decide) inX10 wg_265 hC.D1 ?_
  refine ww_iload_n dX10_number_48 rfl rfl ?_
  refine ww_cVr (M := m_X10_number) (pc := 49) (v := .int (f n)) (h1 := h) (st := []) (bc := 0) (bs := 0) (c_Land_owner hst hL n (by omega)) vv_X2_owner dX10_number_49 wg_852 hL.1 rfl rfl rfl rfl (Nat.le_of_ble_eq_true rfl) (Nat.le_of_ble_eq_true rfl) (Nat.le_of_ble_eq_true rfl) (Nat.le_of_ble_eq_true rfl) ?_
  exact ww_iret dX10_number_52 rfl ⟨rfl, Same.rf⟩
set_option maxHeartbeats 4000000 in
set_option maxRecDepth 100000 in
theorem c_K_number1 {l : Launch} {Z : EE} (hst : l.stackTraces = false) {h : PH} {la lw bk : Nat} (hC : CL h la lw bk) {np du : Nat} {f : Nat → Int32} (hL : LandAt h la np du f) (n : Nat) (hn : n ≤ 60) : CC l Z m_X10_number 3 0 0 [.ref 0, .int (nI n), .int (nI 1)] h (COk (f (61 + n)) h) := by
  refine ee_entry hst (by decide +kernel) rfl rfl (by simp [Value.category]) (Nat.le_of_ble_eq_true rfl) ?_
  refine ww_lv (lv2 := [.ref 0, .int (nI n), .int (nI 1)]) rfl ?_
  have hla := hC.la
  have hlw := hC.lw
  have hbk := hC.bk
  refine ww_aload_n dX10_number_0 rfl rfl ?_
  refine ww_iload_n dX10_number_1 rfl rfl ?_
  refine ww_cV0 (M := m_X10_number) (pc := 2) (h1 := h) (st := []) (bc := 0) (bs := 0) (c_needNumber_t hst hC.K0 n hn) vv_X10_needNumber dX10_number_2 wg_847 (hC.K0) rfl rfl rfl rfl (Nat.le_of_ble_eq_true rfl) (Nat.le_of_ble_eq_true rfl) (Nat.le_of_ble_eq_true rfl) (Nat.le_of_ble_eq_true rfl) ?_
  refine ww_aload_n dX10_number_5 rfl rfl ?_
  refine ww_iload_n dX10_number_6 rfl rfl ?_
  refine ww_iconst (v := nI 0) dX10_number_7 (by decide) ?_
  refine ww_iconst (v := nI 4) dX10_number_8 (by decide) ?_
  refine ww_cV0 (M := m_X10_number) (pc := 9) (h1 := h) (st := []) (bc := 0) (bs := 0) (c_within_t hst (nI 1) (nI 0) (nI 4) (by decide) (by decide) _) vv_X10_within dX10_number_9 wg_410 (hC.K0) rfl rfl rfl rfl (Nat.le_of_ble_eq_true rfl) (Nat.le_of_ble_eq_true rfl) (Nat.le_of_ble_eq_true rfl) (Nat.le_of_ble_eq_true rfl) ?_
  refine ww_iload_n dX10_number_12 rfl rfl ?_
  refine ww_tableIn (off := 40) (tgt := 53) dX10_number_13 (by decide) (by decide) (by decide) (by decide) ?_
  refine ww_aload_n dX10_number_53 rfl rfl ?_
  refine ww_get 1 dX10_number_54 (hC.K0) rfl (by decide) inX10 wg_265 hC.D1 ?_
  refine ww_iload_n dX10_number_57 rfl rfl ?_
  refine ww_cVr (M := m_X10_number) (pc := 58) (v := .int (f (61 + n))) (h1 := h) (st := []) (bc := 0) (bs := 0) (c_Land_rent hst hL n (by omega)) vv_X2_rent dX10_number_58 wg_853 hL.1 rfl rfl rfl rfl (Nat.le_of_ble_eq_true rfl) (Nat.le_of_ble_eq_true rfl) (Nat.le_of_ble_eq_true rfl) (Nat.le_of_ble_eq_true rfl) ?_
  exact ww_iret dX10_number_61 rfl ⟨rfl, Same.rf⟩
set_option maxHeartbeats 4000000 in
set_option maxRecDepth 100000 in
theorem c_K_number2 {l : Launch} {Z : EE} (hst : l.stackTraces = false) {h : PH} {la lw bk : Nat} (hC : CL h la lw bk) {np du : Nat} {f : Nat → Int32} (hL : LandAt h la np du f) (n : Nat) (hn : n ≤ 60) : CC l Z m_X10_number 3 0 0 [.ref 0, .int (nI n), .int (nI 2)] h (COk (f (122 + n)) h) := by
  refine ee_entry hst (by decide +kernel) rfl rfl (by simp [Value.category]) (Nat.le_of_ble_eq_true rfl) ?_
  refine ww_lv (lv2 := [.ref 0, .int (nI n), .int (nI 2)]) rfl ?_
  have hla := hC.la
  have hlw := hC.lw
  have hbk := hC.bk
  refine ww_aload_n dX10_number_0 rfl rfl ?_
  refine ww_iload_n dX10_number_1 rfl rfl ?_
  refine ww_cV0 (M := m_X10_number) (pc := 2) (h1 := h) (st := []) (bc := 0) (bs := 0) (c_needNumber_t hst hC.K0 n hn) vv_X10_needNumber dX10_number_2 wg_847 (hC.K0) rfl rfl rfl rfl (Nat.le_of_ble_eq_true rfl) (Nat.le_of_ble_eq_true rfl) (Nat.le_of_ble_eq_true rfl) (Nat.le_of_ble_eq_true rfl) ?_
  refine ww_aload_n dX10_number_5 rfl rfl ?_
  refine ww_iload_n dX10_number_6 rfl rfl ?_
  refine ww_iconst (v := nI 0) dX10_number_7 (by decide) ?_
  refine ww_iconst (v := nI 4) dX10_number_8 (by decide) ?_
  refine ww_cV0 (M := m_X10_number) (pc := 9) (h1 := h) (st := []) (bc := 0) (bs := 0) (c_within_t hst (nI 2) (nI 0) (nI 4) (by decide) (by decide) _) vv_X10_within dX10_number_9 wg_410 (hC.K0) rfl rfl rfl rfl (Nat.le_of_ble_eq_true rfl) (Nat.le_of_ble_eq_true rfl) (Nat.le_of_ble_eq_true rfl) (Nat.le_of_ble_eq_true rfl) ?_
  refine ww_iload_n dX10_number_12 rfl rfl ?_
  refine ww_tableIn (off := 49) (tgt := 62) dX10_number_13 (by decide) (by decide) (by decide) (by decide) ?_
  refine ww_aload_n dX10_number_62 rfl rfl ?_
  refine ww_get 1 dX10_number_63 (hC.K0) rfl (by decide) inX10 wg_265 hC.D1 ?_
  refine ww_iload_n dX10_number_66 rfl rfl ?_
  refine ww_cVr (M := m_X10_number) (pc := 67) (v := .int (f (122 + n))) (h1 := h) (st := []) (bc := 0) (bs := 0) (c_Land_used hst hL n (by omega)) vv_X2_used dX10_number_67 wg_854 hL.1 rfl rfl rfl rfl (Nat.le_of_ble_eq_true rfl) (Nat.le_of_ble_eq_true rfl) (Nat.le_of_ble_eq_true rfl) (Nat.le_of_ble_eq_true rfl) ?_
  exact ww_iret dX10_number_70 rfl ⟨rfl, Same.rf⟩
set_option maxHeartbeats 4000000 in
set_option maxRecDepth 100000 in
theorem c_K_number3 {l : Launch} {Z : EE} (hst : l.stackTraces = false) {h : PH} {la lw bk : Nat} (hC : CL h la lw bk) {np du : Nat} {f : Nat → Int32} (hL : LandAt h la np du f) (n : Nat) (hn : n ≤ 60) : CC l Z m_X10_number 3 0 0 [.ref 0, .int (nI n), .int (nI 3)] h (COk (js_parts.getD n 0) h) := by
  refine ee_entry hst (by decide +kernel) rfl rfl (by simp [Value.category]) (Nat.le_of_ble_eq_true rfl) ?_
  refine ww_lv (lv2 := [.ref 0, .int (nI n), .int (nI 3)]) rfl ?_
  have hla := hC.la
  have hlw := hC.lw
  have hbk := hC.bk
  refine ww_aload_n dX10_number_0 rfl rfl ?_
  refine ww_iload_n dX10_number_1 rfl rfl ?_
  refine ww_cV0 (M := m_X10_number) (pc := 2) (h1 := h) (st := []) (bc := 0) (bs := 0) (c_needNumber_t hst hC.K0 n hn) vv_X10_needNumber dX10_number_2 wg_847 (hC.K0) rfl rfl rfl rfl (Nat.le_of_ble_eq_true rfl) (Nat.le_of_ble_eq_true rfl) (Nat.le_of_ble_eq_true rfl) (Nat.le_of_ble_eq_true rfl) ?_
  refine ww_aload_n dX10_number_5 rfl rfl ?_
  refine ww_iload_n dX10_number_6 rfl rfl ?_
  refine ww_iconst (v := nI 0) dX10_number_7 (by decide) ?_
  refine ww_iconst (v := nI 4) dX10_number_8 (by decide) ?_
  refine ww_cV0 (M := m_X10_number) (pc := 9) (h1 := h) (st := []) (bc := 0) (bs := 0) (c_within_t hst (nI 3) (nI 0) (nI 4) (by decide) (by decide) _) vv_X10_within dX10_number_9 wg_410 (hC.K0) rfl rfl rfl rfl (Nat.le_of_ble_eq_true rfl) (Nat.le_of_ble_eq_true rfl) (Nat.le_of_ble_eq_true rfl) (Nat.le_of_ble_eq_true rfl) ?_
  refine ww_iload_n dX10_number_12 rfl rfl ?_
  refine ww_tableIn (off := 58) (tgt := 71) dX10_number_13 (by decide) (by decide) (by decide) (by decide) ?_
  refine ww_parts dX10_number_71 wg_855 ?_
  refine ww_iload_n dX10_number_74 rfl rfl ?_
  refine ww_paldN dX10_number_75 (by omega) ?_
  exact ww_iret dX10_number_76 rfl ⟨rfl, Same.rf⟩
set_option maxHeartbeats 4000000 in
set_option maxRecDepth 100000 in
theorem c_K_number4 {l : Launch} {Z : EE} (hst : l.stackTraces = false) {h : PH} {la lw bk : Nat} (hC : CL h la lw bk) {np du : Nat} {f : Nat → Int32} (hL : LandAt h la np du f) (n : Nat) (hn : n ≤ 60) : CC l Z m_X10_number 3 0 0 [.ref 0, .int (nI n), .int (nI 4)] h (COk (fsI (fun i => n % i == 0) 2 (n - 1)) h) := by
  refine ee_entry hst (by decide +kernel) rfl rfl (by simp [Value.category]) (Nat.le_of_ble_eq_true rfl) ?_
  refine ww_lv (lv2 := [.ref 0, .int (nI n), .int (nI 4)]) rfl ?_
  have hla := hC.la
  have hlw := hC.lw
  have hbk := hC.bk
  refine ww_aload_n dX10_number_0 rfl rfl ?_
  refine ww_iload_n dX10_number_1 rfl rfl ?_
  refine ww_cV0 (M := m_X10_number) (pc := 2) (h1 := h) (st := []) (bc := 0) (bs := 0) (c_needNumber_t hst hC.K0 n hn) vv_X10_needNumber dX10_number_2 wg_847 (hC.K0) rfl rfl rfl rfl (Nat.le_of_ble_eq_true rfl) (Nat.le_of_ble_eq_true rfl) (Nat.le_of_ble_eq_true rfl) (Nat.le_of_ble_eq_true rfl) ?_
  refine ww_aload_n dX10_number_5 rfl rfl ?_
  refine ww_iload_n dX10_number_6 rfl rfl ?_
  refine ww_iconst (v := nI 0) dX10_number_7 (by decide) ?_
  refine ww_iconst (v := nI 4) dX10_number_8 (by decide) ?_
  refine ww_cV0 (M := m_X10_number) (pc := 9) (h1 := h) (st := []) (bc := 0) (bs := 0) (c_within_t hst (nI 4) (nI 0) (nI 4) (by decide) (by decide) _) vv_X10_within dX10_number_9 wg_410 (hC.K0) rfl rfl rfl rfl (Nat.le_of_ble_eq_true rfl) (Nat.le_of_ble_eq_true rfl) (Nat.le_of_ble_eq_true rfl) (Nat.le_of_ble_eq_true rfl) ?_
  refine ww_iload_n dX10_number_12 rfl rfl ?_
  refine ww_tableOut (tgt := 77) dX10_number_13 (by decide) (by decide) ?_
  refine ww_iload_n dX10_number_77 rfl rfl ?_
  refine ww_cSr (M := m_X10_number) (pc := 78) (v := .int (fsI (fun i => n % i == 0) 2 (n - 1))) (h1 := h) (st := []) (bc := 0) (bs := 0) (c_K_leastPrime hst n hn _) vv_X10_leastPrime dX10_number_78 wg_856 rfl rfl rfl (Nat.le_of_ble_eq_true rfl) (Nat.le_of_ble_eq_true rfl) (Nat.le_of_ble_eq_true rfl) (Nat.le_of_ble_eq_true rfl) ?_
  exact ww_iret dX10_number_81 rfl ⟨rfl, Same.rf⟩
set_option maxHeartbeats 4000000 in
set_option maxRecDepth 100000 in
theorem c_K_number_no0 {l : Launch} {Z : EE} (hst : l.stackTraces = false) {h : PH} {la lw bk : Nat} (hC : CL h la lw bk) {np du : Nat} {f : Nat → Int32} (hL : LandAt h la np du f) {mi : Int32} (hmi : hp_F h 0 12 = .int mi) (n : Int32) (w : Int32) (hout : outR 0 60 n) : CC l Z m_X10_number 7 1 6 [.ref 0, .int n, .int w] h (TH nsX (hp_sF h 0 12 (.int (mi + nI 1)))) := by
  refine ee_entry hst (by decide +kernel) rfl rfl (by simp [Value.category]) (Nat.le_of_ble_eq_true rfl) ?_
  refine ww_lv (lv2 := [.ref 0, .int n, .int w]) rfl ?_
  have hla := hC.la
  have hlw := hC.lw
  have hbk := hC.bk
  refine ww_aload_n dX10_number_0 rfl rfl ?_
  refine ww_iload_n dX10_number_1 rfl rfl ?_
  exact ww_cVt (M := m_X10_number) (pc := 2) (st := []) (bc := 0) (bs := 0) (c_needNumber_f hst hC.K0 hmi n hout) vv_X10_needNumber dX10_number_2 wg_847 (hC.K0) rfl rfl rfl rfl (Nat.le_of_ble_eq_true rfl) (Nat.le_of_ble_eq_true rfl) (Nat.le_of_ble_eq_true rfl) (Nat.le_of_ble_eq_true rfl) ⟨rfl, rfl⟩
set_option maxHeartbeats 4000000 in
set_option maxRecDepth 100000 in
theorem c_K_number_no1 {l : Launch} {Z : EE} (hst : l.stackTraces = false) {h : PH} {la lw bk : Nat} (hC : CL h la lw bk) {np du : Nat} {f : Nat → Int32} (hL : LandAt h la np du f) {wr : Int32} (hwr : hp_F h 0 13 = .int wr) (n : Nat) (hn : n ≤ 60) (w : Int32) (hout : ¬ (nI 0 ≤ w ∧ w ≤ nI 4)) : CC l Z m_X10_number 7 1 6 [.ref 0, .int (nI n), .int w] h (TH iaX (hp_sF h 0 13 (.int (wr + nI 1)))) := by
  refine ee_entry hst (by decide +kernel) rfl rfl (by simp [Value.category]) (Nat.le_of_ble_eq_true rfl) ?_
  refine ww_lv (lv2 := [.ref 0, .int (nI n), .int w]) rfl ?_
  have hla := hC.la
  have hlw := hC.lw
  have hbk := hC.bk
  refine ww_aload_n dX10_number_0 rfl rfl ?_
  refine ww_iload_n dX10_number_1 rfl rfl ?_
  refine ww_cV0 (M := m_X10_number) (pc := 2) (h1 := h) (st := []) (bc := 1) (bs := 6) (c_needNumber_t hst hC.K0 n hn) vv_X10_needNumber dX10_number_2 wg_847 (hC.K0) rfl rfl rfl rfl (Nat.le_of_ble_eq_true rfl) (Nat.le_of_ble_eq_true rfl) (Nat.le_of_ble_eq_true rfl) (Nat.le_of_ble_eq_true rfl) ?_
  refine ww_aload_n dX10_number_5 rfl rfl ?_
  refine ww_iload_n dX10_number_6 rfl rfl ?_
  refine ww_iconst (v := nI 0) dX10_number_7 (by decide) ?_
  refine ww_iconst (v := nI 4) dX10_number_8 (by decide) ?_
  exact ww_cVt (M := m_X10_number) (pc := 9) (st := []) (bc := 0) (bs := 0) (c_within_f hst hC.K0 hwr w (nI 0) (nI 4) hout) vv_X10_within dX10_number_9 wg_410 (hC.K0) rfl rfl rfl rfl (Nat.le_of_ble_eq_true rfl) (Nat.le_of_ble_eq_true rfl) (Nat.le_of_ble_eq_true rfl) (Nat.le_of_ble_eq_true rfl) ⟨rfl, rfl⟩
set_option maxHeartbeats 4000000 in
set_option maxRecDepth 100000 in
theorem l_K_landlord {l : Launch} {Z : EE} (hst : l.stackTraces = false) {h : PH} {la lw bk : Nat} (hC : CL h la lw bk) {np du : Nat} {f : Nat → Int32} (hL : LandAt h la np du f) (w : Int32) {Post : Res → PH → Prop} : ∀ (j k : Nat), k + j = np → WW l Z m_X10_landlord 3 0 0 55 [.ref 0, .int w, .int ((llF f np).1), .int ((llF f np).2), .int (nI np), UU] [] h Post → WW l Z m_X10_landlord 3 0 0 14 [.ref 0, .int w, .int ((llF f k).1), .int ((llF f k).2), .int (nI k), UU] [] h Post := by
  have hla := hC.la
  have hlw := hC.lw
  have hbk := hC.bk
  have hnp := hL.2.2.2.2.2.2.1
  intro j
  induction j with
  | zero =>
    intro k hk hexit
    have hk0 : k = np := by omega
    subst hk0
    refine ww_iload dX10_landlord_14 rfl ?_
    refine ww_aload_n dX10_landlord_16 rfl rfl ?_
    refine ww_get 1 dX10_landlord_17 (hC.K0) rfl (by decide) inX10 wg_265 hC.D1 ?_
    refine ww_getN 1 dX10_landlord_20 hL.1 rfl (by decide) inX2 wn_77 hL.2.2.2.1 ?_
    refine ww_icmp_geN (tgt := 55) dX10_landlord_23 (by decide) (by omega) (by omega) (fun c23 => ?_) (fun c23 => ?_)
    · exact hexit
    · exfalso; omega
  | succ j ih =>
    intro k hk hexit
    refine ww_iload dX10_landlord_14 rfl ?_
    refine ww_aload_n dX10_landlord_16 rfl rfl ?_
    refine ww_get 1 dX10_landlord_17 (hC.K0) rfl (by decide) inX10 wg_265 hC.D1 ?_
    refine ww_getN 1 dX10_landlord_20 hL.1 rfl (by decide) inX2 wn_77 hL.2.2.2.1 ?_
    refine ww_icmp_geN (tgt := 55) dX10_landlord_23 (by decide) (by omega) (by omega) (fun c23 => ?_) (fun c23 => ?_)
    · exfalso; omega
    · refine ww_aload_n dX10_landlord_26 rfl rfl ?_
      refine ww_get 1 dX10_landlord_27 (hC.K0) rfl (by decide) inX10 wg_265 hC.D1 ?_
      refine ww_iload dX10_landlord_30 rfl ?_
      refine ww_cVr (M := m_X10_landlord) (pc := 32) (v := .int (smI (fun n => if f n = nI k then f (61 + n) else 0) 61)) (h1 := h) (st := []) (bc := 0) (bs := 0) (c_Land_rentsOf hst hL (nI k)) vv_X2_rentsOf dX10_landlord_32 wg_828 hL.1 rfl rfl rfl rfl (Nat.le_of_ble_eq_true rfl) (Nat.le_of_ble_eq_true rfl) (Nat.le_of_ble_eq_true rfl) (Nat.le_of_ble_eq_true rfl) ?_
      refine ww_sti (lv2 := [.ref 0, .int w, .int ((llF f k).1), .int ((llF f k).2), .int (nI k), .int (smI (fun n => if f n = nI k then f (61 + n) else 0) 61)]) dX10_landlord_35 rfl (by decide) rfl ?_
      refine ww_iload dX10_landlord_37 rfl ?_
      refine ww_iload_n dX10_landlord_39 rfl rfl ?_
      refine ww_icmp_le (tgt := 49) dX10_landlord_40 (by decide) (fun c40 => ?_) (fun c40 => ?_)
      · refine ww_incN (c := 1) (lv2 := [.ref 0, .int w, .int ((llF f k).1), .int ((llF f k).2), .int (nI (k + 1)), .int (smI (fun n => if f n = nI k then f (61 + n) else 0) 61)]) dX10_landlord_49 rfl rfl rfl (by decide) rfl ?_
        refine ww_goto (tgt := 14) dX10_landlord_52 (by decide) ?_
        refine ww_fg (lv2 := [.ref 0, .int w, .int ((llF f k).1), .int ((llF f k).2), .int (nI (k + 1)), UU]) ⟨Or.inr rfl, Or.inr rfl, Or.inr rfl, Or.inr rfl, Or.inr rfl, Or.inl rfl, trivial⟩ ?_
        refine ww_lv (lv2 := [.ref 0, .int w, .int ((llF f (k + 1)).1), .int ((llF f (k + 1)).2), .int (nI (k + 1)), UU]) (by simp only [← Int32.not_lt, Classical.not_not] at c40; simp [llF, c40]) ?_
        exact ih (k + 1) (by omega) hexit
      · refine ww_iload dX10_landlord_43 rfl ?_
        refine ww_sti_n (lv2 := [.ref 0, .int w, .int ((llF f k).1), .int (smI (fun n => if f n = nI k then f (61 + n) else 0) 61), .int (nI k), .int (smI (fun n => if f n = nI k then f (61 + n) else 0) 61)]) dX10_landlord_45 rfl rfl (by decide) rfl ?_
        refine ww_iload dX10_landlord_46 rfl ?_
        refine ww_sti_n (lv2 := [.ref 0, .int w, .int (nI k), .int (smI (fun n => if f n = nI k then f (61 + n) else 0) 61), .int (nI k), .int (smI (fun n => if f n = nI k then f (61 + n) else 0) 61)]) dX10_landlord_48 rfl rfl (by decide) rfl ?_
        refine ww_incN (c := 1) (lv2 := [.ref 0, .int w, .int (nI k), .int (smI (fun n => if f n = nI k then f (61 + n) else 0) 61), .int (nI (k + 1)), .int (smI (fun n => if f n = nI k then f (61 + n) else 0) 61)]) dX10_landlord_49 rfl rfl rfl (by decide) rfl ?_
        refine ww_goto (tgt := 14) dX10_landlord_52 (by decide) ?_
        refine ww_fg (lv2 := [.ref 0, .int w, .int (nI k), .int (smI (fun n => if f n = nI k then f (61 + n) else 0) 61), .int (nI (k + 1)), UU]) ⟨Or.inr rfl, Or.inr rfl, Or.inr rfl, Or.inr rfl, Or.inr rfl, Or.inl rfl, trivial⟩ ?_
        refine ww_lv (lv2 := [.ref 0, .int w, .int ((llF f (k + 1)).1), .int ((llF f (k + 1)).2), .int (nI (k + 1)), UU]) (by simp only [← Int32.not_lt, Classical.not_not] at c40; simp [llF, c40]) ?_
        exact ih (k + 1) (by omega) hexit
set_option maxHeartbeats 4000000 in
set_option maxRecDepth 100000 in
theorem c_K_landlord0 {l : Launch} {Z : EE} (hst : l.stackTraces = false) {h : PH} {la lw bk : Nat} (hC : CL h la lw bk) {np du : Nat} {f : Nat → Int32} (hL : LandAt h la np du f) : CC l Z m_X10_landlord 3 0 0 [.ref 0, .int (nI 0)] h (COk ((llF f np).1) h) := by
  refine ee_entry hst (by decide +kernel) rfl rfl (by simp [Value.category]) (Nat.le_of_ble_eq_true rfl) ?_
  refine ww_lv (lv2 := [.ref 0, .int (nI 0), UU, UU, UU, UU]) rfl ?_
  have hla := hC.la
  have hlw := hC.lw
  have hbk := hC.bk
  refine ww_aload_n dX10_landlord_0 rfl rfl ?_
  refine ww_iload_n dX10_landlord_1 rfl rfl ?_
  refine ww_iconst (v := nI 0) dX10_landlord_2 (by decide) ?_
  refine ww_iconst (v := nI 1) dX10_landlord_3 (by decide) ?_
  refine ww_cV0 (M := m_X10_landlord) (pc := 4) (h1 := h) (st := []) (bc := 0) (bs := 0) (c_within_t hst (nI 0) (nI 0) (nI 1) (by decide) (by decide) _) vv_X10_within dX10_landlord_4 wg_410 (hC.K0) rfl rfl rfl rfl (Nat.le_of_ble_eq_true rfl) (Nat.le_of_ble_eq_true rfl) (Nat.le_of_ble_eq_true rfl) (Nat.le_of_ble_eq_true rfl) ?_
  refine ww_iconst (v := -1) dX10_landlord_7 (by decide) ?_
  refine ww_sti_n (lv2 := [.ref 0, .int (nI 0), .int (-1), UU, UU, UU]) dX10_landlord_8 rfl rfl (by decide) rfl ?_
  refine ww_iconst (v := nI 0) dX10_landlord_9 (by decide) ?_
  refine ww_sti_n (lv2 := [.ref 0, .int (nI 0), .int (-1), .int (nI 0), UU, UU]) dX10_landlord_10 rfl rfl (by decide) rfl ?_
  refine ww_iconst (v := nI 0) dX10_landlord_11 (by decide) ?_
  refine ww_sti (lv2 := [.ref 0, .int (nI 0), .int (-1), .int (nI 0), .int (nI 0), UU]) dX10_landlord_12 rfl (by decide) rfl ?_
  have hnp := hL.2.2.2.2.2.2.1
  refine l_K_landlord hst hC hL (nI 0) np 0 (by omega) ?_
  refine ww_iload_n dX10_landlord_55 rfl rfl ?_
  refine ww_if_eqN (tgt := 64) dX10_landlord_56 (by decide) (by omega) (fun c56 => ?_) (fun c56 => ?_)
  · refine ww_iload_n dX10_landlord_64 rfl rfl ?_
    refine ww_goto (tgt := 69) dX10_landlord_65 (by decide) ?_
    exact ww_iret dX10_landlord_69 rfl ⟨rfl, Same.rf⟩
  · exact absurd c56 (by decide)
set_option maxHeartbeats 4000000 in
set_option maxRecDepth 100000 in
theorem c_K_landlord1 {l : Launch} {Z : EE} (hst : l.stackTraces = false) {h : PH} {la lw bk : Nat} (hC : CL h la lw bk) {np du : Nat} {f : Nat → Int32} (hL : LandAt h la np du f) : CC l Z m_X10_landlord 3 0 0 [.ref 0, .int (nI 1)] h (COk (if (llF f np).1 = -1 then -1 else (llF f np).2) h) := by
  refine ee_entry hst (by decide +kernel) rfl rfl (by simp [Value.category]) (Nat.le_of_ble_eq_true rfl) ?_
  refine ww_lv (lv2 := [.ref 0, .int (nI 1), UU, UU, UU, UU]) rfl ?_
  have hla := hC.la
  have hlw := hC.lw
  have hbk := hC.bk
  refine ww_aload_n dX10_landlord_0 rfl rfl ?_
  refine ww_iload_n dX10_landlord_1 rfl rfl ?_
  refine ww_iconst (v := nI 0) dX10_landlord_2 (by decide) ?_
  refine ww_iconst (v := nI 1) dX10_landlord_3 (by decide) ?_
  refine ww_cV0 (M := m_X10_landlord) (pc := 4) (h1 := h) (st := []) (bc := 0) (bs := 0) (c_within_t hst (nI 1) (nI 0) (nI 1) (by decide) (by decide) _) vv_X10_within dX10_landlord_4 wg_410 (hC.K0) rfl rfl rfl rfl (Nat.le_of_ble_eq_true rfl) (Nat.le_of_ble_eq_true rfl) (Nat.le_of_ble_eq_true rfl) (Nat.le_of_ble_eq_true rfl) ?_
  refine ww_iconst (v := -1) dX10_landlord_7 (by decide) ?_
  refine ww_sti_n (lv2 := [.ref 0, .int (nI 1), .int (-1), UU, UU, UU]) dX10_landlord_8 rfl rfl (by decide) rfl ?_
  refine ww_iconst (v := nI 0) dX10_landlord_9 (by decide) ?_
  refine ww_sti_n (lv2 := [.ref 0, .int (nI 1), .int (-1), .int (nI 0), UU, UU]) dX10_landlord_10 rfl rfl (by decide) rfl ?_
  refine ww_iconst (v := nI 0) dX10_landlord_11 (by decide) ?_
  refine ww_sti (lv2 := [.ref 0, .int (nI 1), .int (-1), .int (nI 0), .int (nI 0), UU]) dX10_landlord_12 rfl (by decide) rfl ?_
  have hnp := hL.2.2.2.2.2.2.1
  refine l_K_landlord hst hC hL (nI 1) np 0 (by omega) ?_
  refine ww_iload_n dX10_landlord_55 rfl rfl ?_
  refine ww_if_eqN (tgt := 64) dX10_landlord_56 (by decide) (by omega) (fun c56 => ?_) (fun c56 => ?_)
  · exact absurd c56 (by decide)
  · refine ww_iload_n dX10_landlord_59 rfl rfl ?_
    refine ww_iconst (v := -1) dX10_landlord_60 (by decide) ?_
    refine ww_icmp_ne (tgt := 68) dX10_landlord_61 (by decide) (fun c61 => ?_) (fun c61 => ?_)
    · refine ww_iload_n dX10_landlord_68 rfl rfl ?_
      exact ww_iret dX10_landlord_69 rfl ⟨by simp [c61], Same.rf⟩
    · refine ww_iload_n dX10_landlord_64 rfl rfl ?_
      refine ww_goto (tgt := 69) dX10_landlord_65 (by decide) ?_
      exact ww_iret dX10_landlord_69 rfl ⟨by simp [c61], Same.rf⟩
set_option maxHeartbeats 4000000 in
set_option maxRecDepth 100000 in
theorem c_K_landlord_no0 {l : Launch} {Z : EE} (hst : l.stackTraces = false) {h : PH} {la lw bk : Nat} (hC : CL h la lw bk) {np du : Nat} {f : Nat → Int32} (hL : LandAt h la np du f) {wr : Int32} (hwr : hp_F h 0 13 = .int wr) (w : Int32) (hout : ¬ (nI 0 ≤ w ∧ w ≤ nI 1)) : CC l Z m_X10_landlord 7 1 6 [.ref 0, .int w] h (TH iaX (hp_sF h 0 13 (.int (wr + nI 1)))) := by
  refine ee_entry hst (by decide +kernel) rfl rfl (by simp [Value.category]) (Nat.le_of_ble_eq_true rfl) ?_
  refine ww_lv (lv2 := [.ref 0, .int w, UU, UU, UU, UU]) rfl ?_
  have hla := hC.la
  have hlw := hC.lw
  have hbk := hC.bk
  refine ww_aload_n dX10_landlord_0 rfl rfl ?_
  refine ww_iload_n dX10_landlord_1 rfl rfl ?_
  refine ww_iconst (v := nI 0) dX10_landlord_2 (by decide) ?_
  refine ww_iconst (v := nI 1) dX10_landlord_3 (by decide) ?_
  exact ww_cVt (M := m_X10_landlord) (pc := 4) (st := []) (bc := 0) (bs := 0) (c_within_f hst hC.K0 hwr w (nI 0) (nI 1) hout) vv_X10_within dX10_landlord_4 wg_410 (hC.K0) rfl rfl rfl rfl (Nat.le_of_ble_eq_true rfl) (Nat.le_of_ble_eq_true rfl) (Nat.le_of_ble_eq_true rfl) (Nat.le_of_ble_eq_true rfl) ⟨rfl, rfl⟩
set_option maxHeartbeats 4000000 in
set_option maxRecDepth 100000 in
theorem l_K_worth {l : Launch} {Z : EE} (hst : l.stackTraces = false) {h : PH} {la lw bk : Nat} (hC : CL h la lw bk) {np du : Nat} {f : Nat → Int32} (hL : LandAt h la np du f) (q : Nat) {Post : Res → PH → Prop} : ∀ (j k : Nat), k + j = 61 → WW l Z m_X10_worth 3 0 0 44 [.ref 0, .int (nI q), .int (smI (fun n => if f n = nI q then nI 10 * f (61 + n) + nI 1 else 0) 61), .int (nI 61)] [] h Post → WW l Z m_X10_worth 3 0 0 9 [.ref 0, .int (nI q), .int (smI (fun n => if f n = nI q then nI 10 * f (61 + n) + nI 1 else 0) k), .int (nI k)] [] h Post := by
  have hla := hC.la
  have hlw := hC.lw
  have hbk := hC.bk
  intro j
  induction j with
  | zero =>
    intro k hk hexit
    have hk0 : k = 61 := by omega
    subst hk0
    refine ww_iload_n dX10_worth_9 rfl rfl ?_
    refine ww_bipush (v := nI 60) dX10_worth_10 (by decide) ?_
    refine ww_icmp_gtN (tgt := 44) dX10_worth_12 (by decide) (by omega) (by omega) (fun c12 => ?_) (fun c12 => ?_)
    · exact hexit
    · exfalso; omega
  | succ j ih =>
    intro k hk hexit
    refine ww_iload_n dX10_worth_9 rfl rfl ?_
    refine ww_bipush (v := nI 60) dX10_worth_10 (by decide) ?_
    refine ww_icmp_gtN (tgt := 44) dX10_worth_12 (by decide) (by omega) (by omega) (fun c12 => ?_) (fun c12 => ?_)
    · exfalso; omega
    · refine ww_aload_n dX10_worth_15 rfl rfl ?_
      refine ww_get 1 dX10_worth_16 (hC.K0) rfl (by decide) inX10 wg_265 hC.D1 ?_
      refine ww_iload_n dX10_worth_19 rfl rfl ?_
      refine ww_cVr (M := m_X10_worth) (pc := 20) (v := .int (f k)) (h1 := h) (st := []) (bc := 0) (bs := 0) (c_Land_owner hst hL k (by omega)) vv_X2_owner dX10_worth_20 wg_852 hL.1 rfl rfl rfl rfl (Nat.le_of_ble_eq_true rfl) (Nat.le_of_ble_eq_true rfl) (Nat.le_of_ble_eq_true rfl) (Nat.le_of_ble_eq_true rfl) ?_
      refine ww_iload_n dX10_worth_23 rfl rfl ?_
      refine ww_icmp_ne (tgt := 38) dX10_worth_24 (by decide) (fun c24 => ?_) (fun c24 => ?_)
      · refine ww_incN (c := 1) (lv2 := [.ref 0, .int (nI q), .int (smI (fun n => if f n = nI q then nI 10 * f (61 + n) + nI 1 else 0) k), .int (nI (k + 1))]) dX10_worth_38 rfl rfl rfl (by decide) rfl ?_
        refine ww_goto (tgt := 9) dX10_worth_41 (by decide) ?_
        refine ww_lv (lv2 := [.ref 0, .int (nI q), .int (smI (fun n => if f n = nI q then nI 10 * f (61 + n) + nI 1 else 0) (k + 1)), .int (nI (k + 1))]) (by simp [smI, c24]) ?_
        exact ih (k + 1) (by omega) hexit
      · refine ww_iload_n dX10_worth_27 rfl rfl ?_
        refine ww_aload_n dX10_worth_28 rfl rfl ?_
        refine ww_get 1 dX10_worth_29 (hC.K0) rfl (by decide) inX10 wg_265 hC.D1 ?_
        refine ww_iload_n dX10_worth_32 rfl rfl ?_
        refine ww_cVr (M := m_X10_worth) (pc := 33) (v := .int (nI 10 * f (61 + k) + nI 1)) (h1 := h) (st := [.int (smI (fun n => if f n = nI q then nI 10 * f (61 + n) + nI 1 else 0) k)]) (bc := 0) (bs := 0) (c_Land_price hst hL k (by omega)) vv_X2_price dX10_worth_33 wg_1141 hL.1 rfl rfl rfl rfl (Nat.le_of_ble_eq_true rfl) (Nat.le_of_ble_eq_true rfl) (Nat.le_of_ble_eq_true rfl) (Nat.le_of_ble_eq_true rfl) ?_
        refine ww_iadd dX10_worth_36 ?_
        refine ww_sti_n (lv2 := [.ref 0, .int (nI q), .int ((smI (fun n => if f n = nI q then nI 10 * f (61 + n) + nI 1 else 0) k) + (nI 10 * f (61 + k) + nI 1)), .int (nI k)]) dX10_worth_37 rfl rfl (by decide) rfl ?_
        refine ww_incN (c := 1) (lv2 := [.ref 0, .int (nI q), .int ((smI (fun n => if f n = nI q then nI 10 * f (61 + n) + nI 1 else 0) k) + (nI 10 * f (61 + k) + nI 1)), .int (nI (k + 1))]) dX10_worth_38 rfl rfl rfl (by decide) rfl ?_
        refine ww_goto (tgt := 9) dX10_worth_41 (by decide) ?_
        refine ww_lv (lv2 := [.ref 0, .int (nI q), .int (smI (fun n => if f n = nI q then nI 10 * f (61 + n) + nI 1 else 0) (k + 1)), .int (nI (k + 1))]) (by simp [smI, c24]) ?_
        exact ih (k + 1) (by omega) hexit
set_option maxHeartbeats 4000000 in
set_option maxRecDepth 100000 in
theorem c_K_worth {l : Launch} {Z : EE} (hst : l.stackTraces = false) {h : PH} {la lw bk : Nat} (hC : CL h la lw bk) {np du : Nat} {f : Nat → Int32} (hL : LandAt h la np du f) (q : Nat) (hq : q < np) : CC l Z m_X10_worth 3 0 0 [.ref 0, .int (nI q)] h (COk (smI (fun n => if f n = nI q then nI 10 * f (61 + n) + nI 1 else 0) 61) h) := by
  refine ee_entry hst (by decide +kernel) rfl rfl (by simp [Value.category]) (Nat.le_of_ble_eq_true rfl) ?_
  refine ww_lv (lv2 := [.ref 0, .int (nI q), UU, UU]) rfl ?_
  have hla := hC.la
  have hlw := hC.lw
  have hbk := hC.bk
  refine ww_aload_n dX10_worth_0 rfl rfl ?_
  refine ww_iload_n dX10_worth_1 rfl rfl ?_
  refine ww_cV0 (M := m_X10_worth) (pc := 2) (h1 := h) (st := []) (bc := 0) (bs := 0) (c_needPerson_t hst hC.K0 hC.D1 hL.1 hL.2.2.2.1 hL.2.2.2.2.2.2.1 q hq) vv_X10_needPerson dX10_worth_2 wg_803 (hC.K0) rfl rfl rfl rfl (Nat.le_of_ble_eq_true rfl) (Nat.le_of_ble_eq_true rfl) (Nat.le_of_ble_eq_true rfl) (Nat.le_of_ble_eq_true rfl) ?_
  refine ww_iconst (v := nI 0) dX10_worth_5 (by decide) ?_
  refine ww_sti_n (lv2 := [.ref 0, .int (nI q), .int (nI 0), UU]) dX10_worth_6 rfl rfl (by decide) rfl ?_
  refine ww_iconst (v := nI 0) dX10_worth_7 (by decide) ?_
  refine ww_sti_n (lv2 := [.ref 0, .int (nI q), .int (nI 0), .int (nI 0)]) dX10_worth_8 rfl rfl (by decide) rfl ?_
  refine l_K_worth hst hC hL q 61 0 rfl ?_
  refine ww_iload_n dX10_worth_44 rfl rfl ?_
  exact ww_iret dX10_worth_45 rfl ⟨rfl, Same.rf⟩
set_option maxHeartbeats 4000000 in
set_option maxRecDepth 100000 in
theorem c_K_worth_no0 {l : Launch} {Z : EE} (hst : l.stackTraces = false) {h : PH} {la lw bk : Nat} (hC : CL h la lw bk) {np du : Nat} {f : Nat → Int32} (hL : LandAt h la np du f) {mi : Int32} (hmi : hp_F h 0 12 = .int mi) (q : Int32) (hout : outP np q) : CC l Z m_X10_worth 7 1 6 [.ref 0, .int q] h (TH nsX (hp_sF h 0 12 (.int (mi + nI 1)))) := by
  refine ee_entry hst (by decide +kernel) rfl rfl (by simp [Value.category]) (Nat.le_of_ble_eq_true rfl) ?_
  refine ww_lv (lv2 := [.ref 0, .int q, UU, UU]) rfl ?_
  have hla := hC.la
  have hlw := hC.lw
  have hbk := hC.bk
  refine ww_aload_n dX10_worth_0 rfl rfl ?_
  refine ww_iload_n dX10_worth_1 rfl rfl ?_
  exact ww_cVt (M := m_X10_worth) (pc := 2) (st := []) (bc := 0) (bs := 0) (c_needPerson_f hst hC.K0 hC.D1 hL.1 hL.2.2.2.1 hL.2.2.2.2.2.2.1 hmi q hout) vv_X10_needPerson dX10_worth_2 wg_803 (hC.K0) rfl rfl rfl rfl (Nat.le_of_ble_eq_true rfl) (Nat.le_of_ble_eq_true rfl) (Nat.le_of_ble_eq_true rfl) (Nat.le_of_ble_eq_true rfl) ⟨rfl, rfl⟩
set_option maxHeartbeats 4000000 in
set_option maxRecDepth 100000 in
theorem l_K_primes {l : Launch} {Z : EE} (hst : l.stackTraces = false) {h : PH} {la lw bk : Nat} (hC : CL h la lw bk) {np du : Nat} {f : Nat → Int32} (hL : LandAt h la np du f) (q : Nat) {Post : Res → PH → Prop} : ∀ (j k : Nat), k + j = 61 → WW l Z m_X10_primes 3 0 0 45 [.ref 0, .int (nI q), .int (nI (cnt (fun n => f n == nI q && js_parts.getD n 0 == nI 2) 61)), .int (nI 61)] [] h Post → WW l Z m_X10_primes 3 0 0 9 [.ref 0, .int (nI q), .int (nI (cnt (fun n => f n == nI q && js_parts.getD n 0 == nI 2) k)), .int (nI k)] [] h Post := by
  have hla := hC.la
  have hlw := hC.lw
  have hbk := hC.bk
  intro j
  induction j with
  | zero =>
    intro k hk hexit
    have hk0 : k = 61 := by omega
    subst hk0
    refine ww_iload_n dX10_primes_9 rfl rfl ?_
    refine ww_bipush (v := nI 60) dX10_primes_10 (by decide) ?_
    refine ww_icmp_gtN (tgt := 45) dX10_primes_12 (by decide) (by omega) (by omega) (fun c12 => ?_) (fun c12 => ?_)
    · exact hexit
    · exfalso; omega
  | succ j ih =>
    intro k hk hexit
    refine ww_iload_n dX10_primes_9 rfl rfl ?_
    refine ww_bipush (v := nI 60) dX10_primes_10 (by decide) ?_
    refine ww_icmp_gtN (tgt := 45) dX10_primes_12 (by decide) (by omega) (by omega) (fun c12 => ?_) (fun c12 => ?_)
    · exfalso; omega
    · refine ww_aload_n dX10_primes_15 rfl rfl ?_
      refine ww_get 1 dX10_primes_16 (hC.K0) rfl (by decide) inX10 wg_265 hC.D1 ?_
      refine ww_iload_n dX10_primes_19 rfl rfl ?_
      refine ww_cVr (M := m_X10_primes) (pc := 20) (v := .int (f k)) (h1 := h) (st := []) (bc := 0) (bs := 0) (c_Land_owner hst hL k (by omega)) vv_X2_owner dX10_primes_20 wg_852 hL.1 rfl rfl rfl rfl (Nat.le_of_ble_eq_true rfl) (Nat.le_of_ble_eq_true rfl) (Nat.le_of_ble_eq_true rfl) (Nat.le_of_ble_eq_true rfl) ?_
      refine ww_iload_n dX10_primes_23 rfl rfl ?_
      refine ww_icmp_ne (tgt := 39) dX10_primes_24 (by decide) (fun c24 => ?_) (fun c24 => ?_)
      · refine ww_incN (c := 1) (lv2 := [.ref 0, .int (nI q), .int (nI (cnt (fun n => f n == nI q && js_parts.getD n 0 == nI 2) k)), .int (nI (k + 1))]) dX10_primes_39 rfl rfl rfl (by decide) rfl ?_
        refine ww_goto (tgt := 9) dX10_primes_42 (by decide) ?_
        refine ww_lv (lv2 := [.ref 0, .int (nI q), .int (nI (cnt (fun n => f n == nI q && js_parts.getD n 0 == nI 2) (k + 1))), .int (nI (k + 1))]) (by simp only [cnt]; first | (rw [if_neg (by simp only [Bool.and_eq_true, beq_iff_eq]; exact fun e => c33 e.2)]; (try rfl); done) | (rw [if_pos (by simp only [Bool.and_eq_true, beq_iff_eq]; exact ⟨c24, c33⟩)]; done) | (rw [if_neg (by simp only [Bool.and_eq_true, beq_iff_eq]; exact fun e => c24 e.1)]; (try rfl); done)) ?_
        exact ih (k + 1) (by omega) hexit
      · refine ww_parts dX10_primes_27 wg_855 ?_
        refine ww_iload_n dX10_primes_30 rfl rfl ?_
        refine ww_paldN dX10_primes_31 (by omega) ?_
        refine ww_iconst (v := nI 2) dX10_primes_32 (by decide) ?_
        refine ww_icmp_ne (tgt := 39) dX10_primes_33 (by decide) (fun c33 => ?_) (fun c33 => ?_)
        · refine ww_incN (c := 1) (lv2 := [.ref 0, .int (nI q), .int (nI (cnt (fun n => f n == nI q && js_parts.getD n 0 == nI 2) k)), .int (nI (k + 1))]) dX10_primes_39 rfl rfl rfl (by decide) rfl ?_
          refine ww_goto (tgt := 9) dX10_primes_42 (by decide) ?_
          refine ww_lv (lv2 := [.ref 0, .int (nI q), .int (nI (cnt (fun n => f n == nI q && js_parts.getD n 0 == nI 2) (k + 1))), .int (nI (k + 1))]) (by simp only [cnt]; first | (rw [if_neg (by simp only [Bool.and_eq_true, beq_iff_eq]; exact fun e => c33 e.2)]; (try rfl); done) | (rw [if_pos (by simp only [Bool.and_eq_true, beq_iff_eq]; exact ⟨c24, c33⟩)]; done) | (rw [if_neg (by simp only [Bool.and_eq_true, beq_iff_eq]; exact fun e => c24 e.1)]; (try rfl); done)) ?_
          exact ih (k + 1) (by omega) hexit
        · refine ww_incN (c := 1) (lv2 := [.ref 0, .int (nI q), .int (nI (cnt (fun n => f n == nI q && js_parts.getD n 0 == nI 2) k + 1)), .int (nI k)]) dX10_primes_36 rfl rfl rfl (by decide) rfl ?_
          refine ww_incN (c := 1) (lv2 := [.ref 0, .int (nI q), .int (nI (cnt (fun n => f n == nI q && js_parts.getD n 0 == nI 2) k + 1)), .int (nI (k + 1))]) dX10_primes_39 rfl rfl rfl (by decide) rfl ?_
          refine ww_goto (tgt := 9) dX10_primes_42 (by decide) ?_
          refine ww_lv (lv2 := [.ref 0, .int (nI q), .int (nI (cnt (fun n => f n == nI q && js_parts.getD n 0 == nI 2) (k + 1))), .int (nI (k + 1))]) (by simp only [cnt]; first | (rw [if_neg (by simp only [Bool.and_eq_true, beq_iff_eq]; exact fun e => c33 e.2)]; (try rfl); done) | (rw [if_pos (by simp only [Bool.and_eq_true, beq_iff_eq]; exact ⟨c24, c33⟩)]; done) | (rw [if_neg (by simp only [Bool.and_eq_true, beq_iff_eq]; exact fun e => c24 e.1)]; (try rfl); done)) ?_
          exact ih (k + 1) (by omega) hexit
set_option maxHeartbeats 4000000 in
set_option maxRecDepth 100000 in
theorem c_K_primes {l : Launch} {Z : EE} (hst : l.stackTraces = false) {h : PH} {la lw bk : Nat} (hC : CL h la lw bk) {np du : Nat} {f : Nat → Int32} (hL : LandAt h la np du f) (q : Nat) (hq : q < np) : CC l Z m_X10_primes 3 0 0 [.ref 0, .int (nI q)] h (COk (nI (cnt (fun n => f n == nI q && js_parts.getD n 0 == nI 2) 61)) h) := by
  refine ee_entry hst (by decide +kernel) rfl rfl (by simp [Value.category]) (Nat.le_of_ble_eq_true rfl) ?_
  refine ww_lv (lv2 := [.ref 0, .int (nI q), UU, UU]) rfl ?_
  have hla := hC.la
  have hlw := hC.lw
  have hbk := hC.bk
  refine ww_aload_n dX10_primes_0 rfl rfl ?_
  refine ww_iload_n dX10_primes_1 rfl rfl ?_
  refine ww_cV0 (M := m_X10_primes) (pc := 2) (h1 := h) (st := []) (bc := 0) (bs := 0) (c_needPerson_t hst hC.K0 hC.D1 hL.1 hL.2.2.2.1 hL.2.2.2.2.2.2.1 q hq) vv_X10_needPerson dX10_primes_2 wg_803 (hC.K0) rfl rfl rfl rfl (Nat.le_of_ble_eq_true rfl) (Nat.le_of_ble_eq_true rfl) (Nat.le_of_ble_eq_true rfl) (Nat.le_of_ble_eq_true rfl) ?_
  refine ww_iconst (v := nI 0) dX10_primes_5 (by decide) ?_
  refine ww_sti_n (lv2 := [.ref 0, .int (nI q), .int (nI 0), UU]) dX10_primes_6 rfl rfl (by decide) rfl ?_
  refine ww_iconst (v := nI 0) dX10_primes_7 (by decide) ?_
  refine ww_sti_n (lv2 := [.ref 0, .int (nI q), .int (nI 0), .int (nI 0)]) dX10_primes_8 rfl rfl (by decide) rfl ?_
  refine l_K_primes hst hC hL q 61 0 rfl ?_
  refine ww_iload_n dX10_primes_45 rfl rfl ?_
  exact ww_iret dX10_primes_46 rfl ⟨rfl, Same.rf⟩
set_option maxHeartbeats 4000000 in
set_option maxRecDepth 100000 in
theorem c_K_primes_no0 {l : Launch} {Z : EE} (hst : l.stackTraces = false) {h : PH} {la lw bk : Nat} (hC : CL h la lw bk) {np du : Nat} {f : Nat → Int32} (hL : LandAt h la np du f) {mi : Int32} (hmi : hp_F h 0 12 = .int mi) (q : Int32) (hout : outP np q) : CC l Z m_X10_primes 7 1 6 [.ref 0, .int q] h (TH nsX (hp_sF h 0 12 (.int (mi + nI 1)))) := by
  refine ee_entry hst (by decide +kernel) rfl rfl (by simp [Value.category]) (Nat.le_of_ble_eq_true rfl) ?_
  refine ww_lv (lv2 := [.ref 0, .int q, UU, UU]) rfl ?_
  have hla := hC.la
  have hlw := hC.lw
  have hbk := hC.bk
  refine ww_aload_n dX10_primes_0 rfl rfl ?_
  refine ww_iload_n dX10_primes_1 rfl rfl ?_
  exact ww_cVt (M := m_X10_primes) (pc := 2) (st := []) (bc := 0) (bs := 0) (c_needPerson_f hst hC.K0 hC.D1 hL.1 hL.2.2.2.1 hL.2.2.2.2.2.2.1 hmi q hout) vv_X10_needPerson dX10_primes_2 wg_803 (hC.K0) rfl rfl rfl rfl (Nat.le_of_ble_eq_true rfl) (Nat.le_of_ble_eq_true rfl) (Nat.le_of_ble_eq_true rfl) (Nat.le_of_ble_eq_true rfl) ⟨rfl, rfl⟩
set_option maxHeartbeats 4000000 in
set_option maxRecDepth 100000 in
theorem c_K_fare {l : Launch} {Z : EE} (hst : l.stackTraces = false) {h : PH} {la lw bk : Nat} (hC : CL h la lw bk) {np du : Nat} {f : Nat → Int32} (hL : LandAt h la np du f) {sz : Nat} {kf vf : Nat → Int32} (hW : LawAt h lw sz kf vf) (hok : LawOK kf vf sz) (n : Nat) (hn : n ≤ 60) (w : Nat) (lw : 0 ≤ w) (hw : w ≤ 2) : CC l Z m_X10_fare 4 0 0 [.ref 0, .int (nI n), .int (nI w)] h (COk (fareC f sz kf vf n w) h) := by
  refine ee_entry hst (by decide +kernel) rfl rfl (by simp [Value.category]) (Nat.le_of_ble_eq_true rfl) ?_
  refine ww_lv (lv2 := [.ref 0, .int (nI n), .int (nI w)]) rfl ?_
  have hla := hC.la
  have hlw := hC.lw
  have hbk := hC.bk
  refine ww_aload_n dX10_fare_0 rfl rfl ?_
  refine ww_iload_n dX10_fare_1 rfl rfl ?_
  refine ww_cV0 (M := m_X10_fare) (pc := 2) (h1 := h) (st := []) (bc := 0) (bs := 0) (c_needNumber_t hst hC.K0 n hn) vv_X10_needNumber dX10_fare_2 wg_847 (hC.K0) rfl rfl rfl rfl (Nat.le_of_ble_eq_true rfl) (Nat.le_of_ble_eq_true rfl) (Nat.le_of_ble_eq_true rfl) (Nat.le_of_ble_eq_true rfl) ?_
  refine ww_aload_n dX10_fare_5 rfl rfl ?_
  refine ww_iload_n dX10_fare_6 rfl rfl ?_
  refine ww_iconst (v := nI 0) dX10_fare_7 (by decide) ?_
  refine ww_iconst (v := nI 2) dX10_fare_8 (by decide) ?_
  refine ww_cV0 (M := m_X10_fare) (pc := 9) (h1 := h) (st := []) (bc := 0) (bs := 0) (c_within_t hst (nI w) (nI 0) (nI 2) (nI_le (by omega) (by omega)) (nI_le (by omega) (by omega)) _) vv_X10_within dX10_fare_9 wg_410 (hC.K0) rfl rfl rfl rfl (Nat.le_of_ble_eq_true rfl) (Nat.le_of_ble_eq_true rfl) (Nat.le_of_ble_eq_true rfl) (Nat.le_of_ble_eq_true rfl) ?_
  refine ww_aload_n dX10_fare_12 rfl rfl ?_
  refine ww_get 1 dX10_fare_13 (hC.K0) rfl (by decide) inX10 wg_265 hC.D1 ?_
  refine ww_aload_n dX10_fare_16 rfl rfl ?_
  refine ww_get 3 dX10_fare_17 (hC.K0) rfl (by decide) inX10 wg_267 hC.D3 ?_
  refine ww_iload_n dX10_fare_20 rfl rfl ?_
  refine ww_iload_n dX10_fare_21 rfl rfl ?_
  refine ww_cVq (M := m_X10_fare) (pc := 22) (v := .int (fareC f sz kf vf n w)) (st := []) (bc := 0) (bs := 0) (c_Land_fareBy hst hL hW hok (by omega) n (by omega) w (by omega)) vv_X2_fareBy dX10_fare_22 wg_866 hL.1 rfl rfl rfl rfl (Nat.le_of_ble_eq_true rfl) (Nat.le_of_ble_eq_true rfl) (Nat.le_of_ble_eq_true rfl) (Nat.le_of_ble_eq_true rfl) (fun hq1 qq1 => ?_)
  have s1 : Same CX CY h hq1 := qq1.law hC.lw
  have hC1 := hC.scr s1
  have hL1 := hL.scr hC s1
  have hW1 := hW.scr hC s1
  exact ww_iret dX10_fare_25 rfl ⟨rfl, s1⟩
set_option maxHeartbeats 4000000 in
set_option maxRecDepth 100000 in
theorem c_K_fare_no0 {l : Launch} {Z : EE} (hst : l.stackTraces = false) {h : PH} {la lw bk : Nat} (hC : CL h la lw bk) {np du : Nat} {f : Nat → Int32} (hL : LandAt h la np du f) {sz : Nat} {kf vf : Nat → Int32} (hW : LawAt h lw sz kf vf) (hok : LawOK kf vf sz) {mi : Int32} (hmi : hp_F h 0 12 = .int mi) (n : Int32) (w : Int32) (hout : outR 0 60 n) : CC l Z m_X10_fare 7 1 6 [.ref 0, .int n, .int w] h (TH nsX (hp_sF h 0 12 (.int (mi + nI 1)))) := by
  refine ee_entry hst (by decide +kernel) rfl rfl (by simp [Value.category]) (Nat.le_of_ble_eq_true rfl) ?_
  refine ww_lv (lv2 := [.ref 0, .int n, .int w]) rfl ?_
  have hla := hC.la
  have hlw := hC.lw
  have hbk := hC.bk
  refine ww_aload_n dX10_fare_0 rfl rfl ?_
  refine ww_iload_n dX10_fare_1 rfl rfl ?_
  exact ww_cVt (M := m_X10_fare) (pc := 2) (st := []) (bc := 0) (bs := 0) (c_needNumber_f hst hC.K0 hmi n hout) vv_X10_needNumber dX10_fare_2 wg_847 (hC.K0) rfl rfl rfl rfl (Nat.le_of_ble_eq_true rfl) (Nat.le_of_ble_eq_true rfl) (Nat.le_of_ble_eq_true rfl) (Nat.le_of_ble_eq_true rfl) ⟨rfl, rfl⟩
set_option maxHeartbeats 4000000 in
set_option maxRecDepth 100000 in
theorem c_K_fare_no1 {l : Launch} {Z : EE} (hst : l.stackTraces = false) {h : PH} {la lw bk : Nat} (hC : CL h la lw bk) {np du : Nat} {f : Nat → Int32} (hL : LandAt h la np du f) {sz : Nat} {kf vf : Nat → Int32} (hW : LawAt h lw sz kf vf) (hok : LawOK kf vf sz) {wr : Int32} (hwr : hp_F h 0 13 = .int wr) (n : Nat) (hn : n ≤ 60) (w : Int32) (hout : ¬ (nI 0 ≤ w ∧ w ≤ nI 2)) : CC l Z m_X10_fare 7 1 6 [.ref 0, .int (nI n), .int w] h (TH iaX (hp_sF h 0 13 (.int (wr + nI 1)))) := by
  refine ee_entry hst (by decide +kernel) rfl rfl (by simp [Value.category]) (Nat.le_of_ble_eq_true rfl) ?_
  refine ww_lv (lv2 := [.ref 0, .int (nI n), .int w]) rfl ?_
  have hla := hC.la
  have hlw := hC.lw
  have hbk := hC.bk
  refine ww_aload_n dX10_fare_0 rfl rfl ?_
  refine ww_iload_n dX10_fare_1 rfl rfl ?_
  refine ww_cV0 (M := m_X10_fare) (pc := 2) (h1 := h) (st := []) (bc := 1) (bs := 6) (c_needNumber_t hst hC.K0 n hn) vv_X10_needNumber dX10_fare_2 wg_847 (hC.K0) rfl rfl rfl rfl (Nat.le_of_ble_eq_true rfl) (Nat.le_of_ble_eq_true rfl) (Nat.le_of_ble_eq_true rfl) (Nat.le_of_ble_eq_true rfl) ?_
  refine ww_aload_n dX10_fare_5 rfl rfl ?_
  refine ww_iload_n dX10_fare_6 rfl rfl ?_
  refine ww_iconst (v := nI 0) dX10_fare_7 (by decide) ?_
  refine ww_iconst (v := nI 2) dX10_fare_8 (by decide) ?_
  exact ww_cVt (M := m_X10_fare) (pc := 9) (st := []) (bc := 0) (bs := 0) (c_within_f hst hC.K0 hwr w (nI 0) (nI 2) hout) vv_X10_within dX10_fare_9 wg_410 (hC.K0) rfl rfl rfl rfl (Nat.le_of_ble_eq_true rfl) (Nat.le_of_ble_eq_true rfl) (Nat.le_of_ble_eq_true rfl) (Nat.le_of_ble_eq_true rfl) ⟨rfl, rfl⟩
set_option maxHeartbeats 4000000 in
set_option maxRecDepth 100000 in
theorem c_K_would {l : Launch} {Z : EE} (hst : l.stackTraces = false) {h : PH} {la lw bk : Nat} (hC : CL h la lw bk) {np du : Nat} {f : Nat → Int32} (hL : LandAt h la np du f) {sz : Nat} {kf vf : Nat → Int32} (hW : LawAt h lw sz kf vf) (hok : LawOK kf vf sz) (n : Nat) (ln : 0 ≤ n) (hn : n ≤ 60) (r : Nat) (lr : 0 ≤ r) (hr : r ≤ 40) (w : Nat) (lw : 0 ≤ w) (hw : w ≤ 2) (o : Nat) (lo : 0 ≤ o) (ho : o ≤ 5) (u : Nat) (lu : 0 ≤ u) (hu : u ≤ 999) (dd : Nat) (ldd : 0 ≤ dd) (hdd : dd ≤ 900) : CC l Z m_X10_would 3 0 0 [.ref 0, .int (nI n), .int (nI r), .int (nI w), .int (nI o), .int (nI u), .int (nI dd)] h (COk (askV joinC (joinC (nI 5)) sz kf vf (nI n) (nI r) (nI w) (nI o) (nI u) (nI dd) (js_parts.getD n 0)) h) := by
  refine ee_entry hst (by decide +kernel) rfl rfl (by simp [Value.category]) (Nat.le_of_ble_eq_true rfl) ?_
  refine ww_lv (lv2 := [.ref 0, .int (nI n), .int (nI r), .int (nI w), .int (nI o), .int (nI u), .int (nI dd)]) rfl ?_
  have hla := hC.la
  have hlw := hC.lw
  have hbk := hC.bk
  refine ww_aload_n dX10_would_0 rfl rfl ?_
  refine ww_iload_n dX10_would_1 rfl rfl ?_
  refine ww_iconst (v := nI 0) dX10_would_2 (by decide) ?_
  refine ww_bipush (v := nI 60) dX10_would_3 (by decide) ?_
  refine ww_cV0 (M := m_X10_would) (pc := 5) (h1 := h) (st := []) (bc := 0) (bs := 0) (c_within_t hst (nI n) (nI 0) (nI 60) (nI_le (by omega) (by omega)) (nI_le (by omega) (by omega)) _) vv_X10_within dX10_would_5 wg_410 (hC.K0) rfl rfl rfl rfl (Nat.le_of_ble_eq_true rfl) (Nat.le_of_ble_eq_true rfl) (Nat.le_of_ble_eq_true rfl) (Nat.le_of_ble_eq_true rfl) ?_
  refine ww_aload_n dX10_would_8 rfl rfl ?_
  refine ww_iload_n dX10_would_9 rfl rfl ?_
  refine ww_iconst (v := nI 0) dX10_would_10 (by decide) ?_
  refine ww_bipush (v := nI 40) dX10_would_11 (by decide) ?_
  refine ww_cV0 (M := m_X10_would) (pc := 13) (h1 := h) (st := []) (bc := 0) (bs := 0) (c_within_t hst (nI r) (nI 0) (nI 40) (nI_le (by omega) (by omega)) (nI_le (by omega) (by omega)) _) vv_X10_within dX10_would_13 wg_410 (hC.K0) rfl rfl rfl rfl (Nat.le_of_ble_eq_true rfl) (Nat.le_of_ble_eq_true rfl) (Nat.le_of_ble_eq_true rfl) (Nat.le_of_ble_eq_true rfl) ?_
  refine ww_aload_n dX10_would_16 rfl rfl ?_
  refine ww_iload_n dX10_would_17 rfl rfl ?_
  refine ww_iconst (v := nI 0) dX10_would_18 (by decide) ?_
  refine ww_iconst (v := nI 2) dX10_would_19 (by decide) ?_
  refine ww_cV0 (M := m_X10_would) (pc := 20) (h1 := h) (st := []) (bc := 0) (bs := 0) (c_within_t hst (nI w) (nI 0) (nI 2) (nI_le (by omega) (by omega)) (nI_le (by omega) (by omega)) _) vv_X10_within dX10_would_20 wg_410 (hC.K0) rfl rfl rfl rfl (Nat.le_of_ble_eq_true rfl) (Nat.le_of_ble_eq_true rfl) (Nat.le_of_ble_eq_true rfl) (Nat.le_of_ble_eq_true rfl) ?_
  refine ww_aload_n dX10_would_23 rfl rfl ?_
  refine ww_iload dX10_would_24 rfl ?_
  refine ww_iconst (v := nI 0) dX10_would_26 (by decide) ?_
  refine ww_iconst (v := nI 5) dX10_would_27 (by decide) ?_
  refine ww_cV0 (M := m_X10_would) (pc := 28) (h1 := h) (st := []) (bc := 0) (bs := 0) (c_within_t hst (nI o) (nI 0) (nI 5) (nI_le (by omega) (by omega)) (nI_le (by omega) (by omega)) _) vv_X10_within dX10_would_28 wg_410 (hC.K0) rfl rfl rfl rfl (Nat.le_of_ble_eq_true rfl) (Nat.le_of_ble_eq_true rfl) (Nat.le_of_ble_eq_true rfl) (Nat.le_of_ble_eq_true rfl) ?_
  refine ww_aload_n dX10_would_31 rfl rfl ?_
  refine ww_iload dX10_would_32 rfl ?_
  refine ww_iconst (v := nI 0) dX10_would_34 (by decide) ?_
  refine ww_sipush (v := nI 999) dX10_would_35 (by decide) ?_
  refine ww_cV0 (M := m_X10_would) (pc := 38) (h1 := h) (st := []) (bc := 0) (bs := 0) (c_within_t hst (nI u) (nI 0) (nI 999) (nI_le (by omega) (by omega)) (nI_le (by omega) (by omega)) _) vv_X10_within dX10_would_38 wg_410 (hC.K0) rfl rfl rfl rfl (Nat.le_of_ble_eq_true rfl) (Nat.le_of_ble_eq_true rfl) (Nat.le_of_ble_eq_true rfl) (Nat.le_of_ble_eq_true rfl) ?_
  refine ww_aload_n dX10_would_41 rfl rfl ?_
  refine ww_iload dX10_would_42 rfl ?_
  refine ww_iconst (v := nI 0) dX10_would_44 (by decide) ?_
  refine ww_sipush (v := nI 900) dX10_would_45 (by decide) ?_
  refine ww_cV0 (M := m_X10_would) (pc := 48) (h1 := h) (st := []) (bc := 0) (bs := 0) (c_within_t hst (nI dd) (nI 0) (nI 900) (nI_le (by omega) (by omega)) (nI_le (by omega) (by omega)) _) vv_X10_within dX10_would_48 wg_410 (hC.K0) rfl rfl rfl rfl (Nat.le_of_ble_eq_true rfl) (Nat.le_of_ble_eq_true rfl) (Nat.le_of_ble_eq_true rfl) (Nat.le_of_ble_eq_true rfl) ?_
  refine ww_aload_n dX10_would_51 rfl rfl ?_
  refine ww_get 3 dX10_would_52 (hC.K0) rfl (by decide) inX10 wg_267 hC.D3 ?_
  refine ww_iload_n dX10_would_55 rfl rfl ?_
  refine ww_iload_n dX10_would_56 rfl rfl ?_
  refine ww_iload_n dX10_would_57 rfl rfl ?_
  refine ww_iload dX10_would_58 rfl ?_
  refine ww_iload dX10_would_60 rfl ?_
  refine ww_iload dX10_would_62 rfl ?_
  refine ww_cVq (M := m_X10_would) (pc := 64) (v := .int (askV joinC (joinC (nI 5)) sz kf vf (nI n) (nI r) (nI w) (nI o) (nI u) (nI dd) (js_parts.getD n 0))) (st := []) (bc := 0) (bs := 0) (c_Law_asks hst hW hok n (by omega) (nI r) w (by omega) (nI o) (nI u) (nI dd)) vv_X3_asks dX10_would_64 wg_874 hW.1 rfl rfl rfl rfl (Nat.le_of_ble_eq_true rfl) (Nat.le_of_ble_eq_true rfl) (Nat.le_of_ble_eq_true rfl) (Nat.le_of_ble_eq_true rfl) (fun hq1 qq1 => ?_)
  have s1 : Same CX CY h hq1 := qq1.law hC.lw
  have hC1 := hC.scr s1
  have hL1 := hL.scr hC s1
  have hW1 := hW.scr hC s1
  exact ww_iret dX10_would_67 rfl ⟨rfl, s1⟩
set_option maxHeartbeats 4000000 in
set_option maxRecDepth 100000 in
theorem c_K_would_no0 {l : Launch} {Z : EE} (hst : l.stackTraces = false) {h : PH} {la lw bk : Nat} (hC : CL h la lw bk) {np du : Nat} {f : Nat → Int32} (hL : LandAt h la np du f) {sz : Nat} {kf vf : Nat → Int32} (hW : LawAt h lw sz kf vf) (hok : LawOK kf vf sz) {wr : Int32} (hwr : hp_F h 0 13 = .int wr) (n : Int32) (r : Int32) (w : Int32) (o : Int32) (u : Int32) (dd : Int32) (hout : ¬ (nI 0 ≤ n ∧ n ≤ nI 60)) : CC l Z m_X10_would 7 1 6 [.ref 0, .int n, .int r, .int w, .int o, .int u, .int dd] h (TH iaX (hp_sF h 0 13 (.int (wr + nI 1)))) := by
  refine ee_entry hst (by decide +kernel) rfl rfl (by simp [Value.category]) (Nat.le_of_ble_eq_true rfl) ?_
  refine ww_lv (lv2 := [.ref 0, .int n, .int r, .int w, .int o, .int u, .int dd]) rfl ?_
  have hla := hC.la
  have hlw := hC.lw
  have hbk := hC.bk
  refine ww_aload_n dX10_would_0 rfl rfl ?_
  refine ww_iload_n dX10_would_1 rfl rfl ?_
  refine ww_iconst (v := nI 0) dX10_would_2 (by decide) ?_
  refine ww_bipush (v := nI 60) dX10_would_3 (by decide) ?_
  exact ww_cVt (M := m_X10_would) (pc := 5) (st := []) (bc := 0) (bs := 0) (c_within_f hst hC.K0 hwr n (nI 0) (nI 60) hout) vv_X10_within dX10_would_5 wg_410 (hC.K0) rfl rfl rfl rfl (Nat.le_of_ble_eq_true rfl) (Nat.le_of_ble_eq_true rfl) (Nat.le_of_ble_eq_true rfl) (Nat.le_of_ble_eq_true rfl) ⟨rfl, rfl⟩
set_option maxHeartbeats 4000000 in
set_option maxRecDepth 100000 in
theorem c_K_would_no1 {l : Launch} {Z : EE} (hst : l.stackTraces = false) {h : PH} {la lw bk : Nat} (hC : CL h la lw bk) {np du : Nat} {f : Nat → Int32} (hL : LandAt h la np du f) {sz : Nat} {kf vf : Nat → Int32} (hW : LawAt h lw sz kf vf) (hok : LawOK kf vf sz) {wr : Int32} (hwr : hp_F h 0 13 = .int wr) (n : Nat) (ln : 0 ≤ n) (hn : n ≤ 60) (r : Int32) (w : Int32) (o : Int32) (u : Int32) (dd : Int32) (hout : ¬ (nI 0 ≤ r ∧ r ≤ nI 40)) : CC l Z m_X10_would 7 1 6 [.ref 0, .int (nI n), .int r, .int w, .int o, .int u, .int dd] h (TH iaX (hp_sF h 0 13 (.int (wr + nI 1)))) := by
  refine ee_entry hst (by decide +kernel) rfl rfl (by simp [Value.category]) (Nat.le_of_ble_eq_true rfl) ?_
  refine ww_lv (lv2 := [.ref 0, .int (nI n), .int r, .int w, .int o, .int u, .int dd]) rfl ?_
  have hla := hC.la
  have hlw := hC.lw
  have hbk := hC.bk
  refine ww_aload_n dX10_would_0 rfl rfl ?_
  refine ww_iload_n dX10_would_1 rfl rfl ?_
  refine ww_iconst (v := nI 0) dX10_would_2 (by decide) ?_
  refine ww_bipush (v := nI 60) dX10_would_3 (by decide) ?_
  refine ww_cV0 (M := m_X10_would) (pc := 5) (h1 := h) (st := []) (bc := 1) (bs := 6) (c_within_t hst (nI n) (nI 0) (nI 60) (nI_le (by omega) (by omega)) (nI_le (by omega) (by omega)) _) vv_X10_within dX10_would_5 wg_410 (hC.K0) rfl rfl rfl rfl (Nat.le_of_ble_eq_true rfl) (Nat.le_of_ble_eq_true rfl) (Nat.le_of_ble_eq_true rfl) (Nat.le_of_ble_eq_true rfl) ?_
  refine ww_aload_n dX10_would_8 rfl rfl ?_
  refine ww_iload_n dX10_would_9 rfl rfl ?_
  refine ww_iconst (v := nI 0) dX10_would_10 (by decide) ?_
  refine ww_bipush (v := nI 40) dX10_would_11 (by decide) ?_
  exact ww_cVt (M := m_X10_would) (pc := 13) (st := []) (bc := 0) (bs := 0) (c_within_f hst hC.K0 hwr r (nI 0) (nI 40) hout) vv_X10_within dX10_would_13 wg_410 (hC.K0) rfl rfl rfl rfl (Nat.le_of_ble_eq_true rfl) (Nat.le_of_ble_eq_true rfl) (Nat.le_of_ble_eq_true rfl) (Nat.le_of_ble_eq_true rfl) ⟨rfl, rfl⟩
set_option maxHeartbeats 4000000 in
set_option maxRecDepth 100000 in
theorem c_K_would_no2 {l : Launch} {Z : EE} (hst : l.stackTraces = false) {h : PH} {la lw bk : Nat} (hC : CL h la lw bk) {np du : Nat} {f : Nat → Int32} (hL : LandAt h la np du f) {sz : Nat} {kf vf : Nat → Int32} (hW : LawAt h lw sz kf vf) (hok : LawOK kf vf sz) {wr : Int32} (hwr : hp_F h 0 13 = .int wr) (n : Nat) (ln : 0 ≤ n) (hn : n ≤ 60) (r : Nat) (lr : 0 ≤ r) (hr : r ≤ 40) (w : Int32) (o : Int32) (u : Int32) (dd : Int32) (hout : ¬ (nI 0 ≤ w ∧ w ≤ nI 2)) : CC l Z m_X10_would 7 1 6 [.ref 0, .int (nI n), .int (nI r), .int w, .int o, .int u, .int dd] h (TH iaX (hp_sF h 0 13 (.int (wr + nI 1)))) := by
  refine ee_entry hst (by decide +kernel) rfl rfl (by simp [Value.category]) (Nat.le_of_ble_eq_true rfl) ?_
  refine ww_lv (lv2 := [.ref 0, .int (nI n), .int (nI r), .int w, .int o, .int u, .int dd]) rfl ?_
  have hla := hC.la
  have hlw := hC.lw
  have hbk := hC.bk
  refine ww_aload_n dX10_would_0 rfl rfl ?_
  refine ww_iload_n dX10_would_1 rfl rfl ?_
  refine ww_iconst (v := nI 0) dX10_would_2 (by decide) ?_
  refine ww_bipush (v := nI 60) dX10_would_3 (by decide) ?_
  refine ww_cV0 (M := m_X10_would) (pc := 5) (h1 := h) (st := []) (bc := 1) (bs := 6) (c_within_t hst (nI n) (nI 0) (nI 60) (nI_le (by omega) (by omega)) (nI_le (by omega) (by omega)) _) vv_X10_within dX10_would_5 wg_410 (hC.K0) rfl rfl rfl rfl (Nat.le_of_ble_eq_true rfl) (Nat.le_of_ble_eq_true rfl) (Nat.le_of_ble_eq_true rfl) (Nat.le_of_ble_eq_true rfl) ?_
  refine ww_aload_n dX10_would_8 rfl rfl ?_
  refine ww_iload_n dX10_would_9 rfl rfl ?_
  refine ww_iconst (v := nI 0) dX10_would_10 (by decide) ?_
  refine ww_bipush (v := nI 40) dX10_would_11 (by decide) ?_
  refine ww_cV0 (M := m_X10_would) (pc := 13) (h1 := h) (st := []) (bc := 1) (bs := 6) (c_within_t hst (nI r) (nI 0) (nI 40) (nI_le (by omega) (by omega)) (nI_le (by omega) (by omega)) _) vv_X10_within dX10_would_13 wg_410 (hC.K0) rfl rfl rfl rfl (Nat.le_of_ble_eq_true rfl) (Nat.le_of_ble_eq_true rfl) (Nat.le_of_ble_eq_true rfl) (Nat.le_of_ble_eq_true rfl) ?_
  refine ww_aload_n dX10_would_16 rfl rfl ?_
  refine ww_iload_n dX10_would_17 rfl rfl ?_
  refine ww_iconst (v := nI 0) dX10_would_18 (by decide) ?_
  refine ww_iconst (v := nI 2) dX10_would_19 (by decide) ?_
  exact ww_cVt (M := m_X10_would) (pc := 20) (st := []) (bc := 0) (bs := 0) (c_within_f hst hC.K0 hwr w (nI 0) (nI 2) hout) vv_X10_within dX10_would_20 wg_410 (hC.K0) rfl rfl rfl rfl (Nat.le_of_ble_eq_true rfl) (Nat.le_of_ble_eq_true rfl) (Nat.le_of_ble_eq_true rfl) (Nat.le_of_ble_eq_true rfl) ⟨rfl, rfl⟩
set_option maxHeartbeats 4000000 in
set_option maxRecDepth 100000 in
theorem c_K_would_no3 {l : Launch} {Z : EE} (hst : l.stackTraces = false) {h : PH} {la lw bk : Nat} (hC : CL h la lw bk) {np du : Nat} {f : Nat → Int32} (hL : LandAt h la np du f) {sz : Nat} {kf vf : Nat → Int32} (hW : LawAt h lw sz kf vf) (hok : LawOK kf vf sz) {wr : Int32} (hwr : hp_F h 0 13 = .int wr) (n : Nat) (ln : 0 ≤ n) (hn : n ≤ 60) (r : Nat) (lr : 0 ≤ r) (hr : r ≤ 40) (w : Nat) (lw : 0 ≤ w) (hw : w ≤ 2) (o : Int32) (u : Int32) (dd : Int32) (hout : ¬ (nI 0 ≤ o ∧ o ≤ nI 5)) : CC l Z m_X10_would 7 1 6 [.ref 0, .int (nI n), .int (nI r), .int (nI w), .int o, .int u, .int dd] h (TH iaX (hp_sF h 0 13 (.int (wr + nI 1)))) := by
  refine ee_entry hst (by decide +kernel) rfl rfl (by simp [Value.category]) (Nat.le_of_ble_eq_true rfl) ?_
  refine ww_lv (lv2 := [.ref 0, .int (nI n), .int (nI r), .int (nI w), .int o, .int u, .int dd]) rfl ?_
  have hla := hC.la
  have hlw := hC.lw
  have hbk := hC.bk
  refine ww_aload_n dX10_would_0 rfl rfl ?_
  refine ww_iload_n dX10_would_1 rfl rfl ?_
  refine ww_iconst (v := nI 0) dX10_would_2 (by decide) ?_
  refine ww_bipush (v := nI 60) dX10_would_3 (by decide) ?_
  refine ww_cV0 (M := m_X10_would) (pc := 5) (h1 := h) (st := []) (bc := 1) (bs := 6) (c_within_t hst (nI n) (nI 0) (nI 60) (nI_le (by omega) (by omega)) (nI_le (by omega) (by omega)) _) vv_X10_within dX10_would_5 wg_410 (hC.K0) rfl rfl rfl rfl (Nat.le_of_ble_eq_true rfl) (Nat.le_of_ble_eq_true rfl) (Nat.le_of_ble_eq_true rfl) (Nat.le_of_ble_eq_true rfl) ?_
  refine ww_aload_n dX10_would_8 rfl rfl ?_
  refine ww_iload_n dX10_would_9 rfl rfl ?_
  refine ww_iconst (v := nI 0) dX10_would_10 (by decide) ?_
  refine ww_bipush (v := nI 40) dX10_would_11 (by decide) ?_
  refine ww_cV0 (M := m_X10_would) (pc := 13) (h1 := h) (st := []) (bc := 1) (bs := 6) (c_within_t hst (nI r) (nI 0) (nI 40) (nI_le (by omega) (by omega)) (nI_le (by omega) (by omega)) _) vv_X10_within dX10_would_13 wg_410 (hC.K0) rfl rfl rfl rfl (Nat.le_of_ble_eq_true rfl) (Nat.le_of_ble_eq_true rfl) (Nat.le_of_ble_eq_true rfl) (Nat.le_of_ble_eq_true rfl) ?_
  refine ww_aload_n dX10_would_16 rfl rfl ?_
  refine ww_iload_n dX10_would_17 rfl rfl ?_
  refine ww_iconst (v := nI 0) dX10_would_18 (by decide) ?_
  refine ww_iconst (v := nI 2) dX10_would_19 (by decide) ?_
  refine ww_cV0 (M := m_X10_would) (pc := 20) (h1 := h) (st := []) (bc := 1) (bs := 6) (c_within_t hst (nI w) (nI 0) (nI 2) (nI_le (by omega) (by omega)) (nI_le (by omega) (by omega)) _) vv_X10_within dX10_would_20 wg_410 (hC.K0) rfl rfl rfl rfl (Nat.le_of_ble_eq_true rfl) (Nat.le_of_ble_eq_true rfl) (Nat.le_of_ble_eq_true rfl) (Nat.le_of_ble_eq_true rfl) ?_
  refine ww_aload_n dX10_would_23 rfl rfl ?_
  refine ww_iload dX10_would_24 rfl ?_
  refine ww_iconst (v := nI 0) dX10_would_26 (by decide) ?_
  refine ww_iconst (v := nI 5) dX10_would_27 (by decide) ?_
  exact ww_cVt (M := m_X10_would) (pc := 28) (st := []) (bc := 0) (bs := 0) (c_within_f hst hC.K0 hwr o (nI 0) (nI 5) hout) vv_X10_within dX10_would_28 wg_410 (hC.K0) rfl rfl rfl rfl (Nat.le_of_ble_eq_true rfl) (Nat.le_of_ble_eq_true rfl) (Nat.le_of_ble_eq_true rfl) (Nat.le_of_ble_eq_true rfl) ⟨rfl, rfl⟩
set_option maxHeartbeats 4000000 in
set_option maxRecDepth 100000 in
theorem c_K_would_no4 {l : Launch} {Z : EE} (hst : l.stackTraces = false) {h : PH} {la lw bk : Nat} (hC : CL h la lw bk) {np du : Nat} {f : Nat → Int32} (hL : LandAt h la np du f) {sz : Nat} {kf vf : Nat → Int32} (hW : LawAt h lw sz kf vf) (hok : LawOK kf vf sz) {wr : Int32} (hwr : hp_F h 0 13 = .int wr) (n : Nat) (ln : 0 ≤ n) (hn : n ≤ 60) (r : Nat) (lr : 0 ≤ r) (hr : r ≤ 40) (w : Nat) (lw : 0 ≤ w) (hw : w ≤ 2) (o : Nat) (lo : 0 ≤ o) (ho : o ≤ 5) (u : Int32) (dd : Int32) (hout : ¬ (nI 0 ≤ u ∧ u ≤ nI 999)) : CC l Z m_X10_would 7 1 6 [.ref 0, .int (nI n), .int (nI r), .int (nI w), .int (nI o), .int u, .int dd] h (TH iaX (hp_sF h 0 13 (.int (wr + nI 1)))) := by
  refine ee_entry hst (by decide +kernel) rfl rfl (by simp [Value.category]) (Nat.le_of_ble_eq_true rfl) ?_
  refine ww_lv (lv2 := [.ref 0, .int (nI n), .int (nI r), .int (nI w), .int (nI o), .int u, .int dd]) rfl ?_
  have hla := hC.la
  have hlw := hC.lw
  have hbk := hC.bk
  refine ww_aload_n dX10_would_0 rfl rfl ?_
  refine ww_iload_n dX10_would_1 rfl rfl ?_
  refine ww_iconst (v := nI 0) dX10_would_2 (by decide) ?_
  refine ww_bipush (v := nI 60) dX10_would_3 (by decide) ?_
  refine ww_cV0 (M := m_X10_would) (pc := 5) (h1 := h) (st := []) (bc := 1) (bs := 6) (c_within_t hst (nI n) (nI 0) (nI 60) (nI_le (by omega) (by omega)) (nI_le (by omega) (by omega)) _) vv_X10_within dX10_would_5 wg_410 (hC.K0) rfl rfl rfl rfl (Nat.le_of_ble_eq_true rfl) (Nat.le_of_ble_eq_true rfl) (Nat.le_of_ble_eq_true rfl) (Nat.le_of_ble_eq_true rfl) ?_
  refine ww_aload_n dX10_would_8 rfl rfl ?_
  refine ww_iload_n dX10_would_9 rfl rfl ?_
  refine ww_iconst (v := nI 0) dX10_would_10 (by decide) ?_
  refine ww_bipush (v := nI 40) dX10_would_11 (by decide) ?_
  refine ww_cV0 (M := m_X10_would) (pc := 13) (h1 := h) (st := []) (bc := 1) (bs := 6) (c_within_t hst (nI r) (nI 0) (nI 40) (nI_le (by omega) (by omega)) (nI_le (by omega) (by omega)) _) vv_X10_within dX10_would_13 wg_410 (hC.K0) rfl rfl rfl rfl (Nat.le_of_ble_eq_true rfl) (Nat.le_of_ble_eq_true rfl) (Nat.le_of_ble_eq_true rfl) (Nat.le_of_ble_eq_true rfl) ?_
  refine ww_aload_n dX10_would_16 rfl rfl ?_
  refine ww_iload_n dX10_would_17 rfl rfl ?_
  refine ww_iconst (v := nI 0) dX10_would_18 (by decide) ?_
  refine ww_iconst (v := nI 2) dX10_would_19 (by decide) ?_
  refine ww_cV0 (M := m_X10_would) (pc := 20) (h1 := h) (st := []) (bc := 1) (bs := 6) (c_within_t hst (nI w) (nI 0) (nI 2) (nI_le (by omega) (by omega)) (nI_le (by omega) (by omega)) _) vv_X10_within dX10_would_20 wg_410 (hC.K0) rfl rfl rfl rfl (Nat.le_of_ble_eq_true rfl) (Nat.le_of_ble_eq_true rfl) (Nat.le_of_ble_eq_true rfl) (Nat.le_of_ble_eq_true rfl) ?_
  refine ww_aload_n dX10_would_23 rfl rfl ?_
  refine ww_iload dX10_would_24 rfl ?_
  refine ww_iconst (v := nI 0) dX10_would_26 (by decide) ?_
  refine ww_iconst (v := nI 5) dX10_would_27 (by decide) ?_
  refine ww_cV0 (M := m_X10_would) (pc := 28) (h1 := h) (st := []) (bc := 1) (bs := 6) (c_within_t hst (nI o) (nI 0) (nI 5) (nI_le (by omega) (by omega)) (nI_le (by omega) (by omega)) _) vv_X10_within dX10_would_28 wg_410 (hC.K0) rfl rfl rfl rfl (Nat.le_of_ble_eq_true rfl) (Nat.le_of_ble_eq_true rfl) (Nat.le_of_ble_eq_true rfl) (Nat.le_of_ble_eq_true rfl) ?_
  refine ww_aload_n dX10_would_31 rfl rfl ?_
  refine ww_iload dX10_would_32 rfl ?_
  refine ww_iconst (v := nI 0) dX10_would_34 (by decide) ?_
  refine ww_sipush (v := nI 999) dX10_would_35 (by decide) ?_
  exact ww_cVt (M := m_X10_would) (pc := 38) (st := []) (bc := 0) (bs := 0) (c_within_f hst hC.K0 hwr u (nI 0) (nI 999) hout) vv_X10_within dX10_would_38 wg_410 (hC.K0) rfl rfl rfl rfl (Nat.le_of_ble_eq_true rfl) (Nat.le_of_ble_eq_true rfl) (Nat.le_of_ble_eq_true rfl) (Nat.le_of_ble_eq_true rfl) ⟨rfl, rfl⟩
set_option maxHeartbeats 4000000 in
set_option maxRecDepth 100000 in
theorem c_K_would_no5 {l : Launch} {Z : EE} (hst : l.stackTraces = false) {h : PH} {la lw bk : Nat} (hC : CL h la lw bk) {np du : Nat} {f : Nat → Int32} (hL : LandAt h la np du f) {sz : Nat} {kf vf : Nat → Int32} (hW : LawAt h lw sz kf vf) (hok : LawOK kf vf sz) {wr : Int32} (hwr : hp_F h 0 13 = .int wr) (n : Nat) (ln : 0 ≤ n) (hn : n ≤ 60) (r : Nat) (lr : 0 ≤ r) (hr : r ≤ 40) (w : Nat) (lw : 0 ≤ w) (hw : w ≤ 2) (o : Nat) (lo : 0 ≤ o) (ho : o ≤ 5) (u : Nat) (lu : 0 ≤ u) (hu : u ≤ 999) (dd : Int32) (hout : ¬ (nI 0 ≤ dd ∧ dd ≤ nI 900)) : CC l Z m_X10_would 7 1 6 [.ref 0, .int (nI n), .int (nI r), .int (nI w), .int (nI o), .int (nI u), .int dd] h (TH iaX (hp_sF h 0 13 (.int (wr + nI 1)))) := by
  refine ee_entry hst (by decide +kernel) rfl rfl (by simp [Value.category]) (Nat.le_of_ble_eq_true rfl) ?_
  refine ww_lv (lv2 := [.ref 0, .int (nI n), .int (nI r), .int (nI w), .int (nI o), .int (nI u), .int dd]) rfl ?_
  have hla := hC.la
  have hlw := hC.lw
  have hbk := hC.bk
  refine ww_aload_n dX10_would_0 rfl rfl ?_
  refine ww_iload_n dX10_would_1 rfl rfl ?_
  refine ww_iconst (v := nI 0) dX10_would_2 (by decide) ?_
  refine ww_bipush (v := nI 60) dX10_would_3 (by decide) ?_
  refine ww_cV0 (M := m_X10_would) (pc := 5) (h1 := h) (st := []) (bc := 1) (bs := 6) (c_within_t hst (nI n) (nI 0) (nI 60) (nI_le (by omega) (by omega)) (nI_le (by omega) (by omega)) _) vv_X10_within dX10_would_5 wg_410 (hC.K0) rfl rfl rfl rfl (Nat.le_of_ble_eq_true rfl) (Nat.le_of_ble_eq_true rfl) (Nat.le_of_ble_eq_true rfl) (Nat.le_of_ble_eq_true rfl) ?_
  refine ww_aload_n dX10_would_8 rfl rfl ?_
  refine ww_iload_n dX10_would_9 rfl rfl ?_
  refine ww_iconst (v := nI 0) dX10_would_10 (by decide) ?_
  refine ww_bipush (v := nI 40) dX10_would_11 (by decide) ?_
  refine ww_cV0 (M := m_X10_would) (pc := 13) (h1 := h) (st := []) (bc := 1) (bs := 6) (c_within_t hst (nI r) (nI 0) (nI 40) (nI_le (by omega) (by omega)) (nI_le (by omega) (by omega)) _) vv_X10_within dX10_would_13 wg_410 (hC.K0) rfl rfl rfl rfl (Nat.le_of_ble_eq_true rfl) (Nat.le_of_ble_eq_true rfl) (Nat.le_of_ble_eq_true rfl) (Nat.le_of_ble_eq_true rfl) ?_
  refine ww_aload_n dX10_would_16 rfl rfl ?_
  refine ww_iload_n dX10_would_17 rfl rfl ?_
  refine ww_iconst (v := nI 0) dX10_would_18 (by decide) ?_
  refine ww_iconst (v := nI 2) dX10_would_19 (by decide) ?_
  refine ww_cV0 (M := m_X10_would) (pc := 20) (h1 := h) (st := []) (bc := 1) (bs := 6) (c_within_t hst (nI w) (nI 0) (nI 2) (nI_le (by omega) (by omega)) (nI_le (by omega) (by omega)) _) vv_X10_within dX10_would_20 wg_410 (hC.K0) rfl rfl rfl rfl (Nat.le_of_ble_eq_true rfl) (Nat.le_of_ble_eq_true rfl) (Nat.le_of_ble_eq_true rfl) (Nat.le_of_ble_eq_true rfl) ?_
  refine ww_aload_n dX10_would_23 rfl rfl ?_
  refine ww_iload dX10_would_24 rfl ?_
  refine ww_iconst (v := nI 0) dX10_would_26 (by decide) ?_
  refine ww_iconst (v := nI 5) dX10_would_27 (by decide) ?_
  refine ww_cV0 (M := m_X10_would) (pc := 28) (h1 := h) (st := []) (bc := 1) (bs := 6) (c_within_t hst (nI o) (nI 0) (nI 5) (nI_le (by omega) (by omega)) (nI_le (by omega) (by omega)) _) vv_X10_within dX10_would_28 wg_410 (hC.K0) rfl rfl rfl rfl (Nat.le_of_ble_eq_true rfl) (Nat.le_of_ble_eq_true rfl) (Nat.le_of_ble_eq_true rfl) (Nat.le_of_ble_eq_true rfl) ?_
  refine ww_aload_n dX10_would_31 rfl rfl ?_
  refine ww_iload dX10_would_32 rfl ?_
  refine ww_iconst (v := nI 0) dX10_would_34 (by decide) ?_
  refine ww_sipush (v := nI 999) dX10_would_35 (by decide) ?_
  refine ww_cV0 (M := m_X10_would) (pc := 38) (h1 := h) (st := []) (bc := 1) (bs := 6) (c_within_t hst (nI u) (nI 0) (nI 999) (nI_le (by omega) (by omega)) (nI_le (by omega) (by omega)) _) vv_X10_within dX10_would_38 wg_410 (hC.K0) rfl rfl rfl rfl (Nat.le_of_ble_eq_true rfl) (Nat.le_of_ble_eq_true rfl) (Nat.le_of_ble_eq_true rfl) (Nat.le_of_ble_eq_true rfl) ?_
  refine ww_aload_n dX10_would_41 rfl rfl ?_
  refine ww_iload dX10_would_42 rfl ?_
  refine ww_iconst (v := nI 0) dX10_would_44 (by decide) ?_
  refine ww_sipush (v := nI 900) dX10_would_45 (by decide) ?_
  exact ww_cVt (M := m_X10_would) (pc := 48) (st := []) (bc := 0) (bs := 0) (c_within_f hst hC.K0 hwr dd (nI 0) (nI 900) hout) vv_X10_within dX10_would_48 wg_410 (hC.K0) rfl rfl rfl rfl (Nat.le_of_ble_eq_true rfl) (Nat.le_of_ble_eq_true rfl) (Nat.le_of_ble_eq_true rfl) (Nat.le_of_ble_eq_true rfl) ⟨rfl, rfl⟩
set_option maxHeartbeats 4000000 in
set_option maxRecDepth 100000 in
theorem c_K_status0 {l : Launch} {Z : EE} (hst : l.stackTraces = false) {h : PH} {la lw bk : Nat} (hC : CL h la lw bk) {mi : Int32} (hmi : hp_F h 0 12 = .int mi) : CC l Z m_X10_status 0 0 0 [.ref 0, .int (nI 0)] h (COk mi h) := by
  refine ee_entry hst (by decide +kernel) rfl rfl (by simp [Value.category]) (Nat.le_of_ble_eq_true rfl) ?_
  refine ww_lv (lv2 := [.ref 0, .int (nI 0)]) rfl ?_
  refine ww_iload_n dX10_status_0 rfl rfl ?_
  refine ww_lookup (off := 27) (tgt := 28) dX10_status_1 (by decide) (by decide) (by decide) ?_
  refine ww_aload_n dX10_status_28 rfl rfl ?_
  refine ww_get 12 dX10_status_29 (hC.K0) rfl (by decide) inX10 wg_276 hmi ?_
  exact ww_iret dX10_status_32 rfl ⟨rfl, Same.rf⟩
set_option maxHeartbeats 4000000 in
set_option maxRecDepth 100000 in
theorem c_K_status1 {l : Launch} {Z : EE} (hst : l.stackTraces = false) {h : PH} {la lw bk : Nat} (hC : CL h la lw bk) {mi : Int32} (hmi : hp_F h 0 13 = .int mi) : CC l Z m_X10_status 0 0 0 [.ref 0, .int (nI 1)] h (COk mi h) := by
  refine ee_entry hst (by decide +kernel) rfl rfl (by simp [Value.category]) (Nat.le_of_ble_eq_true rfl) ?_
  refine ww_lv (lv2 := [.ref 0, .int (nI 1)]) rfl ?_
  refine ww_iload_n dX10_status_0 rfl rfl ?_
  refine ww_lookup (off := 32) (tgt := 33) dX10_status_1 (by decide) (by decide) (by decide) ?_
  refine ww_aload_n dX10_status_33 rfl rfl ?_
  refine ww_get 13 dX10_status_34 (hC.K0) rfl (by decide) inX10 wg_277 hmi ?_
  exact ww_iret dX10_status_37 rfl ⟨rfl, Same.rf⟩
set_option maxHeartbeats 4000000 in
set_option maxRecDepth 100000 in
theorem c_K_fault {l : Launch} {Z : EE} (hst : l.stackTraces = false) {h : PH} {la lw bk : Nat} (hC : CL h la lw bk) {fl : Int32} (hfl : hp_F h 1 5 = .int fl) : CC l Z m_X10_fault 0 0 0 [.ref 0] h (COk fl h) := by
  refine ee_entry hst (by decide +kernel) rfl rfl (by simp [Value.category]) (Nat.le_of_ble_eq_true rfl) ?_
  refine ww_lv (lv2 := [.ref 0]) rfl ?_
  refine ww_aload_n dX10_fault_0 rfl rfl ?_
  refine ww_get 0 dX10_fault_1 (hC.K0) rfl (by decide) inX10 wg_264 (hC.R0_0) ?_
  refine ww_getN 5 dX10_fault_4 (hC.K1) rfl (by decide) inX5 wn_49 hfl ?_
  exact ww_iret dX10_fault_7 rfl ⟨rfl, Same.rf⟩
