/-- the reference's scratch: rows and fields that no call shows -/
def SX (m : Nat) : Nat → Prop := fun c => c ∈ ([3, 4, 5, 6, 7, 10, 11, 12, 13, 15, 17, 19, 20, 21, 22, 23, 24].map (fun i => m + i) : List Nat)
def SY (m : Nat) : Nat → Nat → Prop := fun a j => a = m ∧ j ∈ ([0, 3, 4, 5, 7, 13, 14, 22, 27, 30, 31, 32, 42, 43, 44, 45, 48, 49] : List Nat)
def SXr (m : Nat) : Nat → Prop := fun c => SX m c ∨ c = m + 1
theorem SX3 (m : Nat) : SX m (m + 3) := List.mem_map.mpr ⟨3, by decide, rfl⟩
theorem SX4 (m : Nat) : SX m (m + 4) := List.mem_map.mpr ⟨4, by decide, rfl⟩
theorem SX5 (m : Nat) : SX m (m + 5) := List.mem_map.mpr ⟨5, by decide, rfl⟩
theorem SX6 (m : Nat) : SX m (m + 6) := List.mem_map.mpr ⟨6, by decide, rfl⟩
theorem SX7 (m : Nat) : SX m (m + 7) := List.mem_map.mpr ⟨7, by decide, rfl⟩
theorem SX10 (m : Nat) : SX m (m + 10) := List.mem_map.mpr ⟨10, by decide, rfl⟩
theorem SX11 (m : Nat) : SX m (m + 11) := List.mem_map.mpr ⟨11, by decide, rfl⟩
theorem SX12 (m : Nat) : SX m (m + 12) := List.mem_map.mpr ⟨12, by decide, rfl⟩
theorem SX13 (m : Nat) : SX m (m + 13) := List.mem_map.mpr ⟨13, by decide, rfl⟩
theorem SX15 (m : Nat) : SX m (m + 15) := List.mem_map.mpr ⟨15, by decide, rfl⟩
theorem SX17 (m : Nat) : SX m (m + 17) := List.mem_map.mpr ⟨17, by decide, rfl⟩
theorem SX19 (m : Nat) : SX m (m + 19) := List.mem_map.mpr ⟨19, by decide, rfl⟩
theorem SX20 (m : Nat) : SX m (m + 20) := List.mem_map.mpr ⟨20, by decide, rfl⟩
theorem SX21 (m : Nat) : SX m (m + 21) := List.mem_map.mpr ⟨21, by decide, rfl⟩
theorem SX22 (m : Nat) : SX m (m + 22) := List.mem_map.mpr ⟨22, by decide, rfl⟩
theorem SX23 (m : Nat) : SX m (m + 23) := List.mem_map.mpr ⟨23, by decide, rfl⟩
theorem SX24 (m : Nat) : SX m (m + 24) := List.mem_map.mpr ⟨24, by decide, rfl⟩
theorem SY0 (m : Nat) : SY m m 0 := ⟨rfl, by decide⟩
theorem SY3 (m : Nat) : SY m m 3 := ⟨rfl, by decide⟩
theorem SY4 (m : Nat) : SY m m 4 := ⟨rfl, by decide⟩
theorem SY5 (m : Nat) : SY m m 5 := ⟨rfl, by decide⟩
theorem SY7 (m : Nat) : SY m m 7 := ⟨rfl, by decide⟩
theorem SY13 (m : Nat) : SY m m 13 := ⟨rfl, by decide⟩
theorem SY14 (m : Nat) : SY m m 14 := ⟨rfl, by decide⟩
theorem SY22 (m : Nat) : SY m m 22 := ⟨rfl, by decide⟩
theorem SY27 (m : Nat) : SY m m 27 := ⟨rfl, by decide⟩
theorem SY30 (m : Nat) : SY m m 30 := ⟨rfl, by decide⟩
theorem SY31 (m : Nat) : SY m m 31 := ⟨rfl, by decide⟩
theorem SY32 (m : Nat) : SY m m 32 := ⟨rfl, by decide⟩
theorem SY42 (m : Nat) : SY m m 42 := ⟨rfl, by decide⟩
theorem SY43 (m : Nat) : SY m m 43 := ⟨rfl, by decide⟩
theorem SY44 (m : Nat) : SY m m 44 := ⟨rfl, by decide⟩
theorem SY45 (m : Nat) : SY m m 45 := ⟨rfl, by decide⟩
theorem SY48 (m : Nat) : SY m m 48 := ⟨rfl, by decide⟩
theorem SY49 (m : Nat) : SY m m 49 := ⟨rfl, by decide⟩
theorem SX_no {m c : Nat} (h : c ∉ ([3, 4, 5, 6, 7, 10, 11, 12, 13, 15, 17, 19, 20, 21, 22, 23, 24] : List Nat)) : ¬ SX m (m + c) := fun hx => by
  obtain ⟨i, hi, e⟩ := List.mem_map.mp hx
  have : i = c := by omega
  exact h (this ▸ hi)
theorem SX_lt {m c : Nat} (h : SX m c) : m < c ∧ c ≤ m + 25 := by
  obtain ⟨i, hi, e⟩ := List.mem_map.mp h
  have : 0 < i ∧ i ≤ 25 := (by decide : ∀ i ∈ ([3, 4, 5, 6, 7, 10, 11, 12, 13, 15, 17, 19, 20, 21, 22, 23, 24] : List Nat), 0 < i ∧ i ≤ 25) i hi
  omega
theorem SY_no {m j : Nat} (h : j ∉ ([0, 3, 4, 5, 7, 13, 14, 22, 27, 30, 31, 32, 42, 43, 44, 45, 48, 49] : List Nat)) : ¬ SY m m j := fun hx => h hx.2
theorem ModS.scr {h h' : PH} {m : Nat} {X : Nat → Prop} (hM : ModS h m) (hS : Same X (SY m) h h') : ModS h' m := hM.same hS (fun q hq => SY_no ((by decide : ∀ q ∈ modT, q.1 ∉ ([0, 3, 4, 5, 7, 13, 14, 22, 27, 30, 31, 32, 42, 43, 44, 45, 48, 49] : List Nat)) q hq))
/-- answered; refused: the exception's place in the law's row, its kind's counter -/
def MOk (ans : Int32) (m : Nat) (h : PH) : Res → PH → Prop := RQ (some (.int ans)) (fun h' => Same (SX m) (SY m) h h' ∧ hp_F h' m 0 = .int (nI 0))
def MNo (cd kd : Nat) (m : Nat) (h : PH) : Res → PH → Prop := RQ (some (.int (nI 0))) (fun h' => Same (SXr m) (SY m) h h' ∧ hp_F h' m 0 = .int (nI cd) ∧ hp_I h' (m + 1) = upd (hp_I h (m + 1)) kd (hp_I h (m + 1) kd + nI 1))
def outR (lo hi : Nat) (x : Int32) : Prop := ¬ (nI lo ≤ x ∧ x ≤ nI hi)
def inR (lo hi : Nat) (x : Int32) : Prop := ∃ j : Nat, lo ≤ j ∧ j ≤ hi ∧ x = nI j
theorem in_or_out (lo hi : Nat) (hl : lo < 2 ^ 31) (hh : hi < 2 ^ 31 - 1) (x : Int32) : inR lo hi x ∨ outR lo hi x := by
  rcases pk_ix x (show hi + 1 < 2 ^ 31 by omega) with e | e | ⟨j, hj, e⟩
  · refine Or.inr (fun q => ?_)
    have h1 : (nI lo).toInt ≤ x.toInt := Int32.le_iff_toInt_le.mp q.1
    have h2 : x.toInt < (0 : Int32).toInt := Int32.lt_iff_toInt_lt.mp e
    rw [nI_toInt hl] at h1
    have : (0 : Int32).toInt = 0 := rfl
    omega
  · refine Or.inr (fun q => ?_)
    have h1 : (nI (hi + 1)).toInt ≤ x.toInt := Int32.le_iff_toInt_le.mp e
    have h2 : x.toInt ≤ (nI hi).toInt := Int32.le_iff_toInt_le.mp q.2
    rw [nI_toInt (by omega)] at h1 h2
    omega
  · by_cases hlj : lo ≤ j
    · exact Or.inl ⟨j, hlj, by omega, e⟩
    · refine Or.inr (fun q => ?_)
      rw [e] at q
      exact absurd q.1 (nI_ge (by omega) hl)
set_option maxHeartbeats 4000000 in
set_option maxRecDepth 100000 in
theorem c_M_within_t {l : Launch} {Z : EE} (hst : l.stackTraces = false) (v x y : Int32) (h1 : x ≤ v) (h2 : v ≤ y) (h : PH) : CC l Z m_X11_within 0 0 0 [.int v, .int x, .int y] h (RT (some (.int (nI 1))) h) := by
  refine ee_entry hst (by decide +kernel) rfl rfl (by simp [Value.category]) (Nat.le_of_ble_eq_true rfl) ?_
  refine ww_lv (lv2 := [.int v, .int x, .int y]) rfl ?_
  refine ww_iload_n dX11_within_0 rfl rfl ?_
  refine ww_iload_n dX11_within_1 rfl rfl ?_
  refine ww_icmp_lt (tgt := 14) dX11_within_2 (by decide) (fun c2 => ?_) (fun c2 => ?_)
  · exact absurd h1 (Int32.not_le.mpr c2)
  · refine ww_iload_n dX11_within_5 rfl rfl ?_
    refine ww_iload_n dX11_within_6 rfl rfl ?_
    refine ww_icmp_gt (tgt := 14) dX11_within_7 (by decide) (fun c7 => ?_) (fun c7 => ?_)
    · exact absurd h2 (by first | exact Int32.not_le.mpr c7 | exact c7)
    · refine ww_iconst (v := nI 1) dX11_within_10 (by decide) ?_
      refine ww_goto (tgt := 15) dX11_within_11 (by decide) ?_
      exact ww_zret dX11_within_15 rfl (by first | rfl | exact nar_bI _) ⟨rfl, rfl⟩
set_option maxHeartbeats 4000000 in
set_option maxRecDepth 100000 in
theorem c_M_within_f {l : Launch} {Z : EE} (hst : l.stackTraces = false) (v x y : Int32) (h1 : ¬ (x ≤ v ∧ v ≤ y)) (h : PH) : CC l Z m_X11_within 0 0 0 [.int v, .int x, .int y] h (RT (some (.int (nI 0))) h) := by
  refine ee_entry hst (by decide +kernel) rfl rfl (by simp [Value.category]) (Nat.le_of_ble_eq_true rfl) ?_
  refine ww_lv (lv2 := [.int v, .int x, .int y]) rfl ?_
  refine ww_iload_n dX11_within_0 rfl rfl ?_
  refine ww_iload_n dX11_within_1 rfl rfl ?_
  refine ww_icmp_lt (tgt := 14) dX11_within_2 (by decide) (fun c2 => ?_) (fun c2 => ?_)
  · refine ww_iconst (v := nI 0) dX11_within_14 (by decide) ?_
    exact ww_zret dX11_within_15 rfl (by first | rfl | exact nar_bI _) ⟨rfl, rfl⟩
  · refine ww_iload_n dX11_within_5 rfl rfl ?_
    refine ww_iload_n dX11_within_6 rfl rfl ?_
    refine ww_icmp_gt (tgt := 14) dX11_within_7 (by decide) (fun c7 => ?_) (fun c7 => ?_)
    · refine ww_iconst (v := nI 0) dX11_within_14 (by decide) ?_
      exact ww_zret dX11_within_15 rfl (by first | rfl | exact nar_bI _) ⟨rfl, rfl⟩
    · refine ww_iconst (v := nI 1) dX11_within_10 (by decide) ?_
      refine ww_goto (tgt := 15) dX11_within_11 (by decide) ?_
      exact ww_zret dX11_within_15 rfl (by first | rfl | exact nar_bI _) (absurd (show x ≤ v ∧ v ≤ y from ⟨Int32.not_lt.mp c2, by first | exact Int32.not_lt.mp c7 | exact c7⟩) h1)
set_option maxHeartbeats 4000000 in
set_option maxRecDepth 100000 in
theorem c_M_may_t {l : Launch} {Z : EE} (hst : l.stackTraces = false) {h : PH} {m : Nat} (hM : ModS h m) (ht : hp_F h m 0 = .int (nI 0)) (cd kd : Int32) : CC l Z m_X11_may 0 0 0 [.ref m, .int (nI 1), .int cd, .int kd] h (RT (some (.int (nI 1))) h) := by
  refine ee_entry hst (by decide +kernel) rfl rfl (by simp [Value.category]) (Nat.le_of_ble_eq_true rfl) ?_
  refine ww_lv (lv2 := [.ref m, .int (nI 1), .int cd, .int kd]) rfl ?_
  refine ww_iload_n dX11_may_0 rfl rfl ?_
  refine ww_if_neN (tgt := 26) dX11_may_1 (by decide) (by omega) (fun c1 => ?_) (fun c1 => ?_)
  · refine ww_aload_n dX11_may_26 rfl rfl ?_
    refine ww_get 0 dX11_may_27 hM.K0 rfl (by decide) inX11 wg_1240 ht ?_
    refine ww_if_neN (tgt := 37) dX11_may_30 (by decide) (by omega) (fun c30 => ?_) (fun c30 => ?_)
    · exact absurd c30 (by decide)
    · refine ww_iconst (v := nI 1) dX11_may_33 (by decide) ?_
      refine ww_goto (tgt := 38) dX11_may_34 (by decide) ?_
      exact ww_zret dX11_may_38 rfl (by first | rfl | exact nar_bI _) ⟨rfl, rfl⟩
  · exact absurd c1 (by decide)
set_option maxHeartbeats 4000000 in
set_option maxRecDepth 100000 in
theorem c_M_may_f {l : Launch} {Z : EE} (hst : l.stackTraces = false) {h : PH} {m : Nat} (hM : ModS h m) (ht : hp_F h m 0 = .int (nI 0)) (cd kd : Nat) (hcd : 0 < cd) (hcd2 : cd < 10) (hkd : kd < 2) : CC l Z m_X11_may 0 0 0 [.ref m, .int (nI 0), .int (nI cd), .int (nI kd)] h (RT (some (.int (nI 0))) (hp_sI (hp_sF h m 0 (.int (nI cd))) (m + 1) (upd (hp_I h (m + 1)) kd (hp_I h (m + 1) kd + nI 1)))) := by
  refine ee_entry hst (by decide +kernel) rfl rfl (by simp [Value.category]) (Nat.le_of_ble_eq_true rfl) ?_
  refine ww_lv (lv2 := [.ref m, .int (nI 0), .int (nI cd), .int (nI kd)]) rfl ?_
  refine ww_iload_n dX11_may_0 rfl rfl ?_
  refine ww_if_neN (tgt := 26) dX11_may_1 (by decide) (by omega) (fun c1 => ?_) (fun c1 => ?_)
  · exact absurd c1 (by decide)
  · refine ww_aload_n dX11_may_4 rfl rfl ?_
    refine ww_get 0 dX11_may_5 hM.K0 rfl (by decide) inX11 wg_1240 ht ?_
    refine ww_if_neN (tgt := 26) dX11_may_8 (by decide) (by omega) (fun c8 => ?_) (fun c8 => ?_)
    · exact absurd c8 (by decide)
    · refine ww_aload_n dX11_may_11 rfl rfl ?_
      refine ww_iload_n dX11_may_12 rfl rfl ?_
      refine ww_pfI tyX11 0 dX11_may_13 hM.K0 rfl (by decide) inX11 tyX11_ok nmX11 wg_1240 rfl rfl ?_
      refine ww_aload_n dX11_may_16 rfl rfl ?_
      refine ww_get 1 dX11_may_17 hM.K0 rfl (by decide) inX11 wg_1241 (hp_F_nj (by decide) hM.F1) ?_
      refine ww_iload_n dX11_may_20 rfl rfl ?_
      refine ww_dup2 dX11_may_21 rfl rfl ?_
      refine ww_ialdF dX11_may_22 hM.K1 rfl (by omega) (by omega) ?_
      refine ww_iconst (v := nI 1) dX11_may_23 (by decide) ?_
      refine ww_iadd dX11_may_24 ?_
      refine ww_iastF dX11_may_25 hM.K1 rfl (by omega) (by omega) ?_
      refine ww_aload_n dX11_may_26 rfl rfl ?_
      refine ww_get 0 dX11_may_27 hM.K0 rfl (by decide) inX11 wg_1240 (hp_F_eq _ _ _ _) ?_
      refine ww_if_neN (tgt := 37) dX11_may_30 (by decide) (by omega) (fun c30 => ?_) (fun c30 => ?_)
      · refine ww_iconst (v := nI 0) dX11_may_37 (by decide) ?_
        exact ww_zret dX11_may_38 rfl (by first | rfl | exact nar_bI _) ⟨rfl, rfl⟩
      · exfalso; omega
set_option maxHeartbeats 4000000 in
set_option maxRecDepth 100000 in
theorem c_M_thrown {l : Launch} {Z : EE} (hst : l.stackTraces = false) {h : PH} {m : Nat} (hM : ModS h m) (t : Int32) (ht : hp_F h m 0 = .int t) : CC l Z m_X11_thrown 0 0 0 [.ref m] h (RT (some (.int t)) h) := by
  refine ee_entry hst (by decide +kernel) rfl rfl (by simp [Value.category]) (Nat.le_of_ble_eq_true rfl) ?_
  refine ww_lv (lv2 := [.ref m]) rfl ?_
  refine ww_aload_n dX11_thrown_0 rfl rfl ?_
  refine ww_get 0 dX11_thrown_1 hM.K0 rfl (by decide) inX11 wg_1240 ht ?_
  exact ww_iret dX11_thrown_4 rfl ⟨rfl, rfl⟩
theorem pers_in {np q : Nat} (hq : q < np) (hnp : np ≤ 6) : nI 0 ≤ nI q ∧ nI q ≤ nI np - nI 1 := by
  rw [pk_sub (by omega)]
  exact ⟨nI_le (by omega) (by omega), nI_le (by omega) (by omega)⟩
def outP (np : Nat) (x : Int32) : Prop := ¬ (nI 0 ≤ x ∧ x < nI np)
theorem pers_out {np : Nat} {x : Int32} (hnp : np ≤ 6) (h : outP np x) : ¬ (nI 0 ≤ x ∧ x ≤ nI np - nI 1) := by
  intro q
  refine h ⟨q.1, ?_⟩
  have h1 : (nI 0).toInt ≤ x.toInt := Int32.le_iff_toInt_le.mp q.1
  have h2 : x.toInt ≤ (nI np - nI 1).toInt := Int32.le_iff_toInt_le.mp q.2
  rw [pk_sub_toInt (by omega) (by omega)] at h2
  exact Int32.lt_iff_toInt_lt.mpr (by rw [nI_toInt (by omega)]; omega)
theorem p_in_or_out (np : Nat) (hnp : np ≤ 6) (x : Int32) : (∃ q, q < np ∧ x = nI q) ∨ outP np x := by
  rcases pk_ix x (show np < 2 ^ 31 by omega) with e | e | ⟨j, hj, e⟩
  · exact Or.inr (fun q => absurd e (Int32.not_lt.mpr (by have := q.1; rw [nI_0] at this; exact this)))
  · exact Or.inr (fun q => absurd q.2 (Int32.not_lt.mpr e))
  · exact Or.inl ⟨j, hj, e⟩
set_option maxHeartbeats 4000000 in
set_option maxRecDepth 100000 in
theorem c_M_isPerson_t {l : Launch} {Z : EE} (hst : l.stackTraces = false) {h : PH} {m : Nat} (hM : ModS h m) (ht : hp_F h m 0 = .int (nI 0)) {np : Nat} (hnp : hp_F h m 15 = .int (nI np)) (h6 : np ≤ 6) (q : Nat) (hq : q < np) : CC l Z m_X11_isPerson 1 0 0 [.ref m, .int (nI q), .int (nI 1)] h (RT (some (.int (nI 1))) h) := by
  refine ee_entry hst (by decide +kernel) rfl rfl (by simp [Value.category]) (Nat.le_of_ble_eq_true rfl) ?_
  refine ww_lv (lv2 := [.ref m, .int (nI q), .int (nI 1)]) rfl ?_
  refine ww_aload_n dX11_isPerson_0 rfl rfl ?_
  refine ww_iload_n dX11_isPerson_1 rfl rfl ?_
  refine ww_iconst (v := nI 0) dX11_isPerson_2 (by decide) ?_
  refine ww_aload_n dX11_isPerson_3 rfl rfl ?_
  refine ww_get 15 dX11_isPerson_4 hM.K0 rfl (by decide) inX11 wg_1255 hnp ?_
  refine ww_iconst (v := nI 1) dX11_isPerson_7 (by decide) ?_
  refine ww_isub dX11_isPerson_8 ?_
  refine ww_cSr (M := m_X11_isPerson) (pc := 9) (v := .int (nI 1)) (h1 := h) (st := [.ref m]) (bc := 0) (bs := 0) (c_M_within_t hst (nI q) (nI 0) ((nI np) - (nI 1)) (pers_in hq h6).1 (pers_in hq h6).2 _) vv_X11_within dX11_isPerson_9 wg_1601 rfl rfl rfl (Nat.le_of_ble_eq_true rfl) (Nat.le_of_ble_eq_true rfl) (Nat.le_of_ble_eq_true rfl) (Nat.le_of_ble_eq_true rfl) ?_
  refine ww_iload_n dX11_isPerson_12 rfl rfl ?_
  refine ww_iconst (v := nI 0) dX11_isPerson_13 (by decide) ?_
  refine ww_cVr (M := m_X11_isPerson) (pc := 14) (v := .int (nI 1)) (h1 := h) (st := []) (bc := 0) (bs := 0) (c_M_may_t hst (h := h) hM ht (nI 1) (nI 0)) vv_X11_may dX11_isPerson_14 wg_1413 hM.K0 rfl rfl rfl rfl (Nat.le_of_ble_eq_true rfl) (Nat.le_of_ble_eq_true rfl) (Nat.le_of_ble_eq_true rfl) (Nat.le_of_ble_eq_true rfl) ?_
  exact ww_zret dX11_isPerson_17 rfl (by first | rfl | exact nar_bI _) ⟨rfl, rfl⟩
set_option maxHeartbeats 4000000 in
set_option maxRecDepth 100000 in
theorem c_M_isPerson_f {l : Launch} {Z : EE} (hst : l.stackTraces = false) {h : PH} {m : Nat} (hM : ModS h m) (ht : hp_F h m 0 = .int (nI 0)) {np : Nat} (hnp : hp_F h m 15 = .int (nI np)) (h6 : np ≤ 6) (x : Int32) (hx : outP np x) : CC l Z m_X11_isPerson 1 0 0 [.ref m, .int x, .int (nI 1)] h (RT (some (.int (nI 0))) (hp_sI (hp_sF h m 0 (.int (nI 1))) (m + 1) (upd (hp_I h (m + 1)) 0 (hp_I h (m + 1) 0 + nI 1)))) := by
  refine ee_entry hst (by decide +kernel) rfl rfl (by simp [Value.category]) (Nat.le_of_ble_eq_true rfl) ?_
  refine ww_lv (lv2 := [.ref m, .int x, .int (nI 1)]) rfl ?_
  refine ww_aload_n dX11_isPerson_0 rfl rfl ?_
  refine ww_iload_n dX11_isPerson_1 rfl rfl ?_
  refine ww_iconst (v := nI 0) dX11_isPerson_2 (by decide) ?_
  refine ww_aload_n dX11_isPerson_3 rfl rfl ?_
  refine ww_get 15 dX11_isPerson_4 hM.K0 rfl (by decide) inX11 wg_1255 hnp ?_
  refine ww_iconst (v := nI 1) dX11_isPerson_7 (by decide) ?_
  refine ww_isub dX11_isPerson_8 ?_
  refine ww_cSr (M := m_X11_isPerson) (pc := 9) (v := .int (nI 0)) (h1 := h) (st := [.ref m]) (bc := 0) (bs := 0) (c_M_within_f hst x (nI 0) ((nI np) - (nI 1)) (pers_out h6 hx) _) vv_X11_within dX11_isPerson_9 wg_1601 rfl rfl rfl (Nat.le_of_ble_eq_true rfl) (Nat.le_of_ble_eq_true rfl) (Nat.le_of_ble_eq_true rfl) (Nat.le_of_ble_eq_true rfl) ?_
  refine ww_iload_n dX11_isPerson_12 rfl rfl ?_
  refine ww_iconst (v := nI 0) dX11_isPerson_13 (by decide) ?_
  refine ww_cVr (M := m_X11_isPerson) (pc := 14) (v := .int (nI 0)) (h1 := hp_sI (hp_sF (h) m 0 (.int (nI 1))) (m + 1) (upd (hp_I (h) (m + 1)) 0 (hp_I (h) (m + 1) 0 + nI 1))) (st := []) (bc := 0) (bs := 0) (c_M_may_f hst (h := h) hM ht 1 0 (by decide) (by decide) (by decide)) vv_X11_may dX11_isPerson_14 wg_1413 hM.K0 rfl rfl rfl rfl (Nat.le_of_ble_eq_true rfl) (Nat.le_of_ble_eq_true rfl) (Nat.le_of_ble_eq_true rfl) (Nat.le_of_ble_eq_true rfl) ?_
  exact ww_zret dX11_isPerson_17 rfl (by first | rfl | exact nar_bI _) ⟨rfl, rfl⟩
set_option maxHeartbeats 4000000 in
set_option maxRecDepth 100000 in
theorem c_M_isThere_t {l : Launch} {Z : EE} (hst : l.stackTraces = false) {h : PH} {m : Nat} (hM : ModS h m) (ht : hp_F h m 0 = .int (nI 0)) (n : Nat) (hn : n ≤ 60) : CC l Z m_X11_isThere 1 0 0 [.ref m, .int (nI n), .int (nI 1)] h (RT (some (.int (nI 1))) h) := by
  refine ee_entry hst (by decide +kernel) rfl rfl (by simp [Value.category]) (Nat.le_of_ble_eq_true rfl) ?_
  refine ww_lv (lv2 := [.ref m, .int (nI n), .int (nI 1)]) rfl ?_
  refine ww_aload_n dX11_isThere_0 rfl rfl ?_
  refine ww_iload_n dX11_isThere_1 rfl rfl ?_
  refine ww_iconst (v := nI 0) dX11_isThere_2 (by decide) ?_
  refine ww_bipush (v := nI 60) dX11_isThere_3 (by decide) ?_
  refine ww_cSr (M := m_X11_isThere) (pc := 5) (v := .int (nI 1)) (h1 := h) (st := [.ref m]) (bc := 0) (bs := 0) (c_M_within_t hst (nI n) (nI 0) (nI 60) (nI_le (Nat.zero_le _) (by omega)) (nI_le hn (by omega)) _) vv_X11_within dX11_isThere_5 wg_1601 rfl rfl rfl (Nat.le_of_ble_eq_true rfl) (Nat.le_of_ble_eq_true rfl) (Nat.le_of_ble_eq_true rfl) (Nat.le_of_ble_eq_true rfl) ?_
  refine ww_iload_n dX11_isThere_8 rfl rfl ?_
  refine ww_iconst (v := nI 0) dX11_isThere_9 (by decide) ?_
  refine ww_cVr (M := m_X11_isThere) (pc := 10) (v := .int (nI 1)) (h1 := h) (st := []) (bc := 0) (bs := 0) (c_M_may_t hst (h := h) hM ht (nI 1) (nI 0)) vv_X11_may dX11_isThere_10 wg_1413 hM.K0 rfl rfl rfl rfl (Nat.le_of_ble_eq_true rfl) (Nat.le_of_ble_eq_true rfl) (Nat.le_of_ble_eq_true rfl) (Nat.le_of_ble_eq_true rfl) ?_
  exact ww_zret dX11_isThere_13 rfl (by first | rfl | exact nar_bI _) ⟨rfl, rfl⟩
set_option maxHeartbeats 4000000 in
set_option maxRecDepth 100000 in
theorem c_M_isThere_f {l : Launch} {Z : EE} (hst : l.stackTraces = false) {h : PH} {m : Nat} (hM : ModS h m) (ht : hp_F h m 0 = .int (nI 0)) (x : Int32) (hx : outR 0 60 x) : CC l Z m_X11_isThere 1 0 0 [.ref m, .int x, .int (nI 1)] h (RT (some (.int (nI 0))) (hp_sI (hp_sF h m 0 (.int (nI 1))) (m + 1) (upd (hp_I h (m + 1)) 0 (hp_I h (m + 1) 0 + nI 1)))) := by
  refine ee_entry hst (by decide +kernel) rfl rfl (by simp [Value.category]) (Nat.le_of_ble_eq_true rfl) ?_
  refine ww_lv (lv2 := [.ref m, .int x, .int (nI 1)]) rfl ?_
  refine ww_aload_n dX11_isThere_0 rfl rfl ?_
  refine ww_iload_n dX11_isThere_1 rfl rfl ?_
  refine ww_iconst (v := nI 0) dX11_isThere_2 (by decide) ?_
  refine ww_bipush (v := nI 60) dX11_isThere_3 (by decide) ?_
  refine ww_cSr (M := m_X11_isThere) (pc := 5) (v := .int (nI 0)) (h1 := h) (st := [.ref m]) (bc := 0) (bs := 0) (c_M_within_f hst x (nI 0) (nI 60) hx _) vv_X11_within dX11_isThere_5 wg_1601 rfl rfl rfl (Nat.le_of_ble_eq_true rfl) (Nat.le_of_ble_eq_true rfl) (Nat.le_of_ble_eq_true rfl) (Nat.le_of_ble_eq_true rfl) ?_
  refine ww_iload_n dX11_isThere_8 rfl rfl ?_
  refine ww_iconst (v := nI 0) dX11_isThere_9 (by decide) ?_
  refine ww_cVr (M := m_X11_isThere) (pc := 10) (v := .int (nI 0)) (h1 := hp_sI (hp_sF (h) m 0 (.int (nI 1))) (m + 1) (upd (hp_I (h) (m + 1)) 0 (hp_I (h) (m + 1) 0 + nI 1))) (st := []) (bc := 0) (bs := 0) (c_M_may_f hst (h := h) hM ht 1 0 (by decide) (by decide) (by decide)) vv_X11_may dX11_isThere_10 wg_1413 hM.K0 rfl rfl rfl rfl (Nat.le_of_ble_eq_true rfl) (Nat.le_of_ble_eq_true rfl) (Nat.le_of_ble_eq_true rfl) (Nat.le_of_ble_eq_true rfl) ?_
  exact ww_zret dX11_isThere_13 rfl (by first | rfl | exact nar_bI _) ⟨rfl, rfl⟩
