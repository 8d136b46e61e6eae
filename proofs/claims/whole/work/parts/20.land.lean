theorem nar_bI (b : Bool) : narrow .boolean (.int (bI b)) = .int (bI b) := by cases b <;> rfl
/-- how many of the first n are such -/
def cnt (p : Nat → Bool) : Nat → Nat
  | 0 => 0
  | n + 1 => cnt p n + (if p n = true then 1 else 0)
theorem cnt_le (p : Nat → Bool) : ∀ n, cnt p n ≤ n
  | 0 => Nat.le_refl 0
  | n + 1 => by have := cnt_le p n; simp only [cnt]; split <;> omega
/-- the sum of the first n -/
def smI (g : Nat → Int32) : Nat → Int32
  | 0 => 0
  | n + 1 => smI g n + g n
/-- fold of the first n -/
def foI {α : Type} (g : Nat → α → α) (a : α) : Nat → α
  | 0 => a
  | n + 1 => g n (foI g a n)
/-- a LAND: the object at a, its row behind it -/
def LandAt (h : PH) (a np du : Nat) (f : Nat → Int32) : Prop := hp_K h a = (2, 3) ∧ hp_K h (a + 1) = (20, 190) ∧ hp_F h a 0 = .ref (a + 1) ∧ hp_F h a 1 = .int (nI np) ∧ hp_F h a 2 = .int (nI du) ∧ hp_I h (a + 1) = f ∧ np ≤ 6 ∧ du ≤ 20
def mnI (x y : Int32) : Int32 := if y < x then y else x
def mxI (x y : Int32) : Int32 := if x < y then y else x
def abI (x : Int32) : Int32 := if x < 0 then -x else x
set_option maxHeartbeats 4000000 in
set_option maxRecDepth 100000 in
theorem c_min {l : Launch} {Z : EE} (hst : l.stackTraces = false) (x y : Int32) (h : PH) : CC l Z m_J9_min_7cf53 0 0 0 [.int x, .int y] h (RT (some (.int (mnI x y))) h) := by
  refine ee_entryF hst (by decide +kernel) rfl rfl (by simp [Value.category]) (Nat.le_of_ble_eq_true rfl) ?_
  refine ww_lv (lv2 := [.int x, .int y]) rfl ?_
  refine ww_iload_n dJ9_min_7cf53_0 rfl rfl ?_
  refine ww_iload_n dJ9_min_7cf53_1 rfl rfl ?_
  refine ww_icmp_gt (tgt := 9) dJ9_min_7cf53_2 (by decide) (fun c2 => ?_) (fun c2 => ?_)
  · refine ww_iload_n dJ9_min_7cf53_9 rfl rfl ?_
    exact ww_iret dJ9_min_7cf53_10 rfl ⟨by unfold mnI; first | rw [if_neg (by simpa using c2)] | rw [if_pos (by simpa using c2)] | (simp_all [Int32.not_lt, Int32.not_le]; done), rfl⟩
  · refine ww_iload_n dJ9_min_7cf53_5 rfl rfl ?_
    refine ww_goto (tgt := 10) dJ9_min_7cf53_6 (by decide) ?_
    exact ww_iret dJ9_min_7cf53_10 rfl ⟨by unfold mnI; first | rw [if_neg (by simpa using c2)] | rw [if_pos (by simpa using c2)] | (simp_all [Int32.not_lt, Int32.not_le]; done), rfl⟩
set_option maxHeartbeats 4000000 in
set_option maxRecDepth 100000 in
theorem c_max {l : Launch} {Z : EE} (hst : l.stackTraces = false) (x y : Int32) (h : PH) : CC l Z m_J9_max_7cf53 0 0 0 [.int x, .int y] h (RT (some (.int (mxI x y))) h) := by
  refine ee_entryF hst (by decide +kernel) rfl rfl (by simp [Value.category]) (Nat.le_of_ble_eq_true rfl) ?_
  refine ww_lv (lv2 := [.int x, .int y]) rfl ?_
  refine ww_iload_n dJ9_max_7cf53_0 rfl rfl ?_
  refine ww_iload_n dJ9_max_7cf53_1 rfl rfl ?_
  refine ww_icmp_lt (tgt := 9) dJ9_max_7cf53_2 (by decide) (fun c2 => ?_) (fun c2 => ?_)
  · refine ww_iload_n dJ9_max_7cf53_9 rfl rfl ?_
    exact ww_iret dJ9_max_7cf53_10 rfl ⟨by unfold mxI; first | rw [if_neg (by simpa using c2)] | rw [if_pos (by simpa using c2)] | (simp_all [Int32.not_lt, Int32.not_le]; done), rfl⟩
  · refine ww_iload_n dJ9_max_7cf53_5 rfl rfl ?_
    refine ww_goto (tgt := 10) dJ9_max_7cf53_6 (by decide) ?_
    exact ww_iret dJ9_max_7cf53_10 rfl ⟨by unfold mxI; first | rw [if_neg (by simpa using c2)] | rw [if_pos (by simpa using c2)] | (simp_all [Int32.not_lt, Int32.not_le]; done), rfl⟩
set_option maxHeartbeats 4000000 in
set_option maxRecDepth 100000 in
theorem c_Land_owner {l : Launch} {Z : EE} (hst : l.stackTraces = false) {h : PH} {a np du : Nat} {f : Nat → Int32} (hL : LandAt h a np du f) (n : Nat) (hn : n < 61) : CC l Z m_X2_owner 0 0 0 [.ref a, .int (nI n)] h (RT (some (.int (f n))) h) := by
  refine ee_entry hst (by decide +kernel) rfl rfl (by simp [Value.category]) (Nat.le_of_ble_eq_true rfl) ?_
  refine ww_lv (lv2 := [.ref a, .int (nI n)]) rfl ?_
  refine ww_aload_n dX2_owner_0 rfl rfl ?_
  refine ww_get 0 dX2_owner_1 hL.1 rfl (by decide) inX2 wg_74 hL.2.2.1 ?_
  refine ww_iconst (v := nI 0) dX2_owner_4 (by decide) ?_
  refine ww_iload_n dX2_owner_5 rfl rfl ?_
  refine ww_iaddN dX2_owner_6 ?_
  refine ww_ialdF dX2_owner_7 hL.2.1 hL.2.2.2.2.2.1 (by omega) (by omega) ?_
  exact ww_iret dX2_owner_8 rfl ⟨by rw [Nat.zero_add], rfl⟩
set_option maxHeartbeats 4000000 in
set_option maxRecDepth 100000 in
theorem c_Land_rent {l : Launch} {Z : EE} (hst : l.stackTraces = false) {h : PH} {a np du : Nat} {f : Nat → Int32} (hL : LandAt h a np du f) (n : Nat) (hn : n < 61) : CC l Z m_X2_rent 0 0 0 [.ref a, .int (nI n)] h (RT (some (.int (f (61 + n)))) h) := by
  refine ee_entry hst (by decide +kernel) rfl rfl (by simp [Value.category]) (Nat.le_of_ble_eq_true rfl) ?_
  refine ww_lv (lv2 := [.ref a, .int (nI n)]) rfl ?_
  refine ww_aload_n dX2_rent_0 rfl rfl ?_
  refine ww_get 0 dX2_rent_1 hL.1 rfl (by decide) inX2 wg_74 hL.2.2.1 ?_
  refine ww_bipush (v := nI 61) dX2_rent_4 (by decide) ?_
  refine ww_iload_n dX2_rent_6 rfl rfl ?_
  refine ww_iaddN dX2_rent_7 ?_
  refine ww_ialdF dX2_rent_8 hL.2.1 hL.2.2.2.2.2.1 (by omega) (by omega) ?_
  exact ww_iret dX2_rent_9 rfl ⟨rfl, rfl⟩
set_option maxHeartbeats 4000000 in
set_option maxRecDepth 100000 in
theorem c_Land_used {l : Launch} {Z : EE} (hst : l.stackTraces = false) {h : PH} {a np du : Nat} {f : Nat → Int32} (hL : LandAt h a np du f) (n : Nat) (hn : n < 61) : CC l Z m_X2_used 0 0 0 [.ref a, .int (nI n)] h (RT (some (.int (f (122 + n)))) h) := by
  refine ee_entry hst (by decide +kernel) rfl rfl (by simp [Value.category]) (Nat.le_of_ble_eq_true rfl) ?_
  refine ww_lv (lv2 := [.ref a, .int (nI n)]) rfl ?_
  refine ww_aload_n dX2_used_0 rfl rfl ?_
  refine ww_get 0 dX2_used_1 hL.1 rfl (by decide) inX2 wg_74 hL.2.2.1 ?_
  refine ww_bipush (v := nI 122) dX2_used_4 (by decide) ?_
  refine ww_iload_n dX2_used_6 rfl rfl ?_
  refine ww_iaddN dX2_used_7 ?_
  refine ww_ialdF dX2_used_8 hL.2.1 hL.2.2.2.2.2.1 (by omega) (by omega) ?_
  exact ww_iret dX2_used_9 rfl ⟨rfl, rfl⟩
set_option maxHeartbeats 4000000 in
set_option maxRecDepth 100000 in
theorem c_Land_coins {l : Launch} {Z : EE} (hst : l.stackTraces = false) {h : PH} {a np du : Nat} {f : Nat → Int32} (hL : LandAt h a np du f) (n : Nat) (hn : n < 6) : CC l Z m_X2_coins 0 0 0 [.ref a, .int (nI n)] h (RT (some (.int (f (183 + n)))) h) := by
  refine ee_entry hst (by decide +kernel) rfl rfl (by simp [Value.category]) (Nat.le_of_ble_eq_true rfl) ?_
  refine ww_lv (lv2 := [.ref a, .int (nI n)]) rfl ?_
  refine ww_aload_n dX2_coins_0 rfl rfl ?_
  refine ww_get 0 dX2_coins_1 hL.1 rfl (by decide) inX2 wg_74 hL.2.2.1 ?_
  refine ww_sipush (v := nI 183) dX2_coins_4 (by decide) ?_
  refine ww_iload_n dX2_coins_7 rfl rfl ?_
  refine ww_iaddN dX2_coins_8 ?_
  refine ww_ialdF dX2_coins_9 hL.2.1 hL.2.2.2.2.2.1 (by omega) (by omega) ?_
  exact ww_iret dX2_coins_10 rfl ⟨rfl, rfl⟩
set_option maxHeartbeats 4000000 in
set_option maxRecDepth 100000 in
theorem c_Land_day {l : Launch} {Z : EE} (hst : l.stackTraces = false) {h : PH} {a np du : Nat} {f : Nat → Int32} (hL : LandAt h a np du f) : CC l Z m_X2_day 0 0 0 [.ref a] h (RT (some (.int (f 189))) h) := by
  refine ee_entry hst (by decide +kernel) rfl rfl (by simp [Value.category]) (Nat.le_of_ble_eq_true rfl) ?_
  refine ww_lv (lv2 := [.ref a]) rfl ?_
  refine ww_aload_n dX2_day_0 rfl rfl ?_
  refine ww_get 0 dX2_day_1 hL.1 rfl (by decide) inX2 wg_74 hL.2.2.1 ?_
  refine ww_sipush (v := nI 189) dX2_day_4 (by decide) ?_
  refine ww_ialdF dX2_day_7 hL.2.1 hL.2.2.2.2.2.1 (by omega) (by omega) ?_
  exact ww_iret dX2_day_8 rfl ⟨rfl, rfl⟩
set_option maxHeartbeats 4000000 in
set_option maxRecDepth 100000 in
theorem c_Land_price {l : Launch} {Z : EE} (hst : l.stackTraces = false) {h : PH} {a np du : Nat} {f : Nat → Int32} (hL : LandAt h a np du f) (n : Nat) (hn : n < 61) : CC l Z m_X2_price 1 0 0 [.ref a, .int (nI n)] h (RT (some (.int (nI 10 * f (61 + n) + nI 1))) h) := by
  refine ee_entry hst (by decide +kernel) rfl rfl (by simp [Value.category]) (Nat.le_of_ble_eq_true rfl) ?_
  refine ww_lv (lv2 := [.ref a, .int (nI n)]) rfl ?_
  refine ww_bipush (v := nI 10) dX2_price_0 (by decide) ?_
  refine ww_aload_n dX2_price_2 rfl rfl ?_
  refine ww_iload_n dX2_price_3 rfl rfl ?_
  refine ww_cVr (M := m_X2_price) (pc := 4) (v := .int (f (61 + n))) (h1 := h) (st := [.int (nI 10)]) (bc := 0) (bs := 0) (c_Land_rent hst hL n (by omega)) vv_X2_rent dX2_price_4 wg_696 hL.1 rfl rfl rfl rfl (Nat.le_of_ble_eq_true rfl) (Nat.le_of_ble_eq_true rfl) (Nat.le_of_ble_eq_true rfl) (Nat.le_of_ble_eq_true rfl) ?_
  refine ww_imul dX2_price_7 ?_
  refine ww_iconst (v := nI 1) dX2_price_8 (by decide) ?_
  refine ww_iadd dX2_price_9 ?_
  exact ww_iret dX2_price_10 rfl ⟨rfl, rfl⟩
set_option maxHeartbeats 4000000 in
set_option maxRecDepth 100000 in
theorem l_Land_owned {l : Launch} {Z : EE} (hst : l.stackTraces = false) {h : PH} {a np du : Nat} {f : Nat → Int32} (hL : LandAt h a np du f) {Post : Res → PH → Prop} : ∀ (j k : Nat), k + j = 61 → WW l Z m_X2_owned 1 0 0 28 [.ref a, .int (nI (cnt (fun n => f n != -1) 61)), .int (nI 61)] [] h Post → WW l Z m_X2_owned 1 0 0 4 [.ref a, .int (nI (cnt (fun n => f n != -1) k)), .int (nI k)] [] h Post := by
  intro j
  induction j with
  | zero =>
    intro k hk hx
    have hk0 : k = 61 := by omega
    subst hk0
    refine ww_iload_n dX2_owned_4 rfl rfl ?_
    refine ww_bipush (v := nI 60) dX2_owned_5 (by decide) ?_
    refine ww_icmp_gtN (tgt := 28) dX2_owned_7 (by decide) (by omega) (by omega) (fun c7 => ?_) (fun c7 => ?_)
    · exact hx
    · exact absurd c7 (by decide)
  | succ j ih =>
    intro k hk hx
    refine ww_iload_n dX2_owned_4 rfl rfl ?_
    refine ww_bipush (v := nI 60) dX2_owned_5 (by decide) ?_
    refine ww_icmp_gtN (tgt := 28) dX2_owned_7 (by decide) (by omega) (by omega) (fun c7 => ?_) (fun c7 => ?_)
    · exfalso; omega
    · refine ww_aload_n dX2_owned_10 rfl rfl ?_
      refine ww_iload_n dX2_owned_11 rfl rfl ?_
      refine ww_cVr (M := m_X2_owned) (pc := 12) (v := .int (f k)) (h1 := h) (st := []) (bc := 0) (bs := 0) (c_Land_owner hst hL k (by omega)) vv_X2_owner dX2_owned_12 wg_692 hL.1 rfl rfl rfl rfl (Nat.le_of_ble_eq_true rfl) (Nat.le_of_ble_eq_true rfl) (Nat.le_of_ble_eq_true rfl) (Nat.le_of_ble_eq_true rfl) ?_
      refine ww_iconst (v := -1) dX2_owned_15 (by decide) ?_
      refine ww_icmp_eq (tgt := 22) dX2_owned_16 (by decide) (fun c16 => ?_) (fun c16 => ?_)
      · refine ww_incN (c := 1) (lv2 := [.ref a, .int (nI (cnt (fun n => f n != -1) k)), .int (nI (k + 1))]) dX2_owned_22 rfl rfl rfl (by decide) rfl ?_
        refine ww_goto (tgt := 4) dX2_owned_25 (by decide) ?_
        refine ww_lv (lv2 := [.ref a, .int (nI (cnt (fun n => f n != -1) (k + 1))), .int (nI (k + 1))]) (by simp [cnt, c16]) ?_
        exact ih (k + 1) (by omega) hx
      · refine ww_incN (c := 1) (lv2 := [.ref a, .int (nI (cnt (fun n => f n != -1) k + 1)), .int (nI k)]) dX2_owned_19 rfl rfl rfl (by decide) rfl ?_
        refine ww_incN (c := 1) (lv2 := [.ref a, .int (nI (cnt (fun n => f n != -1) k + 1)), .int (nI (k + 1))]) dX2_owned_22 rfl rfl rfl (by decide) rfl ?_
        refine ww_goto (tgt := 4) dX2_owned_25 (by decide) ?_
        refine ww_lv (lv2 := [.ref a, .int (nI (cnt (fun n => f n != -1) (k + 1))), .int (nI (k + 1))]) (by simp [cnt, c16]) ?_
        exact ih (k + 1) (by omega) hx
set_option maxHeartbeats 4000000 in
set_option maxRecDepth 100000 in
theorem c_Land_owned {l : Launch} {Z : EE} (hst : l.stackTraces = false) {h : PH} {a np du : Nat} {f : Nat → Int32} (hL : LandAt h a np du f) : CC l Z m_X2_owned 1 0 0 [.ref a] h (RT (some (.int (nI (cnt (fun n => f n != -1) 61)))) h) := by
  refine ee_entry hst (by decide +kernel) rfl rfl (by simp [Value.category]) (Nat.le_of_ble_eq_true rfl) ?_
  refine ww_lv (lv2 := [.ref a, UU, UU]) rfl ?_
  refine ww_iconst (v := nI 0) dX2_owned_0 (by decide) ?_
  refine ww_sti_n (lv2 := [.ref a, .int (nI 0), UU]) dX2_owned_1 rfl rfl (by decide) rfl ?_
  refine ww_iconst (v := nI 0) dX2_owned_2 (by decide) ?_
  refine ww_sti_n (lv2 := [.ref a, .int (nI 0), .int (nI 0)]) dX2_owned_3 rfl rfl (by decide) rfl ?_
  refine l_Land_owned hst hL 61 0 rfl ?_
  exact ww_iload_n dX2_owned_28 rfl rfl (ww_iret dX2_owned_29 rfl ⟨rfl, rfl⟩)
set_option maxHeartbeats 4000000 in
set_option maxRecDepth 100000 in
theorem l_Land_uses {l : Launch} {Z : EE} (hst : l.stackTraces = false) {h : PH} {a np du : Nat} {f : Nat → Int32} (hL : LandAt h a np du f) {Post : Res → PH → Prop} : ∀ (j k : Nat), k + j = 61 → WW l Z m_X2_uses 1 0 0 24 [.ref a, .int (smI (fun n => f (122 + n)) 61), .int (nI 61)] [] h Post → WW l Z m_X2_uses 1 0 0 4 [.ref a, .int (smI (fun n => f (122 + n)) k), .int (nI k)] [] h Post := by
  intro j
  induction j with
  | zero =>
    intro k hk hx
    have hk0 : k = 61 := by omega
    subst hk0
    refine ww_iload_n dX2_uses_4 rfl rfl ?_
    refine ww_bipush (v := nI 60) dX2_uses_5 (by decide) ?_
    refine ww_icmp_gtN (tgt := 24) dX2_uses_7 (by decide) (by omega) (by omega) (fun c7 => ?_) (fun c7 => ?_)
    · exact hx
    · exact absurd c7 (by decide)
  | succ j ih =>
    intro k hk hx
    refine ww_iload_n dX2_uses_4 rfl rfl ?_
    refine ww_bipush (v := nI 60) dX2_uses_5 (by decide) ?_
    refine ww_icmp_gtN (tgt := 24) dX2_uses_7 (by decide) (by omega) (by omega) (fun c7 => ?_) (fun c7 => ?_)
    · exfalso; omega
    · refine ww_iload_n dX2_uses_10 rfl rfl ?_
      refine ww_aload_n dX2_uses_11 rfl rfl ?_
      refine ww_iload_n dX2_uses_12 rfl rfl ?_
      refine ww_cVr (M := m_X2_uses) (pc := 13) (v := .int (f (122 + k))) (h1 := h) (st := [.int (smI (fun n => f (122 + n)) k)]) (bc := 0) (bs := 0) (c_Land_used hst hL k (by omega)) vv_X2_used dX2_uses_13 wg_700 hL.1 rfl rfl rfl rfl (Nat.le_of_ble_eq_true rfl) (Nat.le_of_ble_eq_true rfl) (Nat.le_of_ble_eq_true rfl) (Nat.le_of_ble_eq_true rfl) ?_
      refine ww_iadd dX2_uses_16 ?_
      refine ww_sti_n (lv2 := [.ref a, .int ((smI (fun n => f (122 + n)) k) + (f (122 + k))), .int (nI k)]) dX2_uses_17 rfl rfl (by decide) rfl ?_
      refine ww_incN (c := 1) (lv2 := [.ref a, .int ((smI (fun n => f (122 + n)) k) + (f (122 + k))), .int (nI (k + 1))]) dX2_uses_18 rfl rfl rfl (by decide) rfl ?_
      refine ww_goto (tgt := 4) dX2_uses_21 (by decide) ?_
      refine ww_lv (lv2 := [.ref a, .int (smI (fun n => f (122 + n)) (k + 1)), .int (nI (k + 1))]) (by simp [smI]) ?_
      exact ih (k + 1) (by omega) hx
