theorem nar_bI (b : Bool) : narrow .boolean (.int (bI b)) = .int (bI b) := by cases b <;> rfl
/-- how many of the first n are such -/
def cnt (p : Nat → Bool) : Nat → Nat
  | 0 => 0
  | n + 1 => cnt p n + (if p n = true then 1 else 0)
theorem cnt_le (p : Nat → Bool) : ∀ n, cnt p n ≤ n
  | 0 => Nat.le_refl 0
  | n + 1 => by have := cnt_le p n; simp only [cnt]; split <;> omega
/-- the sum of the first n -/
def smI (g : Nat → Int32) : Nat → Int32
  | 0 => 0
  | n + 1 => smI g n + g n
/-- fold of the first n -/
def foI {α : Type} (g : Nat → α → α) (a : α) : Nat → α
  | 0 => a
  | n + 1 => g n (foI g a n)
/-- the first such one from k on, of j -/
def fsI (q : Nat → Bool) : Nat → Nat → Int32
  | _, 0 => -1
  | k, j + 1 => if q k = true then nI k else fsI q (k + 1) j
/-- the last such one below k -/
def laI (q : Nat → Bool) : Nat → Int32
  | 0 => -1
  | k + 1 => if q k = true then nI k else laI q k
def dnI : Nat → Int32
  | 0 => -1
  | k + 1 => nI k
theorem dnI_dec (k : Nat) : nI k + (-1) = dnI k := by
  cases k with
  | zero => rfl
  | succ k => exact pk_m1 k
/-- a LAND: the object at a, its row behind it -/
def LandAt (h : PH) (a np du : Nat) (f : Nat → Int32) : Prop := hp_K h a = (2, 3) ∧ hp_K h (a + 1) = (20, 190) ∧ hp_F h a 0 = .ref (a + 1) ∧ hp_F h a 1 = .int (nI np) ∧ hp_F h a 2 = .int (nI du) ∧ hp_I h (a + 1) = f ∧ np ≤ 6 ∧ du ≤ 20
theorem LandAt.set {h : PH} {a np du : Nat} {f g : Nat → Int32} (hL : LandAt h a np du f) : LandAt (hp_sI h (a + 1) g) a np du g := ⟨hL.1, hL.2.1, hL.2.2.1, hL.2.2.2.1, hL.2.2.2.2.1, hp_I_eq _ _ _, hL.2.2.2.2.2.2⟩
theorem LandAt.same {h h' : PH} {a np du : Nat} {f : Nat → Int32} {X : Nat → Prop} {Y : Nat → Nat → Prop} (hL : LandAt h a np du f) (hS : Same X Y h h') (hX : ¬ X (a + 1)) (hY : ∀ j, ¬ Y a j) : LandAt h' a np du f := ⟨(hS.2.1 _).trans hL.1, (hS.2.1 _).trans hL.2.1, (hS.2.2.1 _ _ (hY 0)).trans hL.2.2.1, (hS.2.2.1 _ _ (hY 1)).trans hL.2.2.2.1, (hS.2.2.1 _ _ (hY 2)).trans hL.2.2.2.2.1, (hS.2.2.2.1 _ hX).trans hL.2.2.2.2.2.1, hL.2.2.2.2.2.2⟩
def mnI (x y : Int32) : Int32 := if y < x then y else x
def mxI (x y : Int32) : Int32 := if x < y then y else x
def abI (x : Int32) : Int32 := if x < 0 then -x else x
def clr (g : Nat → Int32) (k : Nat) : Nat → Int32 := fun i => if 122 ≤ i ∧ i < 122 + k then 0 else g i
theorem clr_0 (g : Nat → Int32) : clr g 0 = g := by funext i; unfold clr; rw [if_neg (by omega)]
theorem clr_s (g : Nat → Int32) (k : Nat) : upd (clr g k) (122 + k) (nI 0) = clr g (k + 1) := by
  funext i
  unfold upd clr
  by_cases h1 : i = 122 + k
  · rw [if_pos h1, if_pos (by omega)]; rfl
  · rw [if_neg h1]
    by_cases h2 : 122 ≤ i ∧ i < 122 + k
    · rw [if_pos h2, if_pos (by omega)]
    · rw [if_neg h2, if_neg (by omega)]
def dayF (f : Nat → Int32) : Nat → Int32 := clr (upd f 189 (f 189 + nI 1)) 61
def payF (f : Nat → Int32) (p : Nat) (o c : Int32) : Nat → Int32 := if o = -1 then upd f (183 + p) (f (183 + p) - c) else upd (upd f (183 + p) (f (183 + p) - c)) (183 + o.toNatClampNeg) (mnI (nI 9999) (upd f (183 + p) (f (183 + p) - c) (183 + o.toNatClampNeg) + c))
def useF (f : Nat → Int32) (p n : Nat) (c : Int32) : Bool × (Nat → Int32) := if f n = nI p then (true, upd f (122 + n) (f (122 + n) + nI 1)) else if c ≤ f (183 + p) then (true, upd (payF f p (f n) c) (122 + n) (payF f p (f n) c (122 + n) + nI 1)) else (false, f)
def sellF (f : Nat → Int32) (n p : Nat) (c : Int32) : Bool × (Nat → Int32) := if f n = nI p then (false, f) else if c ≤ f (183 + p) then (true, upd (payF f p (f n) c) n (nI p)) else (false, f)
def letF (f : Nat → Int32) (n : Nat) (r : Int32) : Bool × (Nat → Int32) := if f n = -1 then (false, f) else if f (61 + n) = r then (false, f) else (true, upd f (61 + n) r)
/-- an owner: nobody, or one of the six -/
def isOw (o : Int32) : Prop := o = -1 ∨ ∃ q : Nat, q < 6 ∧ o = nI q
theorem nI_nm1 (q : Nat) (h : q < 6) : ¬ nI q = -1 := by
  rcases (by omega : q = 0 ∨ q = 1 ∨ q = 2 ∨ q = 3 ∨ q = 4 ∨ q = 5) with rfl | rfl | rfl | rfl | rfl | rfl <;> decide
set_option maxHeartbeats 4000000 in
set_option maxRecDepth 100000 in
theorem c_min {l : Launch} {Z : EE} (hst : l.stackTraces = false) (x y : Int32) (h : PH) : CC l Z m_J9_min_7cf53 0 0 0 [.int x, .int y] h (RT (some (.int (mnI x y))) h) := by
  refine ee_entryF hst (by decide +kernel) rfl rfl (by simp [Value.category]) (Nat.le_of_ble_eq_true rfl) ?_
  refine ww_lv (lv2 := [.int x, .int y]) rfl ?_
  refine ww_iload_n dJ9_min_7cf53_0 rfl rfl ?_
  refine ww_iload_n dJ9_min_7cf53_1 rfl rfl ?_
  refine ww_icmp_gt (tgt := 9) dJ9_min_7cf53_2 (by decide) (fun c2 => ?_) (fun c2 => ?_)
  · refine ww_iload_n dJ9_min_7cf53_9 rfl rfl ?_
    exact ww_iret dJ9_min_7cf53_10 rfl ⟨by unfold mnI; first | rw [if_neg (by simpa using c2)] | rw [if_pos (by simpa using c2)] | (simp_all [Int32.not_lt, Int32.not_le]; done), rfl⟩
  · refine ww_iload_n dJ9_min_7cf53_5 rfl rfl ?_
    refine ww_goto (tgt := 10) dJ9_min_7cf53_6 (by decide) ?_
    exact ww_iret dJ9_min_7cf53_10 rfl ⟨by unfold mnI; first | rw [if_neg (by simpa using c2)] | rw [if_pos (by simpa using c2)] | (simp_all [Int32.not_lt, Int32.not_le]; done), rfl⟩
set_option maxHeartbeats 4000000 in
set_option maxRecDepth 100000 in
theorem c_max {l : Launch} {Z : EE} (hst : l.stackTraces = false) (x y : Int32) (h : PH) : CC l Z m_J9_max_7cf53 0 0 0 [.int x, .int y] h (RT (some (.int (mxI x y))) h) := by
  refine ee_entryF hst (by decide +kernel) rfl rfl (by simp [Value.category]) (Nat.le_of_ble_eq_true rfl) ?_
  refine ww_lv (lv2 := [.int x, .int y]) rfl ?_
  refine ww_iload_n dJ9_max_7cf53_0 rfl rfl ?_
  refine ww_iload_n dJ9_max_7cf53_1 rfl rfl ?_
  refine ww_icmp_lt (tgt := 9) dJ9_max_7cf53_2 (by decide) (fun c2 => ?_) (fun c2 => ?_)
  · refine ww_iload_n dJ9_max_7cf53_9 rfl rfl ?_
    exact ww_iret dJ9_max_7cf53_10 rfl ⟨by unfold mxI; first | rw [if_neg (by simpa using c2)] | rw [if_pos (by simpa using c2)] | (simp_all [Int32.not_lt, Int32.not_le]; done), rfl⟩
  · refine ww_iload_n dJ9_max_7cf53_5 rfl rfl ?_
    refine ww_goto (tgt := 10) dJ9_max_7cf53_6 (by decide) ?_
    exact ww_iret dJ9_max_7cf53_10 rfl ⟨by unfold mxI; first | rw [if_neg (by simpa using c2)] | rw [if_pos (by simpa using c2)] | (simp_all [Int32.not_lt, Int32.not_le]; done), rfl⟩
set_option maxHeartbeats 4000000 in
set_option maxRecDepth 100000 in
theorem c_Land_owner {l : Launch} {Z : EE} (hst : l.stackTraces = false) {h : PH} {a np du : Nat} {f : Nat → Int32} (hL : LandAt h a np du f) (n : Nat) (hn : n < 61) : CC l Z m_X2_owner 0 0 0 [.ref a, .int (nI n)] h (RT (some (.int (f n))) h) := by
  refine ee_entry hst (by decide +kernel) rfl rfl (by simp [Value.category]) (Nat.le_of_ble_eq_true rfl) ?_
  refine ww_lv (lv2 := [.ref a, .int (nI n)]) rfl ?_
  refine ww_aload_n dX2_owner_0 rfl rfl ?_
  refine ww_get 0 dX2_owner_1 hL.1 rfl (by decide) inX2 wg_74 hL.2.2.1 ?_
  refine ww_iconst (v := nI 0) dX2_owner_4 (by decide) ?_
  refine ww_iload_n dX2_owner_5 rfl rfl ?_
  refine ww_iadd0 dX2_owner_6 ?_
  refine ww_ialdF dX2_owner_7 hL.2.1 hL.2.2.2.2.2.1 (by omega) (by omega) ?_
  exact ww_iret dX2_owner_8 rfl ⟨rfl, rfl⟩
set_option maxHeartbeats 4000000 in
set_option maxRecDepth 100000 in
theorem c_Land_rent {l : Launch} {Z : EE} (hst : l.stackTraces = false) {h : PH} {a np du : Nat} {f : Nat → Int32} (hL : LandAt h a np du f) (n : Nat) (hn : n < 61) : CC l Z m_X2_rent 0 0 0 [.ref a, .int (nI n)] h (RT (some (.int (f (61 + n)))) h) := by
  refine ee_entry hst (by decide +kernel) rfl rfl (by simp [Value.category]) (Nat.le_of_ble_eq_true rfl) ?_
  refine ww_lv (lv2 := [.ref a, .int (nI n)]) rfl ?_
  refine ww_aload_n dX2_rent_0 rfl rfl ?_
  refine ww_get 0 dX2_rent_1 hL.1 rfl (by decide) inX2 wg_74 hL.2.2.1 ?_
  refine ww_bipush (v := nI 61) dX2_rent_4 (by decide) ?_
  refine ww_iload_n dX2_rent_6 rfl rfl ?_
  refine ww_iaddN dX2_rent_7 ?_
  refine ww_ialdF dX2_rent_8 hL.2.1 hL.2.2.2.2.2.1 (by omega) (by omega) ?_
  exact ww_iret dX2_rent_9 rfl ⟨rfl, rfl⟩
set_option maxHeartbeats 4000000 in
set_option maxRecDepth 100000 in
theorem c_Land_used {l : Launch} {Z : EE} (hst : l.stackTraces = false) {h : PH} {a np du : Nat} {f : Nat → Int32} (hL : LandAt h a np du f) (n : Nat) (hn : n < 61) : CC l Z m_X2_used 0 0 0 [.ref a, .int (nI n)] h (RT (some (.int (f (122 + n)))) h) := by
  refine ee_entry hst (by decide +kernel) rfl rfl (by simp [Value.category]) (Nat.le_of_ble_eq_true rfl) ?_
  refine ww_lv (lv2 := [.ref a, .int (nI n)]) rfl ?_
  refine ww_aload_n dX2_used_0 rfl rfl ?_
  refine ww_get 0 dX2_used_1 hL.1 rfl (by decide) inX2 wg_74 hL.2.2.1 ?_
  refine ww_bipush (v := nI 122) dX2_used_4 (by decide) ?_
  refine ww_iload_n dX2_used_6 rfl rfl ?_
  refine ww_iaddN dX2_used_7 ?_
  refine ww_ialdF dX2_used_8 hL.2.1 hL.2.2.2.2.2.1 (by omega) (by omega) ?_
  exact ww_iret dX2_used_9 rfl ⟨rfl, rfl⟩
set_option maxHeartbeats 4000000 in
set_option maxRecDepth 100000 in
theorem c_Land_coins {l : Launch} {Z : EE} (hst : l.stackTraces = false) {h : PH} {a np du : Nat} {f : Nat → Int32} (hL : LandAt h a np du f) (n : Nat) (hn : n < 6) : CC l Z m_X2_coins 0 0 0 [.ref a, .int (nI n)] h (RT (some (.int (f (183 + n)))) h) := by
  refine ee_entry hst (by decide +kernel) rfl rfl (by simp [Value.category]) (Nat.le_of_ble_eq_true rfl) ?_
  refine ww_lv (lv2 := [.ref a, .int (nI n)]) rfl ?_
  refine ww_aload_n dX2_coins_0 rfl rfl ?_
  refine ww_get 0 dX2_coins_1 hL.1 rfl (by decide) inX2 wg_74 hL.2.2.1 ?_
  refine ww_sipush (v := nI 183) dX2_coins_4 (by decide) ?_
  refine ww_iload_n dX2_coins_7 rfl rfl ?_
  refine ww_iaddN dX2_coins_8 ?_
  refine ww_ialdF dX2_coins_9 hL.2.1 hL.2.2.2.2.2.1 (by omega) (by omega) ?_
  exact ww_iret dX2_coins_10 rfl ⟨rfl, rfl⟩
set_option maxHeartbeats 4000000 in
set_option maxRecDepth 100000 in
theorem c_Land_day {l : Launch} {Z : EE} (hst : l.stackTraces = false) {h : PH} {a np du : Nat} {f : Nat → Int32} (hL : LandAt h a np du f) : CC l Z m_X2_day 0 0 0 [.ref a] h (RT (some (.int (f 189))) h) := by
  refine ee_entry hst (by decide +kernel) rfl rfl (by simp [Value.category]) (Nat.le_of_ble_eq_true rfl) ?_
  refine ww_lv (lv2 := [.ref a]) rfl ?_
  refine ww_aload_n dX2_day_0 rfl rfl ?_
  refine ww_get 0 dX2_day_1 hL.1 rfl (by decide) inX2 wg_74 hL.2.2.1 ?_
  refine ww_sipush (v := nI 189) dX2_day_4 (by decide) ?_
  refine ww_ialdF dX2_day_7 hL.2.1 hL.2.2.2.2.2.1 (by omega) (by omega) ?_
  exact ww_iret dX2_day_8 rfl ⟨rfl, rfl⟩
set_option maxHeartbeats 4000000 in
set_option maxRecDepth 100000 in
theorem c_Land_price {l : Launch} {Z : EE} (hst : l.stackTraces = false) {h : PH} {a np du : Nat} {f : Nat → Int32} (hL : LandAt h a np du f) (n : Nat) (hn : n < 61) : CC l Z m_X2_price 1 0 0 [.ref a, .int (nI n)] h (RT (some (.int (nI 10 * f (61 + n) + nI 1))) h) := by
  refine ee_entry hst (by decide +kernel) rfl rfl (by simp [Value.category]) (Nat.le_of_ble_eq_true rfl) ?_
  refine ww_lv (lv2 := [.ref a, .int (nI n)]) rfl ?_
  refine ww_bipush (v := nI 10) dX2_price_0 (by decide) ?_
  refine ww_aload_n dX2_price_2 rfl rfl ?_
  refine ww_iload_n dX2_price_3 rfl rfl ?_
  refine ww_cVr (M := m_X2_price) (pc := 4) (v := .int (f (61 + n))) (h1 := h) (st := [.int (nI 10)]) (bc := 0) (bs := 0) (c_Land_rent hst hL n (by omega)) vv_X2_rent dX2_price_4 wg_696 hL.1 rfl rfl rfl rfl (Nat.le_of_ble_eq_true rfl) (Nat.le_of_ble_eq_true rfl) (Nat.le_of_ble_eq_true rfl) (Nat.le_of_ble_eq_true rfl) ?_
  refine ww_imul dX2_price_7 ?_
  refine ww_iconst (v := nI 1) dX2_price_8 (by decide) ?_
  refine ww_iadd dX2_price_9 ?_
  exact ww_iret dX2_price_10 rfl ⟨rfl, rfl⟩
set_option maxHeartbeats 4000000 in
set_option maxRecDepth 100000 in
theorem l_Land_owned {l : Launch} {Z : EE} (hst : l.stackTraces = false) {h : PH} {a np du : Nat} {f : Nat → Int32} (hL : LandAt h a np du f) {Post : Res → PH → Prop} : ∀ (j k : Nat), k + j = 61 → WW l Z m_X2_owned 1 0 0 28 [.ref a, .int (nI (cnt (fun n => f n != -1) 61)), .int (nI 61)] [] h Post → WW l Z m_X2_owned 1 0 0 4 [.ref a, .int (nI (cnt (fun n => f n != -1) k)), .int (nI k)] [] h Post := by
  have hnp := hL.2.2.2.2.2.2.1
  intro j
  induction j with
  | zero =>
    intro k hk hexit
    have hk0 : k = 61 := by omega
    subst hk0
    refine ww_iload_n dX2_owned_4 rfl rfl ?_
    refine ww_bipush (v := nI 60) dX2_owned_5 (by decide) ?_
    refine ww_icmp_gtN (tgt := 28) dX2_owned_7 (by decide) (by omega) (by omega) (fun c7 => ?_) (fun c7 => ?_)
    · exact hexit
    · exact absurd c7 (by decide)
  | succ j ih =>
    intro k hk hexit
    refine ww_iload_n dX2_owned_4 rfl rfl ?_
    refine ww_bipush (v := nI 60) dX2_owned_5 (by decide) ?_
    refine ww_icmp_gtN (tgt := 28) dX2_owned_7 (by decide) (by omega) (by omega) (fun c7 => ?_) (fun c7 => ?_)
    · exfalso; omega
    · refine ww_aload_n dX2_owned_10 rfl rfl ?_
      refine ww_iload_n dX2_owned_11 rfl rfl ?_
      refine ww_cVr (M := m_X2_owned) (pc := 12) (v := .int (f k)) (h1 := h) (st := []) (bc := 0) (bs := 0) (c_Land_owner hst hL k (by omega)) vv_X2_owner dX2_owned_12 wg_692 hL.1 rfl rfl rfl rfl (Nat.le_of_ble_eq_true rfl) (Nat.le_of_ble_eq_true rfl) (Nat.le_of_ble_eq_true rfl) (Nat.le_of_ble_eq_true rfl) ?_
      refine ww_iconst (v := -1) dX2_owned_15 (by decide) ?_
      refine ww_icmp_eq (tgt := 22) dX2_owned_16 (by decide) (fun c16 => ?_) (fun c16 => ?_)
      · refine ww_incN (c := 1) (lv2 := [.ref a, .int (nI (cnt (fun n => f n != -1) k)), .int (nI (k + 1))]) dX2_owned_22 rfl rfl rfl (by decide) rfl ?_
        refine ww_goto (tgt := 4) dX2_owned_25 (by decide) ?_
        refine ww_lv (lv2 := [.ref a, .int (nI (cnt (fun n => f n != -1) (k + 1))), .int (nI (k + 1))]) (by simp [cnt, c16]) ?_
        exact ih (k + 1) (by omega) hexit
      · refine ww_incN (c := 1) (lv2 := [.ref a, .int (nI (cnt (fun n => f n != -1) k + 1)), .int (nI k)]) dX2_owned_19 rfl rfl rfl (by decide) rfl ?_
        refine ww_incN (c := 1) (lv2 := [.ref a, .int (nI (cnt (fun n => f n != -1) k + 1)), .int (nI (k + 1))]) dX2_owned_22 rfl rfl rfl (by decide) rfl ?_
        refine ww_goto (tgt := 4) dX2_owned_25 (by decide) ?_
        refine ww_lv (lv2 := [.ref a, .int (nI (cnt (fun n => f n != -1) (k + 1))), .int (nI (k + 1))]) (by simp [cnt, c16]) ?_
        exact ih (k + 1) (by omega) hexit
set_option maxHeartbeats 4000000 in
set_option maxRecDepth 100000 in
theorem c_Land_owned {l : Launch} {Z : EE} (hst : l.stackTraces = false) {h : PH} {a np du : Nat} {f : Nat → Int32} (hL : LandAt h a np du f) : CC l Z m_X2_owned 1 0 0 [.ref a] h (RT (some (.int (nI (cnt (fun n => f n != -1) 61)))) h) := by
  refine ee_entry hst (by decide +kernel) rfl rfl (by simp [Value.category]) (Nat.le_of_ble_eq_true rfl) ?_
  refine ww_lv (lv2 := [.ref a, UU, UU]) rfl ?_
  refine ww_iconst (v := nI 0) dX2_owned_0 (by decide) ?_
  refine ww_sti_n (lv2 := [.ref a, .int (nI 0), UU]) dX2_owned_1 rfl rfl (by decide) rfl ?_
  refine ww_iconst (v := nI 0) dX2_owned_2 (by decide) ?_
  refine ww_sti_n (lv2 := [.ref a, .int (nI 0), .int (nI 0)]) dX2_owned_3 rfl rfl (by decide) rfl ?_
  refine l_Land_owned hst hL  61 0 (by omega) ?_
  refine ww_iload_n dX2_owned_28 rfl rfl ?_
  exact ww_iret dX2_owned_29 rfl ⟨rfl, rfl⟩
set_option maxHeartbeats 4000000 in
set_option maxRecDepth 100000 in
theorem l_Land_uses {l : Launch} {Z : EE} (hst : l.stackTraces = false) {h : PH} {a np du : Nat} {f : Nat → Int32} (hL : LandAt h a np du f) {Post : Res → PH → Prop} : ∀ (j k : Nat), k + j = 61 → WW l Z m_X2_uses 1 0 0 24 [.ref a, .int (smI (fun n => f (122 + n)) 61), .int (nI 61)] [] h Post → WW l Z m_X2_uses 1 0 0 4 [.ref a, .int (smI (fun n => f (122 + n)) k), .int (nI k)] [] h Post := by
  have hnp := hL.2.2.2.2.2.2.1
  intro j
  induction j with
  | zero =>
    intro k hk hexit
    have hk0 : k = 61 := by omega
    subst hk0
    refine ww_iload_n dX2_uses_4 rfl rfl ?_
    refine ww_bipush (v := nI 60) dX2_uses_5 (by decide) ?_
    refine ww_icmp_gtN (tgt := 24) dX2_uses_7 (by decide) (by omega) (by omega) (fun c7 => ?_) (fun c7 => ?_)
    · exact hexit
    · exact absurd c7 (by decide)
  | succ j ih =>
    intro k hk hexit
    refine ww_iload_n dX2_uses_4 rfl rfl ?_
    refine ww_bipush (v := nI 60) dX2_uses_5 (by decide) ?_
    refine ww_icmp_gtN (tgt := 24) dX2_uses_7 (by decide) (by omega) (by omega) (fun c7 => ?_) (fun c7 => ?_)
    · exfalso; omega
    · refine ww_iload_n dX2_uses_10 rfl rfl ?_
      refine ww_aload_n dX2_uses_11 rfl rfl ?_
      refine ww_iload_n dX2_uses_12 rfl rfl ?_
      refine ww_cVr (M := m_X2_uses) (pc := 13) (v := .int (f (122 + k))) (h1 := h) (st := [.int (smI (fun n => f (122 + n)) k)]) (bc := 0) (bs := 0) (c_Land_used hst hL k (by omega)) vv_X2_used dX2_uses_13 wg_700 hL.1 rfl rfl rfl rfl (Nat.le_of_ble_eq_true rfl) (Nat.le_of_ble_eq_true rfl) (Nat.le_of_ble_eq_true rfl) (Nat.le_of_ble_eq_true rfl) ?_
      refine ww_iadd dX2_uses_16 ?_
      refine ww_sti_n (lv2 := [.ref a, .int ((smI (fun n => f (122 + n)) k) + (f (122 + k))), .int (nI k)]) dX2_uses_17 rfl rfl (by decide) rfl ?_
      refine ww_incN (c := 1) (lv2 := [.ref a, .int ((smI (fun n => f (122 + n)) k) + (f (122 + k))), .int (nI (k + 1))]) dX2_uses_18 rfl rfl rfl (by decide) rfl ?_
      refine ww_goto (tgt := 4) dX2_uses_21 (by decide) ?_
      refine ww_lv (lv2 := [.ref a, .int (smI (fun n => f (122 + n)) (k + 1)), .int (nI (k + 1))]) (by simp [smI]) ?_
      exact ih (k + 1) (by omega) hexit
set_option maxHeartbeats 4000000 in
set_option maxRecDepth 100000 in
theorem c_Land_uses {l : Launch} {Z : EE} (hst : l.stackTraces = false) {h : PH} {a np du : Nat} {f : Nat → Int32} (hL : LandAt h a np du f) : CC l Z m_X2_uses 1 0 0 [.ref a] h (RT (some (.int (smI (fun n => f (122 + n)) 61))) h) := by
  refine ee_entry hst (by decide +kernel) rfl rfl (by simp [Value.category]) (Nat.le_of_ble_eq_true rfl) ?_
  refine ww_lv (lv2 := [.ref a, UU, UU]) rfl ?_
  refine ww_iconst (v := nI 0) dX2_uses_0 (by decide) ?_
  refine ww_sti_n (lv2 := [.ref a, .int (nI 0), UU]) dX2_uses_1 rfl rfl (by decide) rfl ?_
  refine ww_iconst (v := nI 0) dX2_uses_2 (by decide) ?_
  refine ww_sti_n (lv2 := [.ref a, .int (nI 0), .int (nI 0)]) dX2_uses_3 rfl rfl (by decide) rfl ?_
  refine l_Land_uses hst hL  61 0 (by omega) ?_
  refine ww_iload_n dX2_uses_24 rfl rfl ?_
  exact ww_iret dX2_uses_25 rfl ⟨rfl, rfl⟩
set_option maxHeartbeats 4000000 in
set_option maxRecDepth 100000 in
theorem l_Land_givenBy {l : Launch} {Z : EE} (hst : l.stackTraces = false) {h : PH} {a np du : Nat} {f : Nat → Int32} (hL : LandAt h a np du f) (b : Int32) {Post : Res → PH → Prop} : ∀ (j k : Nat), k + j = np → WW l Z m_X2_givenBy 1 0 0 30 [.ref a, .int b, .int (smI (fun q => mnI b (f (183 + q))) np), .int (nI np)] [] h Post → WW l Z m_X2_givenBy 1 0 0 4 [.ref a, .int b, .int (smI (fun q => mnI b (f (183 + q))) k), .int (nI k)] [] h Post := by
  have hnp := hL.2.2.2.2.2.2.1
  intro j
  induction j with
  | zero =>
    intro k hk hexit
    have hk0 : k = np := by omega
    subst hk0
    refine ww_iload_n dX2_givenBy_4 rfl rfl ?_
    refine ww_aload_n dX2_givenBy_5 rfl rfl ?_
    refine ww_get 1 dX2_givenBy_6 hL.1 rfl (by decide) inX2 wg_75 hL.2.2.2.1 ?_
    refine ww_icmp_geN (tgt := 30) dX2_givenBy_9 (by decide) (by omega) (by omega) (fun c9 => ?_) (fun c9 => ?_)
    · exact hexit
    · exfalso; omega
  | succ j ih =>
    intro k hk hexit
    refine ww_iload_n dX2_givenBy_4 rfl rfl ?_
    refine ww_aload_n dX2_givenBy_5 rfl rfl ?_
    refine ww_get 1 dX2_givenBy_6 hL.1 rfl (by decide) inX2 wg_75 hL.2.2.2.1 ?_
    refine ww_icmp_geN (tgt := 30) dX2_givenBy_9 (by decide) (by omega) (by omega) (fun c9 => ?_) (fun c9 => ?_)
    · exfalso; omega
    · refine ww_iload_n dX2_givenBy_12 rfl rfl ?_
      refine ww_iload_n dX2_givenBy_13 rfl rfl ?_
      refine ww_aload_n dX2_givenBy_14 rfl rfl ?_
      refine ww_iload_n dX2_givenBy_15 rfl rfl ?_
      refine ww_cVr (M := m_X2_givenBy) (pc := 16) (v := .int (f (183 + k))) (h1 := h) (st := [.int b, .int (smI (fun q => mnI b (f (183 + q))) k)]) (bc := 0) (bs := 0) (c_Land_coins hst hL k (by omega)) vv_X2_coins dX2_givenBy_16 wg_725 hL.1 rfl rfl rfl rfl (Nat.le_of_ble_eq_true rfl) (Nat.le_of_ble_eq_true rfl) (Nat.le_of_ble_eq_true rfl) (Nat.le_of_ble_eq_true rfl) ?_
      refine ww_cSr (M := m_X2_givenBy) (pc := 19) (v := .int (mnI b (f (183 + k)))) (h1 := h) (st := [.int (smI (fun q => mnI b (f (183 + q))) k)]) (bc := 0) (bs := 0) (c_min hst b (f (183 + k)) h) vv_J9_min_7cf53 dX2_givenBy_19 wg_733 rfl rfl rfl (Nat.le_of_ble_eq_true rfl) (Nat.le_of_ble_eq_true rfl) (Nat.le_of_ble_eq_true rfl) (Nat.le_of_ble_eq_true rfl) ?_
      refine ww_iadd dX2_givenBy_22 ?_
      refine ww_sti_n (lv2 := [.ref a, .int b, .int ((smI (fun q => mnI b (f (183 + q))) k) + (mnI b (f (183 + k)))), .int (nI k)]) dX2_givenBy_23 rfl rfl (by decide) rfl ?_
      refine ww_incN (c := 1) (lv2 := [.ref a, .int b, .int ((smI (fun q => mnI b (f (183 + q))) k) + (mnI b (f (183 + k)))), .int (nI (k + 1))]) dX2_givenBy_24 rfl rfl rfl (by decide) rfl ?_
      refine ww_goto (tgt := 4) dX2_givenBy_27 (by decide) ?_
      refine ww_lv (lv2 := [.ref a, .int b, .int (smI (fun q => mnI b (f (183 + q))) (k + 1)), .int (nI (k + 1))]) (by simp [smI]) ?_
      exact ih (k + 1) (by omega) hexit
set_option maxHeartbeats 4000000 in
set_option maxRecDepth 100000 in
theorem c_Land_givenBy {l : Launch} {Z : EE} (hst : l.stackTraces = false) {h : PH} {a np du : Nat} {f : Nat → Int32} (hL : LandAt h a np du f) (b : Int32) : CC l Z m_X2_givenBy 1 0 0 [.ref a, .int b] h (RT (some (.int (smI (fun q => mnI b (f (183 + q))) np))) h) := by
  refine ee_entry hst (by decide +kernel) rfl rfl (by simp [Value.category]) (Nat.le_of_ble_eq_true rfl) ?_
  refine ww_lv (lv2 := [.ref a, .int b, UU, UU]) rfl ?_
  refine ww_iconst (v := nI 0) dX2_givenBy_0 (by decide) ?_
  refine ww_sti_n (lv2 := [.ref a, .int b, .int (nI 0), UU]) dX2_givenBy_1 rfl rfl (by decide) rfl ?_
  refine ww_iconst (v := nI 0) dX2_givenBy_2 (by decide) ?_
  refine ww_sti_n (lv2 := [.ref a, .int b, .int (nI 0), .int (nI 0)]) dX2_givenBy_3 rfl rfl (by decide) rfl ?_
  refine l_Land_givenBy hst hL b np 0 (by omega) ?_
  refine ww_iload_n dX2_givenBy_30 rfl rfl ?_
  exact ww_iret dX2_givenBy_31 rfl ⟨rfl, rfl⟩
set_option maxHeartbeats 4000000 in
set_option maxRecDepth 100000 in
theorem c_Land_allCoins {l : Launch} {Z : EE} (hst : l.stackTraces = false) {h : PH} {a np du : Nat} {f : Nat → Int32} (hL : LandAt h a np du f) : CC l Z m_X2_allCoins 2 0 0 [.ref a] h (RT (some (.int (smI (fun q => mnI (nI 9999) (f (183 + q))) np))) h) := by
  refine ee_entry hst (by decide +kernel) rfl rfl (by simp [Value.category]) (Nat.le_of_ble_eq_true rfl) ?_
  refine ww_lv (lv2 := [.ref a]) rfl ?_
  refine ww_aload_n dX2_allCoins_0 rfl rfl ?_
  refine ww_sipush (v := nI 9999) dX2_allCoins_1 (by decide) ?_
  refine ww_cVr (M := m_X2_allCoins) (pc := 4) (v := .int (smI (fun q => mnI (nI 9999) (f (183 + q))) np)) (h1 := h) (st := []) (bc := 0) (bs := 0) (c_Land_givenBy hst hL (nI 9999)) vv_X2_givenBy dX2_allCoins_4 wg_791 hL.1 rfl rfl rfl rfl (Nat.le_of_ble_eq_true rfl) (Nat.le_of_ble_eq_true rfl) (Nat.le_of_ble_eq_true rfl) (Nat.le_of_ble_eq_true rfl) ?_
  exact ww_iret dX2_allCoins_7 rfl ⟨rfl, rfl⟩
set_option maxHeartbeats 4000000 in
set_option maxRecDepth 100000 in
theorem l_Land_richest {l : Launch} {Z : EE} (hst : l.stackTraces = false) {h : PH} {a np du : Nat} {f : Nat → Int32} (hL : LandAt h a np du f) {Post : Res → PH → Prop} : ∀ (j k : Nat), k + j = np → WW l Z m_X2_richest 1 0 0 28 [.ref a, .int (foI (fun q m => mxI m (f (183 + q))) 0 np), .int (nI np)] [] h Post → WW l Z m_X2_richest 1 0 0 4 [.ref a, .int (foI (fun q m => mxI m (f (183 + q))) 0 k), .int (nI k)] [] h Post := by
  have hnp := hL.2.2.2.2.2.2.1
  intro j
  induction j with
  | zero =>
    intro k hk hexit
    have hk0 : k = np := by omega
    subst hk0
    refine ww_iload_n dX2_richest_4 rfl rfl ?_
    refine ww_aload_n dX2_richest_5 rfl rfl ?_
    refine ww_get 1 dX2_richest_6 hL.1 rfl (by decide) inX2 wg_75 hL.2.2.2.1 ?_
    refine ww_icmp_geN (tgt := 28) dX2_richest_9 (by decide) (by omega) (by omega) (fun c9 => ?_) (fun c9 => ?_)
    · exact hexit
    · exfalso; omega
  | succ j ih =>
    intro k hk hexit
    refine ww_iload_n dX2_richest_4 rfl rfl ?_
    refine ww_aload_n dX2_richest_5 rfl rfl ?_
    refine ww_get 1 dX2_richest_6 hL.1 rfl (by decide) inX2 wg_75 hL.2.2.2.1 ?_
    refine ww_icmp_geN (tgt := 28) dX2_richest_9 (by decide) (by omega) (by omega) (fun c9 => ?_) (fun c9 => ?_)
    · exfalso; omega
    · refine ww_iload_n dX2_richest_12 rfl rfl ?_
      refine ww_aload_n dX2_richest_13 rfl rfl ?_
      refine ww_iload_n dX2_richest_14 rfl rfl ?_
      refine ww_cVr (M := m_X2_richest) (pc := 15) (v := .int (f (183 + k))) (h1 := h) (st := [.int (foI (fun q m => mxI m (f (183 + q))) 0 k)]) (bc := 0) (bs := 0) (c_Land_coins hst hL k (by omega)) vv_X2_coins dX2_richest_15 wg_725 hL.1 rfl rfl rfl rfl (Nat.le_of_ble_eq_true rfl) (Nat.le_of_ble_eq_true rfl) (Nat.le_of_ble_eq_true rfl) (Nat.le_of_ble_eq_true rfl) ?_
      refine ww_cSr (M := m_X2_richest) (pc := 18) (v := .int (mxI (foI (fun q m => mxI m (f (183 + q))) 0 k) (f (183 + k)))) (h1 := h) (st := []) (bc := 0) (bs := 0) (c_max hst (foI (fun q m => mxI m (f (183 + q))) 0 k) (f (183 + k)) h) vv_J9_max_7cf53 dX2_richest_18 wg_1209 rfl rfl rfl (Nat.le_of_ble_eq_true rfl) (Nat.le_of_ble_eq_true rfl) (Nat.le_of_ble_eq_true rfl) (Nat.le_of_ble_eq_true rfl) ?_
      refine ww_sti_n (lv2 := [.ref a, .int (mxI (foI (fun q m => mxI m (f (183 + q))) 0 k) (f (183 + k))), .int (nI k)]) dX2_richest_21 rfl rfl (by decide) rfl ?_
      refine ww_incN (c := 1) (lv2 := [.ref a, .int (mxI (foI (fun q m => mxI m (f (183 + q))) 0 k) (f (183 + k))), .int (nI (k + 1))]) dX2_richest_22 rfl rfl rfl (by decide) rfl ?_
      refine ww_goto (tgt := 4) dX2_richest_25 (by decide) ?_
      refine ww_lv (lv2 := [.ref a, .int (foI (fun q m => mxI m (f (183 + q))) 0 (k + 1)), .int (nI (k + 1))]) (by simp [foI]) ?_
      exact ih (k + 1) (by omega) hexit
set_option maxHeartbeats 4000000 in
set_option maxRecDepth 100000 in
theorem c_Land_richest {l : Launch} {Z : EE} (hst : l.stackTraces = false) {h : PH} {a np du : Nat} {f : Nat → Int32} (hL : LandAt h a np du f) : CC l Z m_X2_richest 1 0 0 [.ref a] h (RT (some (.int (foI (fun q m => mxI m (f (183 + q))) 0 np))) h) := by
  refine ee_entry hst (by decide +kernel) rfl rfl (by simp [Value.category]) (Nat.le_of_ble_eq_true rfl) ?_
  refine ww_lv (lv2 := [.ref a, UU, UU]) rfl ?_
  refine ww_iconst (v := nI 0) dX2_richest_0 (by decide) ?_
  refine ww_sti_n (lv2 := [.ref a, .int (nI 0), UU]) dX2_richest_1 rfl rfl (by decide) rfl ?_
  refine ww_iconst (v := nI 0) dX2_richest_2 (by decide) ?_
  refine ww_sti_n (lv2 := [.ref a, .int (nI 0), .int (nI 0)]) dX2_richest_3 rfl rfl (by decide) rfl ?_
  refine l_Land_richest hst hL  np 0 (by omega) ?_
  refine ww_iload_n dX2_richest_28 rfl rfl ?_
  exact ww_iret dX2_richest_29 rfl ⟨rfl, rfl⟩
set_option maxHeartbeats 4000000 in
set_option maxRecDepth 100000 in
theorem l_Land_numbersOf {l : Launch} {Z : EE} (hst : l.stackTraces = false) {h : PH} {a np du : Nat} {f : Nat → Int32} (hL : LandAt h a np du f) (x : Int32) {Post : Res → PH → Prop} : ∀ (j k : Nat), k + j = 61 → WW l Z m_X2_numbersOf 1 0 0 28 [.ref a, .int x, .int (nI (cnt (fun n => f n == x) 61)), .int (nI 61)] [] h Post → WW l Z m_X2_numbersOf 1 0 0 4 [.ref a, .int x, .int (nI (cnt (fun n => f n == x) k)), .int (nI k)] [] h Post := by
  have hnp := hL.2.2.2.2.2.2.1
  intro j
  induction j with
  | zero =>
    intro k hk hexit
    have hk0 : k = 61 := by omega
    subst hk0
    refine ww_iload_n dX2_numbersOf_4 rfl rfl ?_
    refine ww_bipush (v := nI 60) dX2_numbersOf_5 (by decide) ?_
    refine ww_icmp_gtN (tgt := 28) dX2_numbersOf_7 (by decide) (by omega) (by omega) (fun c7 => ?_) (fun c7 => ?_)
    · exact hexit
    · exact absurd c7 (by decide)
  | succ j ih =>
    intro k hk hexit
    refine ww_iload_n dX2_numbersOf_4 rfl rfl ?_
    refine ww_bipush (v := nI 60) dX2_numbersOf_5 (by decide) ?_
    refine ww_icmp_gtN (tgt := 28) dX2_numbersOf_7 (by decide) (by omega) (by omega) (fun c7 => ?_) (fun c7 => ?_)
    · exfalso; omega
    · refine ww_aload_n dX2_numbersOf_10 rfl rfl ?_
      refine ww_iload_n dX2_numbersOf_11 rfl rfl ?_
      refine ww_cVr (M := m_X2_numbersOf) (pc := 12) (v := .int (f k)) (h1 := h) (st := []) (bc := 0) (bs := 0) (c_Land_owner hst hL k (by omega)) vv_X2_owner dX2_numbersOf_12 wg_692 hL.1 rfl rfl rfl rfl (Nat.le_of_ble_eq_true rfl) (Nat.le_of_ble_eq_true rfl) (Nat.le_of_ble_eq_true rfl) (Nat.le_of_ble_eq_true rfl) ?_
      refine ww_iload_n dX2_numbersOf_15 rfl rfl ?_
      refine ww_icmp_ne (tgt := 22) dX2_numbersOf_16 (by decide) (fun c16 => ?_) (fun c16 => ?_)
      · refine ww_incN (c := 1) (lv2 := [.ref a, .int x, .int (nI (cnt (fun n => f n == x) k)), .int (nI (k + 1))]) dX2_numbersOf_22 rfl rfl rfl (by decide) rfl ?_
        refine ww_goto (tgt := 4) dX2_numbersOf_25 (by decide) ?_
        refine ww_lv (lv2 := [.ref a, .int x, .int (nI (cnt (fun n => f n == x) (k + 1))), .int (nI (k + 1))]) (by simp [cnt, c16]) ?_
        exact ih (k + 1) (by omega) hexit
      · refine ww_incN (c := 1) (lv2 := [.ref a, .int x, .int (nI (cnt (fun n => f n == x) k + 1)), .int (nI k)]) dX2_numbersOf_19 rfl rfl rfl (by decide) rfl ?_
        refine ww_incN (c := 1) (lv2 := [.ref a, .int x, .int (nI (cnt (fun n => f n == x) k + 1)), .int (nI (k + 1))]) dX2_numbersOf_22 rfl rfl rfl (by decide) rfl ?_
        refine ww_goto (tgt := 4) dX2_numbersOf_25 (by decide) ?_
        refine ww_lv (lv2 := [.ref a, .int x, .int (nI (cnt (fun n => f n == x) (k + 1))), .int (nI (k + 1))]) (by simp [cnt, c16]) ?_
        exact ih (k + 1) (by omega) hexit
set_option maxHeartbeats 4000000 in
set_option maxRecDepth 100000 in
theorem c_Land_numbersOf {l : Launch} {Z : EE} (hst : l.stackTraces = false) {h : PH} {a np du : Nat} {f : Nat → Int32} (hL : LandAt h a np du f) (x : Int32) : CC l Z m_X2_numbersOf 1 0 0 [.ref a, .int x] h (RT (some (.int (nI (cnt (fun n => f n == x) 61)))) h) := by
  refine ee_entry hst (by decide +kernel) rfl rfl (by simp [Value.category]) (Nat.le_of_ble_eq_true rfl) ?_
  refine ww_lv (lv2 := [.ref a, .int x, UU, UU]) rfl ?_
  refine ww_iconst (v := nI 0) dX2_numbersOf_0 (by decide) ?_
  refine ww_sti_n (lv2 := [.ref a, .int x, .int (nI 0), UU]) dX2_numbersOf_1 rfl rfl (by decide) rfl ?_
  refine ww_iconst (v := nI 0) dX2_numbersOf_2 (by decide) ?_
  refine ww_sti_n (lv2 := [.ref a, .int x, .int (nI 0), .int (nI 0)]) dX2_numbersOf_3 rfl rfl (by decide) rfl ?_
  refine l_Land_numbersOf hst hL x 61 0 (by omega) ?_
  refine ww_iload_n dX2_numbersOf_28 rfl rfl ?_
  exact ww_iret dX2_numbersOf_29 rfl ⟨rfl, rfl⟩
set_option maxHeartbeats 4000000 in
set_option maxRecDepth 100000 in
theorem l_Land_rentsOf {l : Launch} {Z : EE} (hst : l.stackTraces = false) {h : PH} {a np du : Nat} {f : Nat → Int32} (hL : LandAt h a np du f) (x : Int32) {Post : Res → PH → Prop} : ∀ (j k : Nat), k + j = 61 → WW l Z m_X2_rentsOf 1 0 0 33 [.ref a, .int x, .int (smI (fun n => if f n = x then f (61 + n) else 0) 61), .int (nI 61)] [] h Post → WW l Z m_X2_rentsOf 1 0 0 4 [.ref a, .int x, .int (smI (fun n => if f n = x then f (61 + n) else 0) k), .int (nI k)] [] h Post := by
  have hnp := hL.2.2.2.2.2.2.1
  intro j
  induction j with
  | zero =>
    intro k hk hexit
    have hk0 : k = 61 := by omega
    subst hk0
    refine ww_iload_n dX2_rentsOf_4 rfl rfl ?_
    refine ww_bipush (v := nI 60) dX2_rentsOf_5 (by decide) ?_
    refine ww_icmp_gtN (tgt := 33) dX2_rentsOf_7 (by decide) (by omega) (by omega) (fun c7 => ?_) (fun c7 => ?_)
    · exact hexit
    · exact absurd c7 (by decide)
  | succ j ih =>
    intro k hk hexit
    refine ww_iload_n dX2_rentsOf_4 rfl rfl ?_
    refine ww_bipush (v := nI 60) dX2_rentsOf_5 (by decide) ?_
    refine ww_icmp_gtN (tgt := 33) dX2_rentsOf_7 (by decide) (by omega) (by omega) (fun c7 => ?_) (fun c7 => ?_)
    · exfalso; omega
    · refine ww_aload_n dX2_rentsOf_10 rfl rfl ?_
      refine ww_iload_n dX2_rentsOf_11 rfl rfl ?_
      refine ww_cVr (M := m_X2_rentsOf) (pc := 12) (v := .int (f k)) (h1 := h) (st := []) (bc := 0) (bs := 0) (c_Land_owner hst hL k (by omega)) vv_X2_owner dX2_rentsOf_12 wg_692 hL.1 rfl rfl rfl rfl (Nat.le_of_ble_eq_true rfl) (Nat.le_of_ble_eq_true rfl) (Nat.le_of_ble_eq_true rfl) (Nat.le_of_ble_eq_true rfl) ?_
      refine ww_iload_n dX2_rentsOf_15 rfl rfl ?_
      refine ww_icmp_ne (tgt := 27) dX2_rentsOf_16 (by decide) (fun c16 => ?_) (fun c16 => ?_)
      · refine ww_incN (c := 1) (lv2 := [.ref a, .int x, .int (smI (fun n => if f n = x then f (61 + n) else 0) k), .int (nI (k + 1))]) dX2_rentsOf_27 rfl rfl rfl (by decide) rfl ?_
        refine ww_goto (tgt := 4) dX2_rentsOf_30 (by decide) ?_
        refine ww_lv (lv2 := [.ref a, .int x, .int (smI (fun n => if f n = x then f (61 + n) else 0) (k + 1)), .int (nI (k + 1))]) (by simp [smI, c16]) ?_
        exact ih (k + 1) (by omega) hexit
      · refine ww_iload_n dX2_rentsOf_19 rfl rfl ?_
        refine ww_aload_n dX2_rentsOf_20 rfl rfl ?_
        refine ww_iload_n dX2_rentsOf_21 rfl rfl ?_
        refine ww_cVr (M := m_X2_rentsOf) (pc := 22) (v := .int (f (61 + k))) (h1 := h) (st := [.int (smI (fun n => if f n = x then f (61 + n) else 0) k)]) (bc := 0) (bs := 0) (c_Land_rent hst hL k (by omega)) vv_X2_rent dX2_rentsOf_22 wg_696 hL.1 rfl rfl rfl rfl (Nat.le_of_ble_eq_true rfl) (Nat.le_of_ble_eq_true rfl) (Nat.le_of_ble_eq_true rfl) (Nat.le_of_ble_eq_true rfl) ?_
        refine ww_iadd dX2_rentsOf_25 ?_
        refine ww_sti_n (lv2 := [.ref a, .int x, .int ((smI (fun n => if f n = x then f (61 + n) else 0) k) + (f (61 + k))), .int (nI k)]) dX2_rentsOf_26 rfl rfl (by decide) rfl ?_
        refine ww_incN (c := 1) (lv2 := [.ref a, .int x, .int ((smI (fun n => if f n = x then f (61 + n) else 0) k) + (f (61 + k))), .int (nI (k + 1))]) dX2_rentsOf_27 rfl rfl rfl (by decide) rfl ?_
        refine ww_goto (tgt := 4) dX2_rentsOf_30 (by decide) ?_
        refine ww_lv (lv2 := [.ref a, .int x, .int (smI (fun n => if f n = x then f (61 + n) else 0) (k + 1)), .int (nI (k + 1))]) (by simp [smI, c16]) ?_
        exact ih (k + 1) (by omega) hexit
set_option maxHeartbeats 4000000 in
set_option maxRecDepth 100000 in
theorem c_Land_rentsOf {l : Launch} {Z : EE} (hst : l.stackTraces = false) {h : PH} {a np du : Nat} {f : Nat → Int32} (hL : LandAt h a np du f) (x : Int32) : CC l Z m_X2_rentsOf 1 0 0 [.ref a, .int x] h (RT (some (.int (smI (fun n => if f n = x then f (61 + n) else 0) 61))) h) := by
  refine ee_entry hst (by decide +kernel) rfl rfl (by simp [Value.category]) (Nat.le_of_ble_eq_true rfl) ?_
  refine ww_lv (lv2 := [.ref a, .int x, UU, UU]) rfl ?_
  refine ww_iconst (v := nI 0) dX2_rentsOf_0 (by decide) ?_
  refine ww_sti_n (lv2 := [.ref a, .int x, .int (nI 0), UU]) dX2_rentsOf_1 rfl rfl (by decide) rfl ?_
  refine ww_iconst (v := nI 0) dX2_rentsOf_2 (by decide) ?_
  refine ww_sti_n (lv2 := [.ref a, .int x, .int (nI 0), .int (nI 0)]) dX2_rentsOf_3 rfl rfl (by decide) rfl ?_
  refine l_Land_rentsOf hst hL x 61 0 (by omega) ?_
  refine ww_iload_n dX2_rentsOf_33 rfl rfl ?_
  exact ww_iret dX2_rentsOf_34 rfl ⟨rfl, rfl⟩
set_option maxHeartbeats 4000000 in
set_option maxRecDepth 100000 in
theorem l_Land_leastOf {l : Launch} {Z : EE} (hst : l.stackTraces = false) {h : PH} {a np du : Nat} {f : Nat → Int32} (hL : LandAt h a np du f) (x : Int32) : ∀ (j k : Nat), k + j = 61 → WW l Z m_X2_leastOf 1 0 0 2 [.ref a, .int x, .int (nI k)] [] h (RT (some (.int (fsI (fun n => f n == x) k j))) h) := by
  intro j
  induction j with
  | zero =>
    intro k hk
    have hk0 : k = 61 := by omega
    subst hk0
    refine ww_iload_n dX2_leastOf_2 rfl rfl ?_
    refine ww_bipush (v := nI 60) dX2_leastOf_3 (by decide) ?_
    refine ww_icmp_gtN (tgt := 25) dX2_leastOf_5 (by decide) (by omega) (by omega) (fun c5 => ?_) (fun c5 => ?_)
    · refine ww_iconst (v := -1) dX2_leastOf_25 (by decide) ?_
      exact ww_iret dX2_leastOf_26 rfl ⟨rfl, rfl⟩
    · exact absurd c5 (by decide)
  | succ j ih =>
    intro k hk
    refine ww_iload_n dX2_leastOf_2 rfl rfl ?_
    refine ww_bipush (v := nI 60) dX2_leastOf_3 (by decide) ?_
    refine ww_icmp_gtN (tgt := 25) dX2_leastOf_5 (by decide) (by omega) (by omega) (fun c5 => ?_) (fun c5 => ?_)
    · exfalso; omega
    · refine ww_aload_n dX2_leastOf_8 rfl rfl ?_
      refine ww_iload_n dX2_leastOf_9 rfl rfl ?_
      refine ww_cVr (M := m_X2_leastOf) (pc := 10) (v := .int (f k)) (h1 := h) (st := []) (bc := 0) (bs := 0) (c_Land_owner hst hL k (by omega)) vv_X2_owner dX2_leastOf_10 wg_692 hL.1 rfl rfl rfl rfl (Nat.le_of_ble_eq_true rfl) (Nat.le_of_ble_eq_true rfl) (Nat.le_of_ble_eq_true rfl) (Nat.le_of_ble_eq_true rfl) ?_
      refine ww_iload_n dX2_leastOf_13 rfl rfl ?_
      refine ww_icmp_ne (tgt := 19) dX2_leastOf_14 (by decide) (fun c14 => ?_) (fun c14 => ?_)
      · refine ww_incN (c := 1) (lv2 := [.ref a, .int x, .int (nI (k + 1))]) dX2_leastOf_19 rfl rfl rfl (by decide) rfl ?_
        refine ww_goto (tgt := 2) dX2_leastOf_22 (by decide) ?_
        refine ww_post (fun r h9 hp => ?_) (ih (k + 1) (by omega))
        simpa [fsI, c14] using hp
      · refine ww_iload_n dX2_leastOf_17 rfl rfl ?_
        exact ww_iret dX2_leastOf_18 rfl ⟨by simp [fsI, c14], rfl⟩
set_option maxHeartbeats 4000000 in
set_option maxRecDepth 100000 in
theorem c_Land_leastOf {l : Launch} {Z : EE} (hst : l.stackTraces = false) {h : PH} {a np du : Nat} {f : Nat → Int32} (hL : LandAt h a np du f) (x : Int32) : CC l Z m_X2_leastOf 1 0 0 [.ref a, .int x] h (RT (some (.int (fsI (fun n => f n == x) 0 61))) h) := by
  refine ee_entry hst (by decide +kernel) rfl rfl (by simp [Value.category]) (Nat.le_of_ble_eq_true rfl) ?_
  refine ww_lv (lv2 := [.ref a, .int x, UU]) rfl ?_
  refine ww_iconst (v := nI 0) dX2_leastOf_0 (by decide) ?_
  refine ww_sti_n (lv2 := [.ref a, .int x, .int (nI 0)]) dX2_leastOf_1 rfl rfl (by decide) rfl ?_
  exact l_Land_leastOf hst hL x 61 0 rfl
set_option maxHeartbeats 4000000 in
set_option maxRecDepth 100000 in
theorem l_Land_greatestOf {l : Launch} {Z : EE} (hst : l.stackTraces = false) {h : PH} {a np du : Nat} {f : Nat → Int32} (hL : LandAt h a np du f) (x : Int32) : ∀ (j : Nat), j ≤ 61 → WW l Z m_X2_greatestOf 1 0 0 3 [.ref a, .int x, .int (dnI j)] [] h (RT (some (.int (laI (fun n => f n == x) j))) h) := by
  intro j
  induction j with
  | zero =>
    intro _
    refine ww_lv (lv2 := [.ref a, .int x, .int (-1)]) rfl ?_
    refine ww_iload_n dX2_greatestOf_3 rfl rfl ?_
    refine ww_if_lt (tgt := 24) dX2_greatestOf_4 (by decide) (fun c4 => ?_) (fun c4 => ?_)
    · refine ww_iconst (v := -1) dX2_greatestOf_24 (by decide) ?_
      exact ww_iret dX2_greatestOf_25 rfl ⟨rfl, rfl⟩
    · exact absurd (by decide) c4
  | succ j ih =>
    intro hk
    refine ww_lv (lv2 := [.ref a, .int x, .int (nI j)]) rfl ?_
    refine ww_iload_n dX2_greatestOf_3 rfl rfl ?_
    refine ww_if_ltN (tgt := 24) dX2_greatestOf_4 (by decide) (by omega) ?_
    refine ww_aload_n dX2_greatestOf_7 rfl rfl ?_
    refine ww_iload_n dX2_greatestOf_8 rfl rfl ?_
    refine ww_cVr (M := m_X2_greatestOf) (pc := 9) (v := .int (f j)) (h1 := h) (st := []) (bc := 0) (bs := 0) (c_Land_owner hst hL j (by omega)) vv_X2_owner dX2_greatestOf_9 wg_692 hL.1 rfl rfl rfl rfl (Nat.le_of_ble_eq_true rfl) (Nat.le_of_ble_eq_true rfl) (Nat.le_of_ble_eq_true rfl) (Nat.le_of_ble_eq_true rfl) ?_
    refine ww_iload_n dX2_greatestOf_12 rfl rfl ?_
    refine ww_icmp_ne (tgt := 18) dX2_greatestOf_13 (by decide) (fun c13 => ?_) (fun c13 => ?_)
    · refine ww_inc (v := (nI j) + (-1)) (lv2 := [.ref a, .int x, .int ((nI j) + (-1))]) dX2_greatestOf_18 rfl rfl rfl (by decide) rfl ?_
      refine ww_goto (tgt := 3) dX2_greatestOf_21 (by decide) ?_
      refine ww_lv (lv2 := [.ref a, .int x, .int (dnI j)]) (by rw [dnI_dec]) ?_
      refine ww_post (fun r h9 hp => ?_) (ih (by omega))
      simpa [laI, c13] using hp
    · refine ww_iload_n dX2_greatestOf_16 rfl rfl ?_
      exact ww_iret dX2_greatestOf_17 rfl ⟨by simp [laI, c13], rfl⟩
set_option maxHeartbeats 4000000 in
set_option maxRecDepth 100000 in
theorem c_Land_greatestOf {l : Launch} {Z : EE} (hst : l.stackTraces = false) {h : PH} {a np du : Nat} {f : Nat → Int32} (hL : LandAt h a np du f) (x : Int32) : CC l Z m_X2_greatestOf 1 0 0 [.ref a, .int x] h (RT (some (.int (laI (fun n => f n == x) 61))) h) := by
  refine ee_entry hst (by decide +kernel) rfl rfl (by simp [Value.category]) (Nat.le_of_ble_eq_true rfl) ?_
  refine ww_lv (lv2 := [.ref a, .int x, UU]) rfl ?_
  refine ww_bipush (v := nI 60) dX2_greatestOf_0 (by decide) ?_
  refine ww_sti_n (lv2 := [.ref a, .int x, .int (nI 60)]) dX2_greatestOf_2 rfl rfl (by decide) rfl ?_
  exact l_Land_greatestOf hst hL x 61 (Nat.le_refl _)
set_option maxHeartbeats 4000000 in
set_option maxRecDepth 100000 in
theorem l_Land_nextDay {l : Launch} {Z : EE} (hst : l.stackTraces = false) {h : PH} {a np du : Nat} {f : Nat → Int32} (hL : LandAt h a np du f) {Post : Res → PH → Prop} : ∀ (j k : Nat), k + j = 61 → WW l Z m_X2_nextDay 0 0 0 36 [.ref a, .int (nI 61)] [] (hp_sI h (a + 1) (clr (upd f 189 (f 189 + nI 1)) 61)) Post → WW l Z m_X2_nextDay 0 0 0 14 [.ref a, .int (nI k)] [] (hp_sI h (a + 1) (clr (upd f 189 (f 189 + nI 1)) k)) Post := by
  intro j
  induction j with
  | zero =>
    intro k hk hexit
    have hk0 : k = 61 := by omega
    subst hk0
    refine ww_iload_n dX2_nextDay_14 rfl rfl ?_
    refine ww_bipush (v := nI 60) dX2_nextDay_15 (by decide) ?_
    refine ww_icmp_gtN (tgt := 36) dX2_nextDay_17 (by decide) (by omega) (by omega) (fun c17 => ?_) (fun c17 => ?_)
    · exact hexit
    · exact absurd c17 (by decide)
  | succ j ih =>
    intro k hk hexit
    refine ww_iload_n dX2_nextDay_14 rfl rfl ?_
    refine ww_bipush (v := nI 60) dX2_nextDay_15 (by decide) ?_
    refine ww_icmp_gtN (tgt := 36) dX2_nextDay_17 (by decide) (by omega) (by omega) (fun c17 => ?_) (fun c17 => ?_)
    · exfalso; omega
    · refine ww_aload_n dX2_nextDay_20 rfl rfl ?_
      refine ww_get 0 dX2_nextDay_21 hL.1 rfl (by decide) inX2 wg_74 hL.2.2.1 ?_
      refine ww_bipush (v := nI 122) dX2_nextDay_24 (by decide) ?_
      refine ww_iload_n dX2_nextDay_26 rfl rfl ?_
      refine ww_iaddN dX2_nextDay_27 ?_
      refine ww_iconst (v := nI 0) dX2_nextDay_28 (by decide) ?_
      refine ww_iastC dX2_nextDay_29 hL.2.1 (by omega) (by omega) ?_
      refine ww_incN (c := 1) (lv2 := [.ref a, .int (nI (k + 1))]) dX2_nextDay_30 rfl rfl rfl (by decide) rfl ?_
      refine ww_goto (tgt := 14) dX2_nextDay_33 (by decide) ?_
      refine ww_hp (h2 := hp_sI h (a + 1) (clr (upd f 189 (f 189 + nI 1)) (k + 1))) (by rw [clr_s]) ?_
      exact ih (k + 1) (by omega) hexit
set_option maxHeartbeats 4000000 in
set_option maxRecDepth 100000 in
theorem c_Land_nextDay {l : Launch} {Z : EE} (hst : l.stackTraces = false) {h : PH} {a np du : Nat} {f : Nat → Int32} (hL : LandAt h a np du f) : CC l Z m_X2_nextDay 0 0 0 [.ref a] h (RT none (hp_sI h (a + 1) (dayF f))) := by
  refine ee_entry hst (by decide +kernel) rfl rfl (by simp [Value.category]) (Nat.le_of_ble_eq_true rfl) ?_
  refine ww_lv (lv2 := [.ref a, UU]) rfl ?_
  refine ww_aload_n dX2_nextDay_0 rfl rfl ?_
  refine ww_get 0 dX2_nextDay_1 hL.1 rfl (by decide) inX2 wg_74 hL.2.2.1 ?_
  refine ww_sipush (v := nI 189) dX2_nextDay_4 (by decide) ?_
  refine ww_dup2 dX2_nextDay_7 rfl rfl ?_
  refine ww_ialdF dX2_nextDay_8 hL.2.1 hL.2.2.2.2.2.1 (by omega) (by omega) ?_
  refine ww_iconst (v := nI 1) dX2_nextDay_9 (by decide) ?_
  refine ww_iadd dX2_nextDay_10 ?_
  refine ww_iastF dX2_nextDay_11 hL.2.1 hL.2.2.2.2.2.1 (by omega) (by omega) ?_
  refine ww_iconst (v := nI 0) dX2_nextDay_12 (by decide) ?_
  refine ww_sti_n (lv2 := [.ref a, .int (nI 0)]) dX2_nextDay_13 rfl rfl (by decide) rfl ?_
  refine ww_hp (h2 := hp_sI h (a + 1) (clr (upd f 189 (f 189 + nI 1)) 0)) (by rw [clr_0]) ?_
  refine l_Land_nextDay hst hL 61 0 rfl ?_
  exact ww_vret dX2_nextDay_36 rfl ⟨rfl, rfl⟩
set_option maxHeartbeats 4000000 in
set_option maxRecDepth 100000 in
theorem c_Land_pay0 {l : Launch} {Z : EE} (hst : l.stackTraces = false) {h : PH} {a np du : Nat} {f : Nat → Int32} (hL : LandAt h a np du f) (q : Nat) (hq : q < 6) (c : Int32) : CC l Z m_X2_pay 1 0 0 [.ref a, .int (nI q), .int (-1), .int c] h (RT none (hp_sI h (a + 1) (payF f q (-1) c))) := by
  refine ee_entry hst (by decide +kernel) rfl rfl (by simp [Value.category]) (Nat.le_of_ble_eq_true rfl) ?_
  refine ww_lv (lv2 := [.ref a, .int (nI q), .int (-1), .int c]) rfl ?_
  refine ww_aload_n dX2_pay_0 rfl rfl ?_
  refine ww_get 0 dX2_pay_1 hL.1 rfl (by decide) inX2 wg_74 hL.2.2.1 ?_
  refine ww_sipush (v := nI 183) dX2_pay_4 (by decide) ?_
  refine ww_iload_n dX2_pay_7 rfl rfl ?_
  refine ww_iaddN dX2_pay_8 ?_
  refine ww_dup2 dX2_pay_9 rfl rfl ?_
  refine ww_ialdF dX2_pay_10 hL.2.1 hL.2.2.2.2.2.1 (by omega) (by omega) ?_
  refine ww_iload_n dX2_pay_11 rfl rfl ?_
  refine ww_isub dX2_pay_12 ?_
  refine ww_iastF dX2_pay_13 hL.2.1 hL.2.2.2.2.2.1 (by omega) (by omega) ?_
  refine ww_iload_n dX2_pay_14 rfl rfl ?_
  refine ww_iconst (v := -1) dX2_pay_15 (by decide) ?_
  refine ww_icmp_eq (tgt := 47) dX2_pay_16 (by decide) (fun c16 => ?_) (fun c16 => ?_)
  · exact ww_vret dX2_pay_47 rfl ⟨rfl, by simp [payF]⟩
  · exact absurd rfl c16
set_option maxHeartbeats 4000000 in
set_option maxRecDepth 100000 in
theorem c_Land_pay1 {l : Launch} {Z : EE} (hst : l.stackTraces = false) {h : PH} {a np du : Nat} {f : Nat → Int32} (hL : LandAt h a np du f) (q : Nat) (hq : q < 6) (o : Nat) (ho : o < 6) (c : Int32) : CC l Z m_X2_pay 1 0 0 [.ref a, .int (nI q), .int (nI o), .int c] h (RT none (hp_sI h (a + 1) (payF f q (nI o) c))) := by
  refine ee_entry hst (by decide +kernel) rfl rfl (by simp [Value.category]) (Nat.le_of_ble_eq_true rfl) ?_
  refine ww_lv (lv2 := [.ref a, .int (nI q), .int (nI o), .int c]) rfl ?_
  refine ww_aload_n dX2_pay_0 rfl rfl ?_
  refine ww_get 0 dX2_pay_1 hL.1 rfl (by decide) inX2 wg_74 hL.2.2.1 ?_
  refine ww_sipush (v := nI 183) dX2_pay_4 (by decide) ?_
  refine ww_iload_n dX2_pay_7 rfl rfl ?_
  refine ww_iaddN dX2_pay_8 ?_
  refine ww_dup2 dX2_pay_9 rfl rfl ?_
  refine ww_ialdF dX2_pay_10 hL.2.1 hL.2.2.2.2.2.1 (by omega) (by omega) ?_
  refine ww_iload_n dX2_pay_11 rfl rfl ?_
  refine ww_isub dX2_pay_12 ?_
  refine ww_iastF dX2_pay_13 hL.2.1 hL.2.2.2.2.2.1 (by omega) (by omega) ?_
  refine ww_iload_n dX2_pay_14 rfl rfl ?_
  refine ww_iconst (v := -1) dX2_pay_15 (by decide) ?_
  refine ww_icmp_eq (tgt := 47) dX2_pay_16 (by decide) (fun c16 => ?_) (fun c16 => ?_)
  · exact absurd c16 (nI_nm1 o ho)
  · refine ww_aload_n dX2_pay_19 rfl rfl ?_
    refine ww_get 0 dX2_pay_20 hL.1 rfl (by decide) inX2 wg_74 hL.2.2.1 ?_
    refine ww_sipush (v := nI 183) dX2_pay_23 (by decide) ?_
    refine ww_iload_n dX2_pay_26 rfl rfl ?_
    refine ww_iaddN dX2_pay_27 ?_
    refine ww_sipush (v := nI 9999) dX2_pay_28 (by decide) ?_
    refine ww_aload_n dX2_pay_31 rfl rfl ?_
    refine ww_get 0 dX2_pay_32 hL.1 rfl (by decide) inX2 wg_74 hL.2.2.1 ?_
    refine ww_sipush (v := nI 183) dX2_pay_35 (by decide) ?_
    refine ww_iload_n dX2_pay_38 rfl rfl ?_
    refine ww_iaddN dX2_pay_39 ?_
    refine ww_ialdF dX2_pay_40 hL.2.1 (hp_I_eq _ _ _) (by omega) (by omega) ?_
    refine ww_iload_n dX2_pay_41 rfl rfl ?_
    refine ww_iadd dX2_pay_42 ?_
    refine ww_cSr (M := m_X2_pay) (pc := 43) (v := .int (mnI (nI 9999) (((upd f (183 + q) ((f (183 + q)) - c)) (183 + o)) + c))) (h1 := hp_sI h (a + 1) (upd f (183 + q) ((f (183 + q)) - c))) (st := [.int (nI (183 + o)), .ref (a + 1)]) (bc := 0) (bs := 0) (c_min hst (nI 9999) (((upd f (183 + q) ((f (183 + q)) - c)) (183 + o)) + c) (hp_sI h (a + 1) (upd f (183 + q) ((f (183 + q)) - c)))) vv_J9_min_7cf53 dX2_pay_43 wg_733 rfl rfl rfl (Nat.le_of_ble_eq_true rfl) (Nat.le_of_ble_eq_true rfl) (Nat.le_of_ble_eq_true rfl) (Nat.le_of_ble_eq_true rfl) ?_
    refine ww_iastC dX2_pay_46 hL.2.1 (by omega) (by omega) ?_
    exact ww_vret dX2_pay_47 rfl ⟨rfl, by unfold payF; rw [if_neg (nI_nm1 o ho), nI_clamp (by omega)]⟩
set_option maxHeartbeats 4000000 in
set_option maxRecDepth 100000 in
theorem c_Land_pay {l : Launch} {Z : EE} (hst : l.stackTraces = false) {h : PH} {a np du : Nat} {f : Nat → Int32} (hL : LandAt h a np du f) (q : Nat) (hq : q < 6) (o : Int32) (ho : isOw o) (c : Int32) : CC l Z m_X2_pay 1 0 0 [.ref a, .int (nI q), .int o, .int c] h (RT none (hp_sI h (a + 1) (payF f q o c))) := by
  rcases ho with rfl | ⟨w, hw, rfl⟩
  · exact c_Land_pay0 hst hL q hq c
  · exact c_Land_pay1 hst hL q hq w hw c
set_option maxHeartbeats 4000000 in
set_option maxRecDepth 100000 in
theorem c_Land_use {l : Launch} {Z : EE} (hst : l.stackTraces = false) {h : PH} {a np du : Nat} {f : Nat → Int32} (hL : LandAt h a np du f) (q n : Nat) (hq : q < 6) (hn : n < 61) (ho : isOw (f n)) (c : Int32) : CC l Z m_X2_use 2 0 0 [.ref a, .int (nI q), .int (nI n), .int c] h (RT (some (.int (bI (useF f q n c).1))) (hp_sI h (a + 1) (useF f q n c).2)) := by
  refine ee_entry hst (by decide +kernel) rfl rfl (by simp [Value.category]) (Nat.le_of_ble_eq_true rfl) ?_
  refine ww_lv (lv2 := [.ref a, .int (nI q), .int (nI n), .int c, UU]) rfl ?_
  refine ww_aload_n dX2_use_0 rfl rfl ?_
  refine ww_iload_n dX2_use_1 rfl rfl ?_
  refine ww_cVr (M := m_X2_use) (pc := 2) (v := .int (f n)) (h1 := h) (st := []) (bc := 0) (bs := 0) (c_Land_owner hst hL n (by omega)) vv_X2_owner dX2_use_2 wg_692 hL.1 rfl rfl rfl rfl (Nat.le_of_ble_eq_true rfl) (Nat.le_of_ble_eq_true rfl) (Nat.le_of_ble_eq_true rfl) (Nat.le_of_ble_eq_true rfl) ?_
  refine ww_sti (lv2 := [.ref a, .int (nI q), .int (nI n), .int c, .int (f n)]) dX2_use_5 rfl (by decide) rfl ?_
  refine ww_iload dX2_use_7 rfl ?_
  refine ww_iload_n dX2_use_9 rfl rfl ?_
  refine ww_icmp_eq (tgt := 32) dX2_use_10 (by decide) (fun c10 => ?_) (fun c10 => ?_)
  · refine ww_aload_n dX2_use_32 rfl rfl ?_
    refine ww_get 0 dX2_use_33 hL.1 rfl (by decide) inX2 wg_74 hL.2.2.1 ?_
    refine ww_bipush (v := nI 122) dX2_use_36 (by decide) ?_
    refine ww_iload_n dX2_use_38 rfl rfl ?_
    refine ww_iaddN dX2_use_39 ?_
    refine ww_dup2 dX2_use_40 rfl rfl ?_
    refine ww_ialdF dX2_use_41 hL.2.1 hL.2.2.2.2.2.1 (by omega) (by omega) ?_
    refine ww_iconst (v := nI 1) dX2_use_42 (by decide) ?_
    refine ww_iadd dX2_use_43 ?_
    refine ww_iastF dX2_use_44 hL.2.1 hL.2.2.2.2.2.1 (by omega) (by omega) ?_
    refine ww_iconst (v := nI 1) dX2_use_45 (by decide) ?_
    exact ww_zret dX2_use_46 rfl (by first | rfl | exact nar_bI _) ⟨by simp [useF, c10, bI]; (try rfl), by simp [useF, c10]⟩
  · refine ww_iload_n dX2_use_13 rfl rfl ?_
    refine ww_aload_n dX2_use_14 rfl rfl ?_
    refine ww_iload_n dX2_use_15 rfl rfl ?_
    refine ww_cVr (M := m_X2_use) (pc := 16) (v := .int (f (183 + q))) (h1 := h) (st := [.int c]) (bc := 0) (bs := 0) (c_Land_coins hst hL q (by omega)) vv_X2_coins dX2_use_16 wg_725 hL.1 rfl rfl rfl rfl (Nat.le_of_ble_eq_true rfl) (Nat.le_of_ble_eq_true rfl) (Nat.le_of_ble_eq_true rfl) (Nat.le_of_ble_eq_true rfl) ?_
    refine ww_icmp_le (tgt := 24) dX2_use_19 (by decide) (fun c19 => ?_) (fun c19 => ?_)
    · refine ww_aload_n dX2_use_24 rfl rfl ?_
      refine ww_iload_n dX2_use_25 rfl rfl ?_
      refine ww_iload dX2_use_26 rfl ?_
      refine ww_iload_n dX2_use_28 rfl rfl ?_
      refine ww_cV0 (M := m_X2_use) (pc := 29) (h1 := hp_sI h (a + 1) (payF f q (f n) c)) (st := []) (bc := 0) (bs := 0) (c_Land_pay hst hL q (by omega) _ ho c) vv_X2_pay dX2_use_29 wg_729 hL.1 rfl rfl rfl rfl (Nat.le_of_ble_eq_true rfl) (Nat.le_of_ble_eq_true rfl) (Nat.le_of_ble_eq_true rfl) (Nat.le_of_ble_eq_true rfl) ?_
      refine ww_aload_n dX2_use_32 rfl rfl ?_
      refine ww_get 0 dX2_use_33 hL.1 rfl (by decide) inX2 wg_74 hL.2.2.1 ?_
      refine ww_bipush (v := nI 122) dX2_use_36 (by decide) ?_
      refine ww_iload_n dX2_use_38 rfl rfl ?_
      refine ww_iaddN dX2_use_39 ?_
      refine ww_dup2 dX2_use_40 rfl rfl ?_
      refine ww_ialdF dX2_use_41 hL.2.1 (hp_I_eq _ _ _) (by omega) (by omega) ?_
      refine ww_iconst (v := nI 1) dX2_use_42 (by decide) ?_
      refine ww_iadd dX2_use_43 ?_
      refine ww_iastC dX2_use_44 hL.2.1 (by omega) (by omega) ?_
      refine ww_iconst (v := nI 1) dX2_use_45 (by decide) ?_
      exact ww_zret dX2_use_46 rfl (by first | rfl | exact nar_bI _) ⟨by simp [useF, c10, c19, bI]; (try rfl), by simp [useF, c10, c19]⟩
    · refine ww_iconst (v := nI 0) dX2_use_22 (by decide) ?_
      exact ww_zret dX2_use_23 rfl (by first | rfl | exact nar_bI _) ⟨by simp [useF, c10, c19, bI]; (try rfl), by simp only [useF, c10, c19, if_false]; rw [← hL.2.2.2.2.2.1, hp_sI_id]⟩
set_option maxHeartbeats 4000000 in
set_option maxRecDepth 100000 in
theorem c_Land_sell {l : Launch} {Z : EE} (hst : l.stackTraces = false) {h : PH} {a np du : Nat} {f : Nat → Int32} (hL : LandAt h a np du f) (n q : Nat) (hn : n < 61) (hq : q < 6) (ho : isOw (f n)) (c : Int32) : CC l Z m_X2_sell 2 0 0 [.ref a, .int (nI n), .int (nI q), .int c] h (RT (some (.int (bI (sellF f n q c).1))) (hp_sI h (a + 1) (sellF f n q c).2)) := by
  refine ee_entry hst (by decide +kernel) rfl rfl (by simp [Value.category]) (Nat.le_of_ble_eq_true rfl) ?_
  refine ww_lv (lv2 := [.ref a, .int (nI n), .int (nI q), .int c, UU]) rfl ?_
  refine ww_aload_n dX2_sell_0 rfl rfl ?_
  refine ww_iload_n dX2_sell_1 rfl rfl ?_
  refine ww_cVr (M := m_X2_sell) (pc := 2) (v := .int (f n)) (h1 := h) (st := []) (bc := 0) (bs := 0) (c_Land_owner hst hL n (by omega)) vv_X2_owner dX2_sell_2 wg_692 hL.1 rfl rfl rfl rfl (Nat.le_of_ble_eq_true rfl) (Nat.le_of_ble_eq_true rfl) (Nat.le_of_ble_eq_true rfl) (Nat.le_of_ble_eq_true rfl) ?_
  refine ww_sti (lv2 := [.ref a, .int (nI n), .int (nI q), .int c, .int (f n)]) dX2_sell_5 rfl (by decide) rfl ?_
  refine ww_iload dX2_sell_7 rfl ?_
  refine ww_iload_n dX2_sell_9 rfl rfl ?_
  refine ww_icmp_eq (tgt := 22) dX2_sell_10 (by decide) (fun c10 => ?_) (fun c10 => ?_)
  · refine ww_iconst (v := nI 0) dX2_sell_22 (by decide) ?_
    exact ww_zret dX2_sell_23 rfl (by first | rfl | exact nar_bI _) ⟨by first | (simp [sellF, c10, bI]; (try rfl); done) | (simp [sellF, c10, c19, bI]; (try rfl)), by first | (simp only [sellF, c10, if_true]; rw [← hL.2.2.2.2.2.1, hp_sI_id]; done) | (simp only [sellF, c10, c19, if_false]; rw [← hL.2.2.2.2.2.1, hp_sI_id])⟩
  · refine ww_iload_n dX2_sell_13 rfl rfl ?_
    refine ww_aload_n dX2_sell_14 rfl rfl ?_
    refine ww_iload_n dX2_sell_15 rfl rfl ?_
    refine ww_cVr (M := m_X2_sell) (pc := 16) (v := .int (f (183 + q))) (h1 := h) (st := [.int c]) (bc := 0) (bs := 0) (c_Land_coins hst hL q (by omega)) vv_X2_coins dX2_sell_16 wg_725 hL.1 rfl rfl rfl rfl (Nat.le_of_ble_eq_true rfl) (Nat.le_of_ble_eq_true rfl) (Nat.le_of_ble_eq_true rfl) (Nat.le_of_ble_eq_true rfl) ?_
    refine ww_icmp_le (tgt := 24) dX2_sell_19 (by decide) (fun c19 => ?_) (fun c19 => ?_)
    · refine ww_aload_n dX2_sell_24 rfl rfl ?_
      refine ww_iload_n dX2_sell_25 rfl rfl ?_
      refine ww_iload dX2_sell_26 rfl ?_
      refine ww_iload_n dX2_sell_28 rfl rfl ?_
      refine ww_cV0 (M := m_X2_sell) (pc := 29) (h1 := hp_sI h (a + 1) (payF f q (f n) c)) (st := []) (bc := 0) (bs := 0) (c_Land_pay hst hL q (by omega) _ ho c) vv_X2_pay dX2_sell_29 wg_729 hL.1 rfl rfl rfl rfl (Nat.le_of_ble_eq_true rfl) (Nat.le_of_ble_eq_true rfl) (Nat.le_of_ble_eq_true rfl) (Nat.le_of_ble_eq_true rfl) ?_
      refine ww_aload_n dX2_sell_32 rfl rfl ?_
      refine ww_get 0 dX2_sell_33 hL.1 rfl (by decide) inX2 wg_74 hL.2.2.1 ?_
      refine ww_iconst (v := nI 0) dX2_sell_36 (by decide) ?_
      refine ww_iload_n dX2_sell_37 rfl rfl ?_
      refine ww_iadd0 dX2_sell_38 ?_
      refine ww_iload_n dX2_sell_39 rfl rfl ?_
      refine ww_iastC dX2_sell_40 hL.2.1 (by omega) (by omega) ?_
      refine ww_iconst (v := nI 1) dX2_sell_41 (by decide) ?_
      exact ww_zret dX2_sell_42 rfl (by first | rfl | exact nar_bI _) ⟨by simp [sellF, c10, c19, bI]; (try rfl), by simp [sellF, c10, c19]⟩
    · refine ww_iconst (v := nI 0) dX2_sell_22 (by decide) ?_
      exact ww_zret dX2_sell_23 rfl (by first | rfl | exact nar_bI _) ⟨by first | (simp [sellF, c10, bI]; (try rfl); done) | (simp [sellF, c10, c19, bI]; (try rfl)), by first | (simp only [sellF, c10, if_true]; rw [← hL.2.2.2.2.2.1, hp_sI_id]; done) | (simp only [sellF, c10, c19, if_false]; rw [← hL.2.2.2.2.2.1, hp_sI_id])⟩
set_option maxHeartbeats 4000000 in
set_option maxRecDepth 100000 in
theorem c_Land_let {l : Launch} {Z : EE} (hst : l.stackTraces = false) {h : PH} {a np du : Nat} {f : Nat → Int32} (hL : LandAt h a np du f) (n : Nat) (hn : n < 61) (c : Int32) : CC l Z m_X2_let 1 0 0 [.ref a, .int (nI n), .int c] h (RT (some (.int (bI (letF f n c).1))) (hp_sI h (a + 1) (letF f n c).2)) := by
  refine ee_entry hst (by decide +kernel) rfl rfl (by simp [Value.category]) (Nat.le_of_ble_eq_true rfl) ?_
  refine ww_lv (lv2 := [.ref a, .int (nI n), .int c]) rfl ?_
  refine ww_aload_n dX2_let_0 rfl rfl ?_
  refine ww_iload_n dX2_let_1 rfl rfl ?_
  refine ww_cVr (M := m_X2_let) (pc := 2) (v := .int (f n)) (h1 := h) (st := []) (bc := 0) (bs := 0) (c_Land_owner hst hL n (by omega)) vv_X2_owner dX2_let_2 wg_692 hL.1 rfl rfl rfl rfl (Nat.le_of_ble_eq_true rfl) (Nat.le_of_ble_eq_true rfl) (Nat.le_of_ble_eq_true rfl) (Nat.le_of_ble_eq_true rfl) ?_
  refine ww_iconst (v := -1) dX2_let_5 (by decide) ?_
  refine ww_icmp_eq (tgt := 18) dX2_let_6 (by decide) (fun c6 => ?_) (fun c6 => ?_)
  · refine ww_iconst (v := nI 0) dX2_let_18 (by decide) ?_
    exact ww_zret dX2_let_19 rfl (by first | rfl | exact nar_bI _) ⟨by first | (simp [letF, c6, bI]; (try rfl); done) | (simp [letF, c6, c15, bI]; (try rfl)), by first | (simp only [letF, c6, if_true]; rw [← hL.2.2.2.2.2.1, hp_sI_id]; done) | (simp only [letF, c6, c15, if_false, if_true]; rw [← hL.2.2.2.2.2.1, hp_sI_id])⟩
  · refine ww_aload_n dX2_let_9 rfl rfl ?_
    refine ww_iload_n dX2_let_10 rfl rfl ?_
    refine ww_cVr (M := m_X2_let) (pc := 11) (v := .int (f (61 + n))) (h1 := h) (st := []) (bc := 0) (bs := 0) (c_Land_rent hst hL n (by omega)) vv_X2_rent dX2_let_11 wg_696 hL.1 rfl rfl rfl rfl (Nat.le_of_ble_eq_true rfl) (Nat.le_of_ble_eq_true rfl) (Nat.le_of_ble_eq_true rfl) (Nat.le_of_ble_eq_true rfl) ?_
    refine ww_iload_n dX2_let_14 rfl rfl ?_
    refine ww_icmp_ne (tgt := 20) dX2_let_15 (by decide) (fun c15 => ?_) (fun c15 => ?_)
    · refine ww_aload_n dX2_let_20 rfl rfl ?_
      refine ww_get 0 dX2_let_21 hL.1 rfl (by decide) inX2 wg_74 hL.2.2.1 ?_
      refine ww_bipush (v := nI 61) dX2_let_24 (by decide) ?_
      refine ww_iload_n dX2_let_26 rfl rfl ?_
      refine ww_iaddN dX2_let_27 ?_
      refine ww_iload_n dX2_let_28 rfl rfl ?_
      refine ww_iastF dX2_let_29 hL.2.1 hL.2.2.2.2.2.1 (by omega) (by omega) ?_
      refine ww_iconst (v := nI 1) dX2_let_30 (by decide) ?_
      exact ww_zret dX2_let_31 rfl (by first | rfl | exact nar_bI _) ⟨by simp [letF, c6, c15, bI]; (try rfl), by simp [letF, c6, c15]⟩
    · refine ww_iconst (v := nI 0) dX2_let_18 (by decide) ?_
      exact ww_zret dX2_let_19 rfl (by first | rfl | exact nar_bI _) ⟨by first | (simp [letF, c6, bI]; (try rfl); done) | (simp [letF, c6, c15, bI]; (try rfl)), by first | (simp only [letF, c6, if_true]; rw [← hL.2.2.2.2.2.1, hp_sI_id]; done) | (simp only [letF, c6, c15, if_false, if_true]; rw [← hL.2.2.2.2.2.1, hp_sI_id])⟩
