/-! ===== years ===== -/
def sdI (s : Int32) : Int32 := s * nI 1103515245 + nI 12345
def drN (s : Int32) : Nat := s.toBitVec.toNat / 2 ^ 16 % 2 ^ 15
theorem drN_lt (s : Int32) : drN s < 32768 := Nat.mod_lt _ (by decide)
theorem dr_u (x : Int32) : (x.toUInt32 >>> ((nI 16).toUInt32 &&& Int32.toUInt32 31)).toInt32 &&& nI 32767 = nI (drN x) := by
  rw [pk_and _ 15 (by decide), pk_ushr x (nI 16) 16 (by decide)]; rfl
theorem dr_s (x : Int32) : (x >>> (nI 16 &&& 31)) &&& nI 32767 = nI (drN x) := by
  rw [pk_and _ 15 (by decide)]
  have h1 := pk_shr x (nI 16 &&& 31) 16 (by decide)
  have h2 : (x >>> (nI 16 &&& 31)).toInt = (x >>> (nI 16 &&& 31)).toBitVec.toInt := rfl
  have h3 : x.toInt = x.toBitVec.toInt := rfl
  rw [h2, h3, BitVec.toInt_eq_toNat_cond, BitVec.toInt_eq_toNat_cond, Int.shiftRight_eq_div_pow] at h1
  have b1 := (x >>> (nI 16 &&& 31)).toBitVec.isLt
  have b2 := x.toBitVec.isLt
  unfold drN
  congr 1
  generalize (x >>> (nI 16 &&& 31)).toBitVec.toNat = y at *
  generalize x.toBitVec.toNat = z at *
  split at h1 <;> split at h1 <;> simp only [Nat.reducePow, Int.reducePow] at * <;> omega
/-- owners and coins are as they may be -/
def RowU (g : Nat → Int32) (np : Nat) : Prop := (∀ n, n ≤ 60 → g n = -1 ∨ ∃ q, q < np ∧ g n = nI q) ∧ ∀ q, q < 6 → ∃ c, c ≤ 9999 ∧ g (183 + q) = nI c
theorem RowOK.u {g : Nat → Int32} {np : Nat} (h : RowOK g np) : RowU g np := ⟨h.1, h.2.2.1⟩
theorem RowU.ow {f : Nat → Int32} {np : Nat} (h : RowU f np) (h6 : np ≤ 6) {n : Nat} (hn : n ≤ 60) : isOw (f n) := (h.1 n hn).imp id fun ⟨q, h1, h2⟩ => ⟨q, by omega, h2⟩
theorem mnI_co {x : Int32} {a b : Nat} (hx : x = nI (a + b)) (ha : a ≤ 9999) (hb : b ≤ 9999) : ∃ c, c ≤ 9999 ∧ mnI (nI 9999) x = nI c := ⟨min 9999 (a + b), by omega, by rw [hx, mnI_n _ _ (by omega) (by omega)]⟩
theorem payF_co {g : Nat → Int32} {np p o c x : Nat} (hg : ∀ q, q < 6 → ∃ c, c ≤ 9999 ∧ g (183 + q) = nI c) (hp : p < 6) (ho : o < 6) (hop : o ≠ p) (hc : c ≤ x) (hx : x ≤ 9999) (hgx : g (183 + p) = nI x) : ∀ q, q < 6 → ∃ y, y ≤ 9999 ∧ payF g p (nI o) (nI c) (183 + q) = nI y := by
  intro q hq
  unfold payF
  rw [if_neg (nI_nm1 o ho), nI_clamp (by omega)]
  by_cases e : q = o
  · subst e
    rw [pk_us, pk_un (by omega)]
    obtain ⟨z, hz, hgz⟩ := hg q hq
    rw [hgz, nI_add]
    exact mnI_co rfl hz (by omega)
  · rw [pk_un (by omega)]
    by_cases e2 : q = p
    · subst e2
      rw [pk_us, hgx, pk_sub hc]
      exact ⟨x - c, by omega, rfl⟩
    · rw [pk_un (by omega)]; exact hg q hq
theorem RowU.use {g : Nat → Int32} {np q n c : Nat} (h : RowU g np) (h6 : np ≤ 6) (hq : q < 6) (hn : n ≤ 60) (hc : c ≤ 99) : RowU (useF g q n (nI c)).2 np := by
  obtain ⟨x, hx, hgx⟩ := h.2 q hq
  have ho := h.ow h6 hn
  by_cases h1 : g n = nI q
  · rw [useF_1 h1]
    exact ⟨fun i hi => by show upd g _ _ i = _ ∨ ∃ q, q < np ∧ upd g _ _ i = _; rw [pk_un (by omega)]; exact h.1 i hi, fun i hi => by show ∃ c, c ≤ 9999 ∧ upd g _ _ (183 + i) = _; rw [pk_un (by omega)]; exact h.2 i hi⟩
  · by_cases h2 : nI c ≤ g (183 + q)
    · rw [useF_2 h1 h2]
      have hcx : c ≤ x := (nI_leI (by omega) (by omega)).mp (hgx ▸ h2)
      refine ⟨fun i hi => ?_, fun i hi => ?_⟩
      · show upd _ _ _ i = _ ∨ ∃ q, q < np ∧ upd _ _ _ i = _
        rw [pk_un (by omega), payF_ne (by omega) (by omega) ho]; exact h.1 i hi
      · show ∃ c, c ≤ 9999 ∧ upd _ _ _ (183 + i) = _
        rw [pk_un (by omega)]
        rcases ho with e | ⟨o, ho6, e⟩
        · rw [e]
          unfold payF
          rw [if_pos rfl]
          by_cases ei : i = q
          · subst ei; rw [pk_us, hgx, pk_sub hcx]; exact ⟨x - c, by omega, rfl⟩
          · rw [pk_un (by omega)]; exact h.2 i hi
        · rw [e]; exact payF_co (np := np) h.2 hq ho6 (fun e2 => h1 (by rw [e, e2])) hcx hx hgx i hi
    · rw [useF_3 h1 h2]; exact h
theorem RowU.day {g : Nat → Int32} {np : Nat} (h : RowU g np) : RowU (dayF g) np :=
  ⟨fun i hi => by unfold dayF clr; rw [if_neg (by omega), pk_un (by omega)]; exact h.1 i hi, fun i hi => by unfold dayF clr; rw [if_neg (by omega), pk_un (by omega)]; exact h.2 i hi⟩
abbrev YS : Type := (Nat → Int32) × Int32 × Nat × (Nat → Int32)
def yN (s : Int32) : Nat := drN (sdI (sdI s)) % 61
def yU (sz : Nat) (kf vf : Nat → Int32) (np : Nat) (x : YS) : Bool × (Nat → Int32) := useF x.1 (drN (sdI x.2.1) % np) (yN x.2.1) (fareC x.1 sz kf vf (yN x.2.1) (drN (sdI (sdI (sdI x.2.1))) % 3))
def yT (sz : Nat) (kf vf : Nat → Int32) (np : Nat) (x : YS) : YS := ((yU sz kf vf np x).2, sdI (sdI (sdI x.2.1)), (if (yU sz kf vf np x).1 = true then x.2.2.1 + 1 else x.2.2.1), if (yU sz kf vf np x).1 = true then upd x.2.2.2 (yN x.2.1) (nI 1) else x.2.2.2)
def yY (k : Nat) (x : YS) : YS := if (k + 1) % 8 = 0 then (dayF x.1, x.2) else x
def yF (sz : Nat) (kf vf : Nat → Int32) (np : Nat) (f : Nat → Int32) (sd : Int32) : Nat → YS
  | 0 => (f, sd, 0, fun _ => 0)
  | k + 1 => yY k (yT sz kf vf np (yF sz kf vf np f sd k))
theorem yY_d (k : Nat) (x : YS) : (yY k x).2 = x.2 := by unfold yY; split <;> rfl
theorem yF_dn (sz : Nat) (kf vf : Nat → Int32) (np : Nat) (f : Nat → Int32) (sd : Int32) : ∀ k, (yF sz kf vf np f sd k).2.2.1 ≤ k
  | 0 => Nat.le_refl _
  | k + 1 => by
    have := yF_dn sz kf vf np f sd k
    simp only [yF, yY_d, yT]
    split <;> omega
theorem yU_u {sz : Nat} {kf vf : Nat → Int32} {np : Nat} {x : YS} (h0 : 0 < np) (h6 : np ≤ 6) (h : RowU x.1 np) : RowU (yU sz kf vf np x).2 np := by
  obtain ⟨e, hc⟩ := fareN_ok x.1 sz kf vf (yN x.2.1) (drN (sdI (sdI (sdI x.2.1))) % 3)
  have h1 := Nat.mod_lt (drN (sdI x.2.1)) h0
  have h2 : yN x.2.1 < 61 := Nat.mod_lt _ (by decide)
  unfold yU
  rw [e]
  exact h.use h6 (by omega) (by omega) hc
theorem yF_u (sz : Nat) (kf vf : Nat → Int32) {np : Nat} {f : Nat → Int32} (sd : Int32) (h0 : 0 < np) (h6 : np ≤ 6) (hf : RowU f np) : ∀ k, RowU (yF sz kf vf np f sd k).1 np
  | 0 => hf
  | k + 1 => by
    have ih := yU_u (sz := sz) (kf := kf) (vf := vf) h0 h6 (yF_u sz kf vf sd h0 h6 hf k)
    simp only [yF, yY]
    split
    · exact ih.day
    · exact ih
def EqR (f g : Nat → Int32) : Prop := ∀ i, i < 190 → f i = g i
theorem payF_eq {f g : Nat → Int32} {p : Nat} {o c : Int32} (h : EqR f g) (hp : p < 6) (ho : isOw o) : EqR (payF f p o c) (payF g p o c) := by
  intro i hi
  unfold payF
  rcases ho with rfl | ⟨t, ht, rfl⟩
  · rw [if_pos rfl, if_pos rfl]
    by_cases e : i = 183 + p
    · subst e; rw [pk_us, pk_us, h _ hi]
    · rw [pk_un e, pk_un e, h i hi]
  · rw [if_neg (nI_nm1 t ht), if_neg (nI_nm1 t ht), nI_clamp (by omega)]
    have hu : ∀ j, j < 190 → upd f (183 + p) (f (183 + p) - c) j = upd g (183 + p) (g (183 + p) - c) j := fun j hj => by
      by_cases e : j = 183 + p
      · subst e; rw [pk_us, pk_us, h _ hj]
      · rw [pk_un e, pk_un e, h j hj]
    by_cases e : i = 183 + t
    · subst e; rw [pk_us, pk_us, hu _ hi]
    · rw [pk_un e, pk_un e, hu i hi]
theorem useF_eq {f g : Nat → Int32} {q n : Nat} {c : Int32} (h : EqR f g) (hq : q < 6) (hn : n ≤ 60) (ho : isOw (f n)) : (useF f q n c).1 = (useF g q n c).1 ∧ EqR (useF f q n c).2 (useF g q n c).2 := by
  unfold useF
  rw [← h n (by omega), ← h (183 + q) (by omega)]
  have hp := payF_eq (c := c) h hq ho
  split
  · refine ⟨rfl, fun i hi => ?_⟩
    show upd f _ _ i = upd g _ _ i
    by_cases e : i = 122 + n
    · subst e; rw [pk_us, pk_us, h _ hi]
    · rw [pk_un e, pk_un e, h i hi]
  · split
    · refine ⟨rfl, fun i hi => ?_⟩
      show upd _ _ _ i = upd _ _ _ i
      by_cases e : i = 122 + n
      · subst e; rw [pk_us, pk_us, hp _ hi]
      · rw [pk_un e, pk_un e, hp i hi]
    · exact ⟨rfl, h⟩
theorem dayF_eq {f g : Nat → Int32} (h : EqR f g) : EqR (dayF f) (dayF g) := fun i hi => by
  unfold dayF clr
  split
  · rfl
  · by_cases e : i = 189
    · subst e; rw [pk_us, pk_us, h _ hi]
    · rw [pk_un e, pk_un e, h i hi]
theorem yF_eq (sz : Nat) (kf vf : Nat → Int32) {np : Nat} {f g : Nat → Int32} (sd : Int32) (h0 : 0 < np) (h6 : np ≤ 6) (hf : RowU f np) (h : EqR f g) : ∀ k, EqR (yF sz kf vf np f sd k).1 (yF sz kf vf np g sd k).1 ∧ (yF sz kf vf np f sd k).2 = (yF sz kf vf np g sd k).2
  | 0 => ⟨h, rfl⟩
  | k + 1 => by
    obtain ⟨i1, i2⟩ := yF_eq sz kf vf sd h0 h6 hf h k
    have iu := yF_u sz kf vf sd h0 h6 hf k
    simp only [yF]
    generalize yF sz kf vf np f sd k = x at *
    generalize yF sz kf vf np g sd k = y at *
    have h1 := Nat.mod_lt (drN (sdI x.2.1)) h0
    have h2 : yN x.2.1 < 61 := Nat.mod_lt _ (by decide)
    have hU : (yU sz kf vf np x).1 = (yU sz kf vf np y).1 ∧ EqR (yU sz kf vf np x).2 (yU sz kf vf np y).2 := by
      unfold yU
      rw [← i2, ← fareC_congr (f := x.1) (g := y.1) i1 (by omega)]
      exact useF_eq i1 (by omega) (by omega) (iu.ow h6 (by omega))
    have hT : EqR (yT sz kf vf np x).1 (yT sz kf vf np y).1 ∧ (yT sz kf vf np x).2 = (yT sz kf vf np y).2 := by
      unfold yT
      rw [hU.1, ← i2]
      exact ⟨hU.2, rfl⟩
    unfold yY
    split
    · exact ⟨dayF_eq hT.1, hT.2⟩
    · exact hT
/-- the class's year -/
def YrAt (h : PH) (np du : Nat) (g : Nat → Int32) (s : Int32) (dn r : Nat) (mt : Nat → Int32) : Prop := LandAt h 43 np du g ∧ hp_F h 42 2 = .int s ∧ hp_F h 42 3 = .int (nI dn) ∧ hp_F h 42 4 = .int (nI r) ∧ ∀ i, i < 61 → hp_I h 45 i = mt i
theorem YrAt.same {h h' : PH} {np du : Nat} {g mt : Nat → Int32} {s : Int32} {dn r : Nat} {X : Nat → Prop} {Y : Nat → Nat → Prop} (hY : YrAt h np du g s dn r mt) (hS : Same X Y h h') (h1 : ¬ X 44) (h2 : ¬ X 45) (h3 : ∀ j, ¬ Y 42 j) (h4 : ∀ j, ¬ Y 43 j) : YrAt h' np du g s dn r mt :=
  ⟨hY.1.same hS h1 h4, (hS.2.2.1 _ _ (h3 2)).trans hY.2.1, (hS.2.2.1 _ _ (h3 3)).trans hY.2.2.1, (hS.2.2.1 _ _ (h3 4)).trans hY.2.2.2.1, fun i hi => by rw [hS.2.2.2.1 _ h2]; exact hY.2.2.2.2 i hi⟩
theorem YrAt.seed {h : PH} {np du : Nat} {g mt : Nat → Int32} {s s' : Int32} {dn r : Nat} (hY : YrAt h np du g s dn r mt) : YrAt (hp_sF h 42 2 (.int s')) np du g s' dn r mt :=
  ⟨hY.1.same (X := fun _ => False) (Y := fun a j => a = 42 ∧ j = 2) (Same.rf.sF (by exact ⟨rfl, rfl⟩)) (fun e => e) (fun j e => by omega), hp_F_eq _ _ _ _, hp_F_nj (by decide) hY.2.2.1, hp_F_nj (by decide) hY.2.2.2.1, hY.2.2.2.2⟩
theorem YrAt.ref {h : PH} {np du : Nat} {g mt : Nat → Int32} {s : Int32} {dn r r' : Nat} (hY : YrAt h np du g s dn r mt) : YrAt (hp_sF h 42 4 (.int (nI r'))) np du g s dn r' mt :=
  ⟨hY.1.same (X := fun _ => False) (Y := fun a j => a = 42 ∧ j = 4) (Same.rf.sF (by exact ⟨rfl, rfl⟩)) (fun e => e) (fun j e => by omega), hp_F_nj (by decide) hY.2.1, hp_F_nj (by decide) hY.2.2.1, hp_F_eq _ _ _ _, hY.2.2.2.2⟩
theorem YrAt.row {h : PH} {np du : Nat} {g g' mt : Nat → Int32} {s : Int32} {dn r : Nat} (hY : YrAt h np du g s dn r mt) : YrAt (hp_sI h (43 + 1) g') np du g' s dn r mt :=
  ⟨hY.1.set, hY.2.1, hY.2.2.1, hY.2.2.2.1, fun i hi => by rw [hp_I_ne (by decide)]; exact hY.2.2.2.2 i hi⟩
theorem YrAt.met {h : PH} {np du : Nat} {g mt : Nat → Int32} {s : Int32} {dn dn' r n : Nat} (hY : YrAt h np du g s dn r mt) (hn : n < 61) : YrAt (hp_sI (hp_sF h 42 3 (.int (nI dn'))) 45 (upd (hp_I h 45) n (nI 1))) np du g s dn' r (upd mt n (nI 1)) :=
  ⟨hY.1.same (X := fun c => c = 45) (Y := fun a j => a = 42 ∧ j = 3) ((Same.rf.sF (by exact ⟨rfl, rfl⟩)).sI (by rfl)) (by decide) (fun j e => by omega), hp_F_sI (hp_F_nj (by decide) hY.2.1), hp_F_sI (hp_F_eq _ _ _ _), hp_F_sI (hp_F_nj (by decide) hY.2.2.2.1), fun i hi => by
    rw [hp_I_eq]
    by_cases e : i = n
    · subst e; rw [pk_us, pk_us]
    · rw [pk_un e, pk_un e]; exact hY.2.2.2.2 i hi⟩
set_option maxHeartbeats 4000000 in
set_option maxRecDepth 100000 in
theorem c_Yr_draw {l : Launch} {Z : EE} (hst : l.stackTraces = false) {h : PH} (k42 : hp_K h 42 = (9, 5)) {s : Int32} (hs : hp_F h 42 2 = .int s) (b : Nat) (hb : 0 < b) (hb9 : b ≤ 61) : CC l Z m_X9_draw 0 0 0 [.ref 42, .int (nI b)] h (RT (some (.int (nI (drN (sdI s) % b)))) (hp_sF h 42 2 (.int (sdI s)))) := by
  refine ee_entry hst (by decide +kernel) rfl rfl (by simp [Value.category]) (Nat.le_of_ble_eq_true rfl) ?_
  refine ww_lv (lv2 := [.ref 42, .int (nI b)]) rfl ?_
  refine ww_aload_n dX9_draw_0 rfl rfl ?_
  refine ww_aload_n dX9_draw_1 rfl rfl ?_
  refine ww_get 2 dX9_draw_2 k42 rfl (by decide) inX9 wg_248 hs ?_
  refine ww_ldc (v := nI 1103515245) dX9_draw_5 wg_1201 ?_
  refine ww_imul dX9_draw_7 ?_
  refine ww_sipush (v := nI 12345) dX9_draw_8 (by decide) ?_
  refine ww_iadd dX9_draw_11 ?_
  refine ww_pfI tyX9 2 dX9_draw_12 k42 rfl (by decide) inX9 tyX9_ok nmX9 wg_248 rfl rfl ?_
  refine ww_iload_n dX9_draw_15 rfl rfl ?_
  refine ww_if_gtN (tgt := 23) dX9_draw_16 (by decide) (by omega) (fun c16 => ?_) (fun c16 => ?_)
  · refine ww_aload_n dX9_draw_23 rfl rfl ?_
    refine ww_get 2 dX9_draw_24 k42 rfl (by decide) inX9 wg_248 (hp_F_eq _ _ _ _) ?_
    refine ww_bipush (v := nI 16) dX9_draw_27 (by decide) ?_
    refine ww_iushr dX9_draw_29 rfl ?_
    refine ww_sipush (v := nI 32767) dX9_draw_30 (by decide) ?_
    refine ww_iand dX9_draw_33 ?_
    refine ww_sk (st2 := [.int (nI (drN (sdI s)))]) (by rw [show s * nI 1103515245 + nI 12345 = sdI s from rfl, dr_u]) ?_
    have hd9 := drN_lt (sdI s)
    refine ww_iload_n dX9_draw_34 rfl rfl ?_
    refine ww_iremN dX9_draw_35 (by omega) (by omega) (by omega) ?_
    exact ww_iret dX9_draw_36 rfl ⟨rfl, rfl⟩
  · exfalso; omega
set_option maxHeartbeats 4000000 in
set_option maxRecDepth 100000 in
theorem c_Land_become {l : Launch} {Z : EE} (hst : l.stackTraces = false) {h : PH} {la np du np0 du0 : Nat} {f g : Nat → Int32} (hla : la = 3 ∨ la = 5) (hL : LandAt h la np du f) (hY : LandAt h 43 np0 du0 g) : CC l Z m_X2_become 2 0 0 [.ref 43, .ref la] h (RT none (hp_sF (hp_sF (hp_sI h (43 + 1) (fun i => if i < 190 then f i else g i)) 43 1 (.int (nI np))) 43 2 (.int (nI du)))) := by
  refine ee_entry hst (by decide +kernel) rfl rfl (by simp [Value.category]) (Nat.le_of_ble_eq_true rfl) ?_
  refine ww_lv (lv2 := [.ref 43, .ref la]) rfl ?_
  refine ww_aload_n dX2_become_0 rfl rfl ?_
  refine ww_aload_n dX2_become_1 rfl rfl ?_
  refine ww_get 0 dX2_become_2 hL.1 rfl (by decide) inX2 wg_74 hL.2.2.1 ?_
  refine ww_cV0 (M := m_X2_become) (pc := 5) (h1 := hp_sI h (43 + 1) (fun i => if i < 190 then f i else g i)) (st := []) (d := 2) (bc := 0) (bs := 0) (by have h9 := c_Land_takeRow (Z := Z) hst hY hL.2.1; rw [hL.2.2.2.2.2.1] at h9; exact h9) vv_X2_takeRow dX2_become_5 wg_1192 hY.1 rfl rfl rfl rfl (Nat.le_of_ble_eq_true rfl) (Nat.le_of_ble_eq_true rfl) (Nat.le_of_ble_eq_true rfl) (Nat.le_of_ble_eq_true rfl) ?_
  refine ww_aload_n dX2_become_8 rfl rfl ?_
  refine ww_aload_n dX2_become_9 rfl rfl ?_
  refine ww_get 1 dX2_become_10 hL.1 rfl (by decide) inX2 wg_75 hL.2.2.2.1 ?_
  refine ww_pfI tyX2 1 dX2_become_13 hY.1 rfl (by decide) inX2 tyX2_ok nmX2 wg_75 rfl rfl ?_
  refine ww_aload_n dX2_become_16 rfl rfl ?_
  refine ww_aload_n dX2_become_17 rfl rfl ?_
  refine ww_get 2 dX2_become_18 hL.1 rfl (by decide) inX2 wg_79 (hp_F_nj (by decide) hL.2.2.2.2.1) ?_
  refine ww_pfI tyX2 2 dX2_become_21 hY.1 rfl (by decide) inX2 tyX2_ok nmX2 wg_79 rfl rfl ?_
  exact ww_vret dX2_become_24 rfl ⟨rfl, rfl⟩
set_option maxHeartbeats 4000000 in
set_option maxRecDepth 100000 in
theorem c_Yr_useDrawn {l : Launch} {Z : EE} (hst : l.stackTraces = false) {h : PH} {la lw bk : Nat} (hC : CL h la lw bk) {np du : Nat} {f0 : Nat → Int32} (hL : LandAt h la np du f0) {sz : Nat} {kf vf : Nat → Int32} (hW : LawAt h lw sz kf vf) (hok : LawOK kf vf sz) {g mt : Nat → Int32} {s : Int32} {dn r : Nat} (hY : YrAt h np du g s dn r mt) (h0 : 0 < np) (hu : RowU g np) (hdr : dn ≤ 200) (hrr : r ≤ 200) : CC l Z m_X9_useDrawn 4 0 0 [.ref 42, .ref lw] h (RQ none (fun h9 => Same CX CY h h9 ∧ YrAt h9 np du (yT sz kf vf np (g, s, dn, mt)).1 (yT sz kf vf np (g, s, dn, mt)).2.1 (yT sz kf vf np (g, s, dn, mt)).2.2.1 (if (yU sz kf vf np (g, s, dn, mt)).1 = true then r else r + 1) (yT sz kf vf np (g, s, dn, mt)).2.2.2)) := by
  refine ee_entry hst (by decide +kernel) rfl rfl (by simp [Value.category]) (Nat.le_of_ble_eq_true rfl) ?_
  refine ww_lv (lv2 := [.ref 42, .ref lw, UU, UU, UU]) rfl ?_
  have h6 := hL.2.2.2.2.2.2.1
  refine ww_aload_n dX9_useDrawn_0 rfl rfl ?_
  refine ww_aload_n dX9_useDrawn_1 rfl rfl ?_
  refine ww_get 0 dX9_useDrawn_2 (hC.K42) rfl (by decide) inX9 wg_245 (hC.R42_0) ?_
  refine ww_getN 1 dX9_useDrawn_5 (hC.K43) rfl (by decide) inX2 wn_76 hY.1.2.2.2.1 ?_
  refine ww_cVr (M := m_X9_useDrawn) (pc := 8) (v := .int (nI (drN (sdI s) % np))) (h1 := hp_sF (h) 42 2 (.int (sdI s))) (st := []) (d := 4) (bc := 0) (bs := 0) (c_Yr_draw hst (h := h) hC.K42 hY.2.1 np (by omega) (by omega)) vv_X9_draw dX9_useDrawn_8 wg_1197 (hC.K42) rfl rfl rfl rfl (Nat.le_of_ble_eq_true rfl) (Nat.le_of_ble_eq_true rfl) (Nat.le_of_ble_eq_true rfl) (Nat.le_of_ble_eq_true rfl) ?_
  refine ww_sti_n (lv2 := [.ref 42, .ref lw, .int (nI (drN (sdI s) % np)), UU, UU]) dX9_useDrawn_11 rfl rfl (by decide) rfl ?_
  refine ww_aload_n dX9_useDrawn_12 rfl rfl ?_
  refine ww_bipush (v := nI 61) dX9_useDrawn_13 (by decide) ?_
  refine ww_cVr (M := m_X9_useDrawn) (pc := 15) (v := .int (nI (drN (sdI (sdI s)) % 61))) (h1 := hp_sF (hp_sF (h) 42 2 (.int (sdI s))) 42 2 (.int (sdI (sdI s)))) (st := []) (d := 4) (bc := 0) (bs := 0) (c_Yr_draw hst (h := hp_sF (h) 42 2 (.int (sdI s))) hC.K42 (hp_F_eq _ _ _ _) 61 (by omega) (by omega)) vv_X9_draw dX9_useDrawn_15 wg_1197 (hC.K42) rfl rfl rfl rfl (Nat.le_of_ble_eq_true rfl) (Nat.le_of_ble_eq_true rfl) (Nat.le_of_ble_eq_true rfl) (Nat.le_of_ble_eq_true rfl) ?_
  refine ww_sti_n (lv2 := [.ref 42, .ref lw, .int (nI (drN (sdI s) % np)), .int (nI (drN (sdI (sdI s)) % 61)), UU]) dX9_useDrawn_18 rfl rfl (by decide) rfl ?_
  refine ww_aload_n dX9_useDrawn_19 rfl rfl ?_
  refine ww_iconst (v := nI 3) dX9_useDrawn_20 (by decide) ?_
  refine ww_cVr (M := m_X9_useDrawn) (pc := 21) (v := .int (nI (drN (sdI (sdI (sdI s))) % 3))) (h1 := hp_sF (hp_sF (hp_sF (h) 42 2 (.int (sdI s))) 42 2 (.int (sdI (sdI s)))) 42 2 (.int (sdI (sdI (sdI s))))) (st := []) (d := 4) (bc := 0) (bs := 0) (c_Yr_draw hst (h := hp_sF (hp_sF (h) 42 2 (.int (sdI s))) 42 2 (.int (sdI (sdI s)))) hC.K42 (hp_F_eq _ _ _ _) 3 (by omega) (by omega)) vv_X9_draw dX9_useDrawn_21 wg_1197 (hC.K42) rfl rfl rfl rfl (Nat.le_of_ble_eq_true rfl) (Nat.le_of_ble_eq_true rfl) (Nat.le_of_ble_eq_true rfl) (Nat.le_of_ble_eq_true rfl) ?_
  refine ww_sti (lv2 := [.ref 42, .ref lw, .int (nI (drN (sdI s) % np)), .int (nI (drN (sdI (sdI s)) % 61)), .int (nI (drN (sdI (sdI (sdI s))) % 3))]) dX9_useDrawn_24 rfl (by decide) rfl ?_
  refine ww_lv (lv2 := [.ref 42, .ref lw, .int (nI (drN (sdI s) % np)), .int (nI (yN s)), .int (nI (drN (sdI (sdI (sdI s))) % 3))]) rfl ?_
  have hy1 := ((hY.seed (s' := sdI s)).seed (s' := sdI (sdI s))).seed (s' := sdI (sdI (sdI s)))
  have t1 : Same CX CY h (hp_sF (hp_sF (hp_sF (h) 42 2 (.int (sdI s))) 42 2 (.int (sdI (sdI s)))) 42 2 (.int (sdI (sdI (sdI s))))) := ((Same.rf.sF (by decide)).sF (by decide)).sF (by decide)
  generalize hp_sF (hp_sF (hp_sF (h) 42 2 (.int (sdI s))) 42 2 (.int (sdI (sdI s)))) 42 2 (.int (sdI (sdI (sdI s)))) = hq1 at hy1 t1 ⊢
  have hC1 := hC.scr t1
  have hW1 := hW.scr hC t1
  have hp9 := Nat.mod_lt (drN (sdI s)) h0
  have hn9 : yN s < 61 := Nat.mod_lt _ (by decide)
  have hw9 := Nat.mod_lt (drN (sdI (sdI (sdI s)))) (show 0 < 3 by decide)
  refine ww_aload_n dX9_useDrawn_26 rfl rfl ?_
  refine ww_get 0 dX9_useDrawn_27 (hC1.K42) rfl (by decide) inX9 wg_245 (hC1.R42_0) ?_
  refine ww_iload_n dX9_useDrawn_30 rfl rfl ?_
  refine ww_iload_n dX9_useDrawn_31 rfl rfl ?_
  refine ww_aload_n dX9_useDrawn_32 rfl rfl ?_
  refine ww_get 0 dX9_useDrawn_33 (hC1.K42) rfl (by decide) inX9 wg_245 (hC1.R42_0) ?_
  refine ww_aload_n dX9_useDrawn_36 rfl rfl ?_
  refine ww_iload_n dX9_useDrawn_37 rfl rfl ?_
  refine ww_iload dX9_useDrawn_38 rfl ?_
  refine ww_cVq (M := m_X9_useDrawn) (pc := 40) (v := .int ((fareC g sz kf vf (yN s) (drN (sdI (sdI (sdI s))) % 3)))) (st := [.int (nI (yN s)), .int (nI (drN (sdI s) % np)), .ref 43]) (d := 4) (bc := 0) (bs := 0) (c_Land_fareBy hst hy1.1 hW1 hok (by have := hC.lw; omega) (yN s) (by omega) (drN (sdI (sdI (sdI s))) % 3) (by omega)) vv_X2_fareBy dX9_useDrawn_40 wg_1202 (hC1.K43) rfl rfl rfl rfl (Nat.le_of_ble_eq_true rfl) (Nat.le_of_ble_eq_true rfl) (Nat.le_of_ble_eq_true rfl) (Nat.le_of_ble_eq_true rfl) (fun hq2 qq2 => ?_)
  have t2 : Same CX CY h hq2 := t1.tr (qq2.law hC.lw)
  have hC2 := hC.scr t2
  have hW2 := hW.scr hC t2
  have hy2 := hy1.same qq2 (by have := hC.lw; omega) (by have := hC.lw; omega) (fun _ e => e) (fun _ e => e)
  refine ww_cVr (M := m_X9_useDrawn) (pc := 43) (v := .int (bI ((useF g (drN (sdI s) % np) (yN s) (fareC g sz kf vf (yN s) (drN (sdI (sdI (sdI s))) % 3))).1))) (h1 := hp_sI hq2 (43 + 1) (useF g (drN (sdI s) % np) (yN s) (fareC g sz kf vf (yN s) (drN (sdI (sdI (sdI s))) % 3))).2) (st := []) (d := 4) (bc := 0) (bs := 0) (c_Land_use hst hy2.1 (drN (sdI s) % np) (yN s) (by omega) (by omega) (hu.ow h6 (by omega)) (fareC g sz kf vf (yN s) (drN (sdI (sdI (sdI s))) % 3))) vv_X2_use dX9_useDrawn_43 wg_1203 (hC2.K43) rfl rfl rfl rfl (Nat.le_of_ble_eq_true rfl) (Nat.le_of_ble_eq_true rfl) (Nat.le_of_ble_eq_true rfl) (Nat.le_of_ble_eq_true rfl) ?_
  refine ww_if_eqB (tgt := 69) dX9_useDrawn_46 (by decide) (fun c46 => ?_) (fun c46 => ?_)
  · refine ww_aload_n dX9_useDrawn_69 rfl rfl ?_
    refine ww_dup dX9_useDrawn_70 rfl ?_
    refine ww_get 4 dX9_useDrawn_71 (hC2.K42) rfl (by decide) inX9 wg_251 hy2.2.2.2.1 ?_
    refine ww_iconst (v := nI 1) dX9_useDrawn_74 (by decide) ?_
    refine ww_iaddN dX9_useDrawn_75 ?_
    refine ww_pfI tyX9 4 dX9_useDrawn_76 (hC2.K42) rfl (by decide) inX9 tyX9_ok nmX9 wg_251 rfl rfl ?_
    exact ww_vret dX9_useDrawn_79 rfl ⟨rfl, (t2.sI (by decide)).sF (by decide), by have hx := (hy2.row (g' := (useF g (drN (sdI s) % np) (yN s) (fareC g sz kf vf (yN s) (drN (sdI (sdI (sdI s))) % 3))).2)).ref (r' := r + 1); simp only [yT, yU, c46, if_false, Bool.false_eq_true]; exact hx⟩
  · refine ww_aload_n dX9_useDrawn_49 rfl rfl ?_
    refine ww_dup dX9_useDrawn_50 rfl ?_
    refine ww_get 3 dX9_useDrawn_51 (hC2.K42) rfl (by decide) inX9 wg_249 hy2.2.2.1 ?_
    refine ww_iconst (v := nI 1) dX9_useDrawn_54 (by decide) ?_
    refine ww_iaddN dX9_useDrawn_55 ?_
    refine ww_pfI tyX9 3 dX9_useDrawn_56 (hC2.K42) rfl (by decide) inX9 tyX9_ok nmX9 wg_249 rfl rfl ?_
    refine ww_aload_n dX9_useDrawn_59 rfl rfl ?_
    refine ww_get 1 dX9_useDrawn_60 (hC2.K42) rfl (by decide) inX9 wg_247 (hp_F_nj (by decide) (hC2.R42_1)) ?_
    refine ww_iload_n dX9_useDrawn_63 rfl rfl ?_
    refine ww_iconst (v := nI 1) dX9_useDrawn_64 (by decide) ?_
    refine ww_zastF dX9_useDrawn_65 (hC2.K45) (hp_I_sF (hp_I_nx (by omega) rfl)) (by omega) (by omega) (by decide) ?_
    refine ww_goto (tgt := 79) dX9_useDrawn_66 (by decide) ?_
    exact ww_vret dX9_useDrawn_79 rfl ⟨rfl, ((t2.sI (by decide)).sF (by decide)).sI (by decide), by have hx := (hy2.row (g' := (useF g (drN (sdI s) % np) (yN s) (fareC g sz kf vf (yN s) (drN (sdI (sdI (sdI s))) % 3))).2)).met (dn' := dn + 1) hn9; simp only [yT, yU, c46, if_true]; exact hx⟩
/-- in the midst of the class's year -/
def YL (sz : Nat) (kf vf : Nat → Int32) (np du : Nat) (g0 : Nat → Int32) (sd : Int32) (k : Nat) (h hq : PH) : Prop := Same CX CY h hq ∧ YrAt hq np du (yF sz kf vf np g0 sd k).1 (yF sz kf vf np g0 sd k).2.1 (yF sz kf vf np g0 sd k).2.2.1 (k - (yF sz kf vf np g0 sd k).2.2.1) (yF sz kf vf np g0 sd k).2.2.2
theorem YrAt.day {h : PH} {np du : Nat} {g mt : Nat → Int32} {s : Int32} {dn r : Nat} (hY : YrAt h np du g s dn r mt) : YrAt (hp_sI h (43 + 1) (dayF g)) np du (dayF g) s dn r mt := hY.row
theorem yF_s1 {sz : Nat} {kf vf : Nat → Int32} {np : Nat} {f : Nat → Int32} {sd : Int32} {k : Nat} (h8 : (k + 1) % 8 ≠ 0) : yF sz kf vf np f sd (k + 1) = yT sz kf vf np (yF sz kf vf np f sd k) := if_neg h8
theorem yF_s2 {sz : Nat} {kf vf : Nat → Int32} {np : Nat} {f : Nat → Int32} {sd : Int32} {k : Nat} (h8 : (k + 1) % 8 = 0) : yF sz kf vf np f sd (k + 1) = (dayF (yT sz kf vf np (yF sz kf vf np f sd k)).1, (yT sz kf vf np (yF sz kf vf np f sd k)).2) := if_pos h8
theorem yT_r {sz : Nat} {kf vf : Nat → Int32} {np k : Nat} {x : YS} (hd : x.2.2.1 ≤ k) : (if (yU sz kf vf np x).1 = true then k - x.2.2.1 else k - x.2.2.1 + 1) = k + 1 - (yT sz kf vf np x).2.2.1 := by
  unfold yT
  generalize yU sz kf vf np x = u
  cases u.1 with
  | true => simp only [if_true]; omega
  | false => simp only [Bool.false_eq_true, if_false]; omega
theorem YL.step {sz : Nat} {kf vf : Nat → Int32} {np du : Nat} {g0 : Nat → Int32} {sd : Int32} {k : Nat} {h hq hq2 : PH} (hl : YL sz kf vf np du g0 sd k h hq) (hS : Same CX CY hq hq2)
    (hY : YrAt hq2 np du (yT sz kf vf np (yF sz kf vf np g0 sd k)).1 (yT sz kf vf np (yF sz kf vf np g0 sd k)).2.1 (yT sz kf vf np (yF sz kf vf np g0 sd k)).2.2.1 (if (yU sz kf vf np (yF sz kf vf np g0 sd k)).1 = true then k - (yF sz kf vf np g0 sd k).2.2.1 else k - (yF sz kf vf np g0 sd k).2.2.1 + 1) (yT sz kf vf np (yF sz kf vf np g0 sd k)).2.2.2) :
    ((k + 1) % 8 ≠ 0 → YL sz kf vf np du g0 sd (k + 1) h hq2) ∧ ((k + 1) % 8 = 0 → YL sz kf vf np du g0 sd (k + 1) h (hp_sI hq2 (43 + 1) (dayF (yT sz kf vf np (yF sz kf vf np g0 sd k)).1))) := by
  have hd := yF_dn sz kf vf np g0 sd k
  rw [yT_r hd] at hY
  constructor
  · intro h8
    refine ⟨hl.1.tr hS, ?_⟩
    rw [yF_s1 h8]
    exact hY
  · intro h8
    refine ⟨(hl.1.tr hS).sI (by decide), ?_⟩
    rw [yF_s2 h8]
    exact hY.day
set_option maxHeartbeats 4000000 in
set_option maxRecDepth 100000 in
theorem l_Yr_live {l : Launch} {Z : EE} (hst : l.stackTraces = false) {h : PH} {la lw bk : Nat} (hC : CL h la lw bk) {np du : Nat} {f0 : Nat → Int32} (hL : LandAt h la np du f0) {sz : Nat} {kf vf : Nat → Int32} (hW : LawAt h lw sz kf vf) (hok : LawOK kf vf sz) {g0 : Nat → Int32} (sd : Int32) (us : Nat) (hus : us ≤ 96) (h0 : 0 < np) (hu : RowU g0 np) : ∀ (j k : Nat) (hq : PH), YL sz kf vf np du g0 sd k h hq → k + j = us → WW l Z m_X9_live 5 0 0 61 [.ref 42, .ref la, .ref lw, .int sd, .int (nI us), .int (nI (k + 1))] [] hq (RQ none (fun h9 => YL sz kf vf np du g0 sd us h h9)) := by
  have h6 := hL.2.2.2.2.2.2.1
  intro j
  induction j with
  | zero =>
    intro k hq hl hk
    have hk0 : k = us := by omega
    subst hk0
    have hCq := hC.scr hl.1
    have hLq := hL.scr hC hl.1
    have hWq := hW.scr hC hl.1
    refine ww_iload dX9_live_61 rfl ?_
    refine ww_iload dX9_live_63 rfl ?_
    refine ww_icmp_gtN (tgt := 94) dX9_live_65 (by decide) (by omega) (by omega) (fun c65 => ?_) (fun c65 => ?_)
    · exact ww_vret dX9_live_94 rfl ⟨rfl, hl⟩
    · exfalso; omega
  | succ j ih =>
    intro k hq hl hk
    have hCq := hC.scr hl.1
    have hLq := hL.scr hC hl.1
    have hWq := hW.scr hC hl.1
    have hd9 := yF_dn sz kf vf np g0 sd k
    have hu9 := yF_u sz kf vf sd h0 h6 hu k
    refine ww_iload dX9_live_61 rfl ?_
    refine ww_iload dX9_live_63 rfl ?_
    refine ww_icmp_gtN (tgt := 94) dX9_live_65 (by decide) (by omega) (by omega) (fun c65 => ?_) (fun c65 => ?_)
    · exfalso; omega
    · refine ww_aload_n dX9_live_68 rfl rfl ?_
      refine ww_aload_n dX9_live_69 rfl rfl ?_
      refine ww_cVq0 (M := m_X9_live) (pc := 70) (st := []) (d := 5) (bc := 0) (bs := 0) (c_Yr_useDrawn hst hCq hLq hWq hok hl.2 h0 hu9 (by omega) (by omega)) vv_X9_useDrawn dX9_live_70 wg_1193 (hCq.K42) rfl rfl rfl rfl (Nat.le_of_ble_eq_true rfl) (Nat.le_of_ble_eq_true rfl) (Nat.le_of_ble_eq_true rfl) (Nat.le_of_ble_eq_true rfl) (fun hq2 qq2 => ?_)
      have hst2 := hl.step qq2.1 qq2.2
      have hC2 := hC.scr (hl.1.tr qq2.1)
      refine ww_iload dX9_live_73 rfl ?_
      refine ww_bipush (v := nI 8) dX9_live_75 (by decide) ?_
      refine ww_iremN dX9_live_77 (by omega) (by omega) (by omega) ?_
      refine ww_if_neN (tgt := 88) dX9_live_78 (by decide) (by omega) (fun c78 => ?_) (fun c78 => ?_)
      · refine ww_incN (c := 1) (lv2 := [.ref 42, .ref la, .ref lw, .int sd, .int (nI us), .int (nI (k + 1 + 1))]) dX9_live_88 rfl rfl rfl (by decide) rfl ?_
        refine ww_goto (tgt := 61) dX9_live_91 (by decide) ?_
        exact ih (k + 1) _ (hst2.1 (by omega)) (by omega)
      · refine ww_aload_n dX9_live_81 rfl rfl ?_
        refine ww_get 0 dX9_live_82 hC2.K42 rfl (by decide) inX9 wg_245 hC2.R42_0 ?_
        refine ww_cV0 (M := m_X9_live) (pc := 85) (h1 := hp_sI hq2 (43 + 1) (dayF (yT sz kf vf np (yF sz kf vf np g0 sd k)).1)) (st := []) (d := 5) (bc := 0) (bs := 0) (c_Land_nextDay hst qq2.2.1) vv_X2_nextDay dX9_live_85 wg_1204 hC2.K43 rfl rfl rfl rfl (Nat.le_of_ble_eq_true rfl) (Nat.le_of_ble_eq_true rfl) (Nat.le_of_ble_eq_true rfl) (Nat.le_of_ble_eq_true rfl) ?_
        refine ww_incN (c := 1) (lv2 := [.ref 42, .ref la, .ref lw, .int sd, .int (nI us), .int (nI (k + 1 + 1))]) dX9_live_88 rfl rfl rfl (by decide) rfl ?_
        refine ww_goto (tgt := 61) dX9_live_91 (by decide) ?_
        exact ih (k + 1) _ (hst2.2 (by omega)) (by omega)
set_option maxHeartbeats 4000000 in
set_option maxRecDepth 100000 in
theorem l_Yr_clear {l : Launch} {Z : EE} (hst : l.stackTraces = false) {h : PH} {la lw bk : Nat} (hC : CL h la lw bk) (sd : Int32) (us : Nat) {Post : Res → PH → Prop} : ∀ (j k : Nat) (hq : PH), Same (fun c => c = 45) (fun _ _ => False) h hq → k + j = 61 → (∀ i, i < k → hp_I hq 45 i = nI 0) → (∀ h9, Same (fun c => c = 45) (fun _ _ => False) h h9 → (∀ i, i < 61 → hp_I h9 45 i = nI 0) → WW l Z m_X9_live 5 0 0 47 [.ref 42, .ref la, .ref lw, .int sd, .int (nI us), .int (nI 61)] [] h9 Post) → WW l Z m_X9_live 5 0 0 26 [.ref 42, .ref la, .ref lw, .int sd, .int (nI us), .int (nI k)] [] hq Post := by
  intro j
  induction j with
  | zero =>
    intro k hq hS hk hz hex
    have hk0 : k = 61 := by omega
    subst hk0
    refine ww_iload dX9_live_26 rfl ?_
    refine ww_bipush (v := nI 60) dX9_live_28 (by decide) ?_
    refine ww_icmp_gtN (tgt := 47) dX9_live_30 (by decide) (by omega) (by omega) (fun c30 => ?_) (fun c30 => ?_)
    · exact hex hq hS hz
    · exfalso; omega
  | succ j ih =>
    intro k hq hS hk hz hex
    refine ww_iload dX9_live_26 rfl ?_
    refine ww_bipush (v := nI 60) dX9_live_28 (by decide) ?_
    refine ww_icmp_gtN (tgt := 47) dX9_live_30 (by decide) (by omega) (by omega) (fun c30 => ?_) (fun c30 => ?_)
    · exfalso; omega
    · refine ww_aload_n dX9_live_33 rfl rfl ?_
      refine ww_get 1 dX9_live_34 ((hS.2.1 42).trans hC.K42) rfl (by decide) inX9 wg_247 ((hS.2.2.1 42 1 (by decide)).trans hC.R42_1) ?_
      refine ww_iload dX9_live_37 rfl ?_
      refine ww_iconst (v := nI 0) dX9_live_39 (by decide) ?_
      refine ww_zastF dX9_live_40 ((hS.2.1 45).trans hC.K45) rfl (by omega) (by omega) (by decide) ?_
      refine ww_incN (c := 1) (lv2 := [.ref 42, .ref la, .ref lw, .int sd, .int (nI us), .int (nI (k + 1))]) dX9_live_41 rfl rfl rfl (by decide) rfl ?_
      refine ww_goto (tgt := 26) dX9_live_44 (by decide) ?_
      refine ih (k + 1) _ (Same.sI hS (by exact rfl)) (by omega) (fun i hi => ?_) hex
      rw [hp_I_eq]
      by_cases e : i = k
      · subst e; exact pk_us
      · rw [pk_un e]; exact hz i (by omega)
theorem RowU.cg {f g : Nat → Int32} {np : Nat} (h : RowU f np) (e : ∀ i, i < 190 → g i = f i) : RowU g np := ⟨fun n hn => by rw [e n (by omega)]; exact h.1 n hn, fun q hq => by rw [e (183 + q) (by omega)]; exact h.2 q hq⟩
set_option maxHeartbeats 4000000 in
set_option maxRecDepth 100000 in
theorem c_Yr_live {l : Launch} {Z : EE} (hst : l.stackTraces = false) {h : PH} {la lw bk : Nat} (hC : CL h la lw bk) {np du : Nat} {f0 : Nat → Int32} (hL : LandAt h la np du f0) {sz : Nat} {kf vf : Nat → Int32} (hW : LawAt h lw sz kf vf) (hok : LawOK kf vf sz) {np0 du0 : Nat} {g : Nat → Int32} (hY0 : LandAt h 43 np0 du0 g) (hu : RowU f0 np) (sd : Int32) (us : Nat) (hus : us ≤ 96) : CC l Z m_X9_live 5 0 0 [.ref 42, .ref la, .ref lw, .int sd, .int (nI us)] h (RQ none (fun h9 => (np = 0 ∧ Same CX CY h h9 ∧ LandAt h9 43 np du (fun i => if i < 190 then f0 i else g i) ∧ hp_F h9 42 3 = .int (nI 0) ∧ hp_F h9 42 4 = .int (nI 0) ∧ ∀ i, i < 61 → hp_I h9 45 i = nI 0) ∨ (0 < np ∧ YL sz kf vf np du (fun i => if i < 190 then f0 i else g i) sd us h h9))) := by
  refine ee_entry hst (by decide +kernel) rfl rfl (by simp [Value.category]) (Nat.le_of_ble_eq_true rfl) ?_
  refine ww_lv (lv2 := [.ref 42, .ref la, .ref lw, .int sd, .int (nI us), UU]) rfl ?_
  have hla := hC.la
  have hlw := hC.lw
  have hbk := hC.bk
  have h6 := hL.2.2.2.2.2.2.1
  refine ww_aload_n dX9_live_0 rfl rfl ?_
  refine ww_get 0 dX9_live_1 (hC.K42) rfl (by decide) inX9 wg_245 (hC.R42_0) ?_
  refine ww_aload_n dX9_live_4 rfl rfl ?_
  refine ww_cV0 (M := m_X9_live) (pc := 5) (h1 := hp_sF (hp_sF (hp_sI h (43 + 1) (fun i => if i < 190 then f0 i else g i)) 43 1 (.int (nI np))) 43 2 (.int (nI du))) (st := []) (d := 5) (bc := 0) (bs := 0) (c_Land_become hst hC.la hL hY0) vv_X2_become dX9_live_5 wg_1188 hC.K43 rfl rfl rfl rfl (Nat.le_of_ble_eq_true rfl) (Nat.le_of_ble_eq_true rfl) (Nat.le_of_ble_eq_true rfl) (Nat.le_of_ble_eq_true rfl) ?_
  refine ww_aload_n dX9_live_8 rfl rfl ?_
  refine ww_iload_n dX9_live_9 rfl rfl ?_
  refine ww_pfI tyX9 2 dX9_live_10 (hC.K42) rfl (by decide) inX9 tyX9_ok nmX9 wg_248 rfl rfl ?_
  refine ww_aload_n dX9_live_13 rfl rfl ?_
  refine ww_iconst (v := nI 0) dX9_live_14 (by decide) ?_
  refine ww_pfI tyX9 3 dX9_live_15 (hC.K42) rfl (by decide) inX9 tyX9_ok nmX9 wg_249 rfl rfl ?_
  refine ww_aload_n dX9_live_18 rfl rfl ?_
  refine ww_iconst (v := nI 0) dX9_live_19 (by decide) ?_
  refine ww_pfI tyX9 4 dX9_live_20 (hC.K42) rfl (by decide) inX9 tyX9_ok nmX9 wg_251 rfl rfl ?_
  refine ww_iconst (v := nI 0) dX9_live_23 (by decide) ?_
  refine ww_sti (lv2 := [.ref 42, .ref la, .ref lw, .int sd, .int (nI us), .int (nI 0)]) dX9_live_24 rfl (by decide) rfl ?_
  have t1 : Same CX CY h (hp_sF (hp_sF (hp_sF (hp_sF (hp_sF (hp_sI h (43 + 1) (fun i => if i < 190 then f0 i else g i)) 43 1 (.int (nI np))) 43 2 (.int (nI du))) 42 2 (.int sd)) 42 3 (.int (nI 0))) 42 4 (.int (nI 0))) := (((((Same.rf.sI (by decide)).sF (by decide)).sF (by decide)).sF (by decide)).sF (by decide)).sF (by decide)
  have l1 : LandAt (hp_sF (hp_sF (hp_sF (hp_sF (hp_sF (hp_sI h (43 + 1) (fun i => if i < 190 then f0 i else g i)) 43 1 (.int (nI np))) 43 2 (.int (nI du))) 42 2 (.int sd)) 42 3 (.int (nI 0))) 42 4 (.int (nI 0))) 43 np du (fun i => if i < 190 then f0 i else g i) := ⟨hC.K43, hC.K44, (hp_F_nj (by decide) (hp_F_nj (by decide) (hp_F_nj (by decide) (hp_F_nj (by decide) (hp_F_nj (by decide) hC.R43_0))))), (hp_F_nj (by decide) (hp_F_nj (by decide) (hp_F_nj (by decide) (hp_F_nj (by decide) (hp_F_eq _ _ _ _))))), (hp_F_nj (by decide) (hp_F_nj (by decide) (hp_F_na (by omega) (hp_F_eq _ _ _ _)))), (hp_I_sF (hp_I_sF (hp_I_sF (hp_I_sF (hp_I_sF (hp_I_eq _ _ _)))))), hL.2.2.2.2.2.2⟩
  have f2 : hp_F (hp_sF (hp_sF (hp_sF (hp_sF (hp_sF (hp_sI h (43 + 1) (fun i => if i < 190 then f0 i else g i)) 43 1 (.int (nI np))) 43 2 (.int (nI du))) 42 2 (.int sd)) 42 3 (.int (nI 0))) 42 4 (.int (nI 0))) 42 2 = .int sd := (hp_F_nj (by decide) (hp_F_nj (by decide) (hp_F_eq _ _ _ _)))
  have f3 : hp_F (hp_sF (hp_sF (hp_sF (hp_sF (hp_sF (hp_sI h (43 + 1) (fun i => if i < 190 then f0 i else g i)) 43 1 (.int (nI np))) 43 2 (.int (nI du))) 42 2 (.int sd)) 42 3 (.int (nI 0))) 42 4 (.int (nI 0))) 42 3 = .int (nI 0) := (hp_F_nj (by decide) (hp_F_eq _ _ _ _))
  have f4 : hp_F (hp_sF (hp_sF (hp_sF (hp_sF (hp_sF (hp_sI h (43 + 1) (fun i => if i < 190 then f0 i else g i)) 43 1 (.int (nI np))) 43 2 (.int (nI du))) 42 2 (.int sd)) 42 3 (.int (nI 0))) 42 4 (.int (nI 0))) 42 4 = .int (nI 0) := (hp_F_eq _ _ _ _)
  generalize hp_sF (hp_sF (hp_sF (hp_sF (hp_sF (hp_sI h (43 + 1) (fun i => if i < 190 then f0 i else g i)) 43 1 (.int (nI np))) 43 2 (.int (nI du))) 42 2 (.int sd)) 42 3 (.int (nI 0))) 42 4 (.int (nI 0)) = hq1 at t1 l1 f2 f3 f4 ⊢
  have hC1 := hC.scr t1
  refine l_Yr_clear hst hC1 sd us 61 0 hq1 Same.rf rfl (fun i hi => absurd hi (Nat.not_lt_zero _)) (fun h9 s9 z9 => ?_)
  have t2 : Same CX CY h h9 := t1.tr (s9.mono (fun c e => by subst e; decide) (fun _ _ e => e.elim))
  have l2 := l1.same s9 (by decide) (fun _ e => e)
  have hC2 := hC.scr t2
  have f32 := (s9.2.2.1 42 2 (fun e => e)).trans f2
  have f33 := (s9.2.2.1 42 3 (fun e => e)).trans f3
  have f34 := (s9.2.2.1 42 4 (fun e => e)).trans f4
  refine ww_aload_n dX9_live_47 rfl rfl ?_
  refine ww_get 0 dX9_live_48 hC2.K42 rfl (by decide) inX9 wg_245 hC2.R42_0 ?_
  refine ww_getN 1 dX9_live_51 hC2.K43 rfl (by decide) inX2 wn_76 l2.2.2.2.1 ?_
  refine ww_if_neN (tgt := 58) dX9_live_54 (by decide) (by omega) (fun c54 => ?_) (fun c54 => ?_)
  · refine ww_iconst (v := nI 1) dX9_live_58 (by decide) ?_
    refine ww_sti (lv2 := [.ref 42, .ref la, .ref lw, .int sd, .int (nI us), .int (nI 1)]) dX9_live_59 rfl (by decide) rfl ?_
    refine ww_post (fun r h8 hp => ⟨hp.1, Or.inr ⟨c54, hp.2⟩⟩) (l_Yr_live hst hC hL hW hok (g0 := (fun i => if i < 190 then f0 i else g i)) sd us hus c54 (hu.cg (fun i hi => if_pos hi)) us 0 h9 ⟨t2, l2, f32, f33, f34, fun i hi => (z9 i hi).trans rfl⟩ (by omega))
  · exact ww_vret dX9_live_57 rfl ⟨rfl, Or.inl ⟨c54, t2, l2, f33, f34, z9⟩⟩
