/-! ===== undo, images: the class's chain of rows ===== -/
theorem hp_K_nw {h : PH} {t n b : Nat} {fv : Nat → Value} {fi : Nat → Int32} {fl : Nat → Int64} {q : Nat × Nat} (hb : b ≠ hp_N h) (e : hp_K h b = q) : hp_K (hp_new h t n fv fi fl) b = q := (if_neg hb).trans e
theorem hp_K_nq {h : PH} {t n : Nat} {fv : Nat → Value} {fi : Nat → Int32} {fl : Nat → Int64} : hp_K (hp_new h t n fv fi fl) (hp_N h) = (t, n) := if_pos rfl
theorem hp_K_sF {h : PH} {a b k : Nat} {v : Value} {q : Nat × Nat} (e : hp_K h a = q) : hp_K (hp_sF h b k v) a = q := e
theorem hp_K_sI {h : PH} {a b : Nat} {f : Nat → Int32} {q : Nat × Nat} (e : hp_K h a = q) : hp_K (hp_sI h b f) a = q := e
theorem hp_K_sL {h : PH} {a b : Nat} {f : Nat → Int64} {q : Nat × Nat} (e : hp_K h a = q) : hp_K (hp_sL h b f) a = q := e
theorem hp_F_nw {h : PH} {t n b j : Nat} {fv : Nat → Value} {fi : Nat → Int32} {fl : Nat → Int64} {q : Value} (hb : b ≠ hp_N h) (e : hp_F h b j = q) : hp_F (hp_new h t n fv fi fl) b j = q := (congrFun (if_neg hb) j).trans e
theorem hp_F_nq {h : PH} {t n j : Nat} {fv : Nat → Value} {fi : Nat → Int32} {fl : Nat → Int64} {q : Value} (e : fv j = q) : hp_F (hp_new h t n fv fi fl) (hp_N h) j = q := (congrFun (if_pos rfl) j).trans e
theorem hp_I_nw {h : PH} {t n b : Nat} {fv : Nat → Value} {fi : Nat → Int32} {fl : Nat → Int64} {q : Nat → Int32} (hb : b ≠ hp_N h) (e : hp_I h b = q) : hp_I (hp_new h t n fv fi fl) b = q := (if_neg hb).trans e
theorem hp_I_nq {h : PH} {t n : Nat} {fv : Nat → Value} {fi : Nat → Int32} {fl : Nat → Int64} : hp_I (hp_new h t n fv fi fl) (hp_N h) = fi := if_pos rfl
theorem hp_L_nw {h : PH} {t n b : Nat} {fv : Nat → Value} {fi : Nat → Int32} {fl : Nat → Int64} {q : Nat → Int64} (hb : b ≠ hp_N h) (e : hp_L h b = q) : hp_L (hp_new h t n fv fi fl) b = q := (if_neg hb).trans e
theorem hp_L_nq {h : PH} {t n : Nat} {fv : Nat → Value} {fi : Nat → Int32} {fl : Nat → Int64} : hp_L (hp_new h t n fv fi fl) (hp_N h) = fl := if_pos rfl
theorem hp_N_new {h : PH} {t n : Nat} {fv : Nat → Value} {fi : Nat → Int32} {fl : Nat → Int64} : hp_N (hp_new h t n fv fi fl) = hp_N h + 1 := rfl
theorem hp_N_sF {h : PH} {a k : Nat} {v : Value} : hp_N (hp_sF h a k v) = hp_N h := rfl
theorem hp_N_sI {h : PH} {a : Nat} {f : Nat → Int32} : hp_N (hp_sI h a f) = hp_N h := rfl
theorem hp_N_sL {h : PH} {a : Nat} {f : Nat → Int64} : hp_N (hp_sL h a f) = hp_N h := rfl
section WWA
variable {l : Launch} {Z : EE} {M : MM} {d bc bs pc : Nat} {lv st : List Value} {h : PH} {Post : Res → PH → Prop}
theorem ww_aaldN {a n i : Nat} {v : Value} (hd : decode (mm_c M) pc = .ok (.aaload, 1)) (hk : hp_K h a = (23, n)) (hi : i < n) (hn : n < 2 ^ 31) (hv : hp_F h a i = v) (k : WW l Z M d bc bs (pc + 1) lv (v :: st) h Post) : WW l Z M d bc bs pc lv ((.int (nI i)) :: (.ref a) :: st) h Post := ww_aald hd hk (vp_in_nI hi hn) (by rw [nI_clamp (by omega)]; exact hv) k
theorem ww_aastN0 {a n i : Nat} (hd : decode (mm_c M) pc = .ok (.aastore, 1)) (hk : hp_K h a = (23, n)) (hi : i < n) (hn : n < 2 ^ 31) (k : WW l Z M d bc bs (pc + 1) lv st (hp_sF h a i .null) Post) : WW l Z M d bc bs pc lv (.null :: (.int (nI i)) :: (.ref a) :: st) h Post := ww_aastN hd hk (vp_in_nI hi hn) (by rw [nI_clamp (by omega)]; exact k)
theorem ww_aastNR {a n i x : Nat} (hd : decode (mm_c M) pc = .ok (.aastore, 1)) (hk : hp_K h a = (23, n)) (hi : i < n) (hn : n < 2 ^ 31) (hkx : hp_K h x = (4, 3)) (k : WW l Z M d bc bs (pc + 1) lv st (hp_sF h a i (.ref x)) Post) : WW l Z M d bc bs pc lv ((.ref x) :: (.int (nI i)) :: (.ref a) :: st) h Post := ww_aast hd hk (vp_in_nI hi hn) hkx (by rw [nI_clamp (by omega)]; exact k)
theorem ww_aload_nN {n : Fin 4} {i : Nat} (hd : decode (mm_c M) pc = .ok (.aload_n n, 1)) (hi : (n : Nat) = i) (hl : lv[i]? = some .null) (k : WW l Z M d bc bs (pc + 1) lv (.null :: st) h Post) : WW l Z M d bc bs pc lv st h Post := by
  intro p e s m args below meth c ws0 mc ms ws H locs cells slots rls rst C S h1 h2
  have C' := C
  obtain ⟨hx, hb, hr, hml, hown, hts, hlocks, htab, hK, hZ, hst, hnm⟩ := C'
  obtain ⟨hHR, hP, hD, hS, hL, hF, hE⟩ := S
  obtain ⟨v9, q0, q1⟩ := hL.get hl (by intro e9; cases e9)
  have q2 := q0
  cases (show v9 = Value.null from q0)
  refine lv_aload_nN hx hb hd hi q1 ?_
  exact k p e s m args below meth c ws0 mc ms ws H locs cells slots rls _ C ⟨hHR, hP, hD, hS, hL, ⟨q2, hF⟩, hE⟩ h1 h2
end WWA
/-- rows are nothing beyond 190 -/
def RowZ (f : Nat → Int32) : Prop := ∀ i, 190 ≤ i → f i = 0
theorem RowZ.eq {f g : Nat → Int32} (h1 : RowZ f) (h2 : RowZ g) (h : ∀ i, i < 190 → f i = g i) : f = g := by
  funext i
  rcases Nat.lt_or_ge i 190 with e | e
  · exact h i e
  · rw [h1 i e, h2 i e]
theorem cpy_in (f g : Nat → Int32) (i : Nat) : va_cpy f g (nI 0).toNatClampNeg (nI 0).toNatClampNeg (nI 190).toNatClampNeg i = if i < 190 then f i else g i := by
  rw [show (nI 0).toNatClampNeg = 0 by decide, show (nI 190).toNatClampNeg = 190 by decide]
  unfold va_cpy
  by_cases e : i < 190
  · rw [if_pos e]; first | rw [if_pos (by omega), show 0 + (i - 0) = i by omega] | rw [if_pos ⟨Nat.zero_le _, by omega⟩, Nat.zero_add, Nat.sub_zero] | (simp [e])
  · rw [if_neg e]; first | rw [if_neg (by omega)] | (simp [e])
set_option maxHeartbeats 4000000 in
set_option maxRecDepth 100000 in
theorem c_Land_copyOfRow {l : Launch} {Z : EE} (hst : l.stackTraces = false) {h : PH} {a np du : Nat} {f : Nat → Int32} (hN : hp_N h < 1000000) (hL : LandAt h a np du f) : CC l Z m_X2_copyOfRow 1 1 190 [.ref a] h (RT (some (.ref (hp_N h))) (hp_new h 20 190 (fun _ => .null) f (fun _ => 0))) := by
  refine ee_entry hst (by decide +kernel) rfl rfl (by simp [Value.category]) (Nat.le_of_ble_eq_true rfl) ?_
  refine ww_lv (lv2 := [.ref a]) rfl ?_
  refine ww_aload_n dX2_copyOfRow_0 rfl rfl ?_
  refine ww_get 0 dX2_copyOfRow_1 hL.1 rfl (by decide) inX2 wg_74 hL.2.2.1 ?_
  refine ww_clone (M := m_X2_copyOfRow) (pc := 4) (d := 1) (bc := 0) (bs := 0) dX2_copyOfRow_4 (by decide) (Nat.le_of_ble_eq_true rfl) wg_362 wg_363 wg_364 wg_365 wg_366 wn_367 hL.2.1 (by first | assumption | omega | (simp only [hp_N_new, hp_N_sF, hp_N_sI, hp_N_sL]; omega)) ?_
  refine ww_castI dX2_copyOfRow_7 wg_368 hp_K_nq ?_
  exact ww_aret dX2_copyOfRow_10 rfl (Or.inr ⟨_, rfl⟩) ⟨rfl, by rw [hL.2.2.2.2.2.1]⟩
set_option maxHeartbeats 4000000 in
set_option maxRecDepth 100000 in
theorem c_Land_takeRow {l : Launch} {Z : EE} (hst : l.stackTraces = false) {h : PH} {a np du : Nat} {f : Nat → Int32} (hL : LandAt h a np du f) {r : Nat} (hr : hp_K h r = (20, 190)) : CC l Z m_X2_takeRow 1 0 0 [.ref a, .ref r] h (RT none (hp_sI h (a + 1) (fun i => if i < 190 then hp_I h r i else f i))) := by
  refine ee_entry hst (by decide +kernel) rfl rfl (by simp [Value.category]) (Nat.le_of_ble_eq_true rfl) ?_
  refine ww_lv (lv2 := [.ref a, .ref r]) rfl ?_
  refine ww_aload_n dX2_takeRow_0 rfl rfl ?_
  refine ww_ifnull dX2_takeRow_1 ?_
  refine ww_aload_n dX2_takeRow_4 rfl rfl ?_
  refine ww_alenI dX2_takeRow_5 hr ?_
  refine ww_sipush (v := nI 190) dX2_takeRow_6 (by decide) ?_
  refine ww_icmp_neN (tgt := 25) dX2_takeRow_9 (by decide) (by omega) (by omega) (fun c9 => ?_) (fun c9 => ?_)
  · exact absurd c9 (by decide)
  · refine ww_aload_n dX2_takeRow_12 rfl rfl ?_
    refine ww_iconst (v := nI 0) dX2_takeRow_13 (by decide) ?_
    refine ww_aload_n dX2_takeRow_14 rfl rfl ?_
    refine ww_get 0 dX2_takeRow_15 hL.1 rfl (by decide) inX2 wg_74 hL.2.2.1 ?_
    refine ww_iconst (v := nI 0) dX2_takeRow_18 (by decide) ?_
    refine ww_sipush (v := nI 190) dX2_takeRow_19 (by decide) ?_
    refine ww_copy dX2_takeRow_22 (by decide) (Nat.le_of_ble_eq_true rfl) wg_346 wg_348 wg_347 wg_22 hr hL.2.1 (by decide) (by decide) (by decide) (by decide) (by decide) ?_
    exact ww_vret dX2_takeRow_25 rfl ⟨rfl, by rw [show (fun i => if i < 190 then hp_I h r i else f i) = va_cpy (hp_I h r) (hp_I h (a + 1)) (nI 0).toNatClampNeg (nI 0).toNatClampNeg (nI 190).toNatClampNeg from by funext i; rw [cpy_in, hL.2.2.2.2.2.1]]⟩
set_option maxHeartbeats 4000000 in
set_option maxRecDepth 100000 in
theorem c_Past_init0 {l : Launch} {Z : EE} (hst : l.stackTraces = false) {h : PH} {a r : Nat} (hk : hp_K h a = (4, 3)) : CC l Z m_X4_init 1 0 0 [.ref a, .ref r, .null] h (RT none (hp_sF (hp_sF (hp_sF h a 0 (.ref r)) a 1 .null) a 2 (.int (nI 1)))) := by
  refine ee_entry hst (by decide +kernel) rfl rfl (by simp [Value.category]) (Nat.le_of_ble_eq_true rfl) ?_
  refine ww_lv (lv2 := [.ref a, .ref r, .null]) rfl ?_
  refine ww_aload_n dX4_init_0 rfl rfl ?_
  refine ww_objInit dX4_init_1 (by decide) (Nat.le_of_ble_eq_true rfl) wg_372 wg_30 wg_31 ?_
  refine ww_aload_n dX4_init_4 rfl rfl ?_
  refine ww_aload_n dX4_init_5 rfl rfl ?_
  refine ww_putF tyX4 0 dX4_init_6 hk rfl (by decide) inX4 tyX4_ok nmX4 wg_373 rfl rfl rfl (ee_na_ref (Or.inr ⟨_, rfl⟩)) ?_
  refine ww_aload_n dX4_init_9 rfl rfl ?_
  refine ww_aload_nN dX4_init_10 rfl rfl ?_
  refine ww_putF tyX4 1 dX4_init_11 hk rfl (by decide) inX4 tyX4_ok nmX4 wg_375 rfl rfl rfl (ee_na_null (Or.inl ⟨_, rfl⟩)) ?_
  refine ww_aload_n dX4_init_14 rfl rfl ?_
  refine ww_aload_nN dX4_init_15 rfl rfl ?_
  refine ww_ifnonnullN dX4_init_16 ?_
  refine ww_iconst (v := nI 1) dX4_init_19 (by decide) ?_
  refine ww_goto (tgt := 29) dX4_init_20 (by decide) ?_
  refine ww_putF tyX4 2 dX4_init_29 hk rfl (by decide) inX4 tyX4_ok nmX4 wg_377 rfl rfl rfl (by exact ee_na_int) ?_
  exact ww_vret dX4_init_32 rfl ⟨rfl, rfl⟩
set_option maxHeartbeats 4000000 in
set_option maxRecDepth 100000 in
theorem c_Past_init1 {l : Launch} {Z : EE} (hst : l.stackTraces = false) {h : PH} {a r b k : Nat} (hk : hp_K h a = (4, 3)) (hkb : hp_K h b = (4, 3)) (hb : hp_F h b 2 = .int (nI k)) (hne : b ≠ a) : CC l Z m_X4_init 1 0 0 [.ref a, .ref r, .ref b] h (RT none (hp_sF (hp_sF (hp_sF h a 0 (.ref r)) a 1 (.ref b)) a 2 (.int (nI (k + 1))))) := by
  refine ee_entry hst (by decide +kernel) rfl rfl (by simp [Value.category]) (Nat.le_of_ble_eq_true rfl) ?_
  refine ww_lv (lv2 := [.ref a, .ref r, .ref b]) rfl ?_
  refine ww_aload_n dX4_init_0 rfl rfl ?_
  refine ww_objInit dX4_init_1 (by decide) (Nat.le_of_ble_eq_true rfl) wg_372 wg_30 wg_31 ?_
  refine ww_aload_n dX4_init_4 rfl rfl ?_
  refine ww_aload_n dX4_init_5 rfl rfl ?_
  refine ww_putF tyX4 0 dX4_init_6 hk rfl (by decide) inX4 tyX4_ok nmX4 wg_373 rfl rfl rfl (ee_na_ref (Or.inr ⟨_, rfl⟩)) ?_
  refine ww_aload_n dX4_init_9 rfl rfl ?_
  refine ww_aload_n dX4_init_10 rfl rfl ?_
  refine ww_putF tyX4 1 dX4_init_11 hk rfl (by decide) inX4 tyX4_ok nmX4 wg_375 rfl rfl rfl (ee_na_ref (Or.inl ⟨_, rfl⟩)) ?_
  refine ww_aload_n dX4_init_14 rfl rfl ?_
  refine ww_aload_n dX4_init_15 rfl rfl ?_
  refine ww_ifnonnull (tgt := 23) dX4_init_16 (by decide) ?_
  refine ww_aload_n dX4_init_23 rfl rfl ?_
  refine ww_get 2 dX4_init_24 hkb rfl (by decide) inX4 wg_377 (hp_F_nj (by decide) (hp_F_nj (by decide) hb)) ?_
  refine ww_iconst (v := nI 1) dX4_init_27 (by decide) ?_
  refine ww_iaddN dX4_init_28 ?_
  refine ww_putF tyX4 2 dX4_init_29 hk rfl (by decide) inX4 tyX4_ok nmX4 wg_377 rfl rfl rfl (by exact ee_na_int) ?_
  exact ww_vret dX4_init_32 rfl ⟨rfl, rfl⟩
set_option maxHeartbeats 4000000 in
set_option maxRecDepth 100000 in
theorem c_K_worksKept0 {l : Launch} {Z : EE} (hst : l.stackTraces = false) {h : PH} {la lw bk : Nat} (hC : CL h la lw bk) (hpa : hp_F h 0 8 = .null) : CC l Z m_X10_worksKept 0 0 0 [.ref 0] h (RT (some (.int (nI 0))) h) := by
  refine ee_entry hst (by decide +kernel) rfl rfl (by simp [Value.category]) (Nat.le_of_ble_eq_true rfl) ?_
  refine ww_lv (lv2 := [.ref 0]) rfl ?_
  refine ww_aload_n dX10_worksKept_0 rfl rfl ?_
  refine ww_get 8 dX10_worksKept_1 (hC.K0) rfl (by decide) inX10 wg_272 hpa ?_
  refine ww_ifnonnullN dX10_worksKept_4 ?_
  refine ww_iconst (v := nI 0) dX10_worksKept_7 (by decide) ?_
  refine ww_goto (tgt := 18) dX10_worksKept_8 (by decide) ?_
  exact ww_iret dX10_worksKept_18 rfl ⟨rfl, rfl⟩
set_option maxHeartbeats 4000000 in
set_option maxRecDepth 100000 in
theorem c_K_worksKept1 {l : Launch} {Z : EE} (hst : l.stackTraces = false) {h : PH} {la lw bk : Nat} (hC : CL h la lw bk) {b k : Nat} (hpa : hp_F h 0 8 = .ref b) (hkb : hp_K h b = (4, 3)) (hb : hp_F h b 2 = .int (nI k)) : CC l Z m_X10_worksKept 0 0 0 [.ref 0] h (RT (some (.int (nI k))) h) := by
  refine ee_entry hst (by decide +kernel) rfl rfl (by simp [Value.category]) (Nat.le_of_ble_eq_true rfl) ?_
  refine ww_lv (lv2 := [.ref 0]) rfl ?_
  refine ww_aload_n dX10_worksKept_0 rfl rfl ?_
  refine ww_get 8 dX10_worksKept_1 (hC.K0) rfl (by decide) inX10 wg_272 hpa ?_
  refine ww_ifnonnull (tgt := 11) dX10_worksKept_4 (by decide) ?_
  refine ww_aload_n dX10_worksKept_11 rfl rfl ?_
  refine ww_get 8 dX10_worksKept_12 (hC.K0) rfl (by decide) inX10 wg_272 hpa ?_
  refine ww_getN 2 dX10_worksKept_15 hkb rfl (by decide) inX4 wn_378 hb ?_
  exact ww_iret dX10_worksKept_18 rfl ⟨rfl, rfl⟩
set_option maxHeartbeats 4000000 in
set_option maxRecDepth 100000 in
theorem c_K_count0 {l : Launch} {Z : EE} (hst : l.stackTraces = false) {h : PH} {la lw bk : Nat} (hC : CL h la lw bk) {im tp wk : Nat} (him : hp_F h 0 10 = .int (nI im)) (htp : hp_F h 1 1 = .int (nI tp)) (hwk : CC l Z m_X10_worksKept 0 0 0 [.ref 0] h (RT (some (.int (nI wk))) h)) : CC l Z m_X10_count 1 0 0 [.ref 0, .int (nI 0)] h (COk (nI im) h) := by
  refine ee_entry hst (by decide +kernel) rfl rfl (by simp [Value.category]) (Nat.le_of_ble_eq_true rfl) ?_
  refine ww_lv (lv2 := [.ref 0, .int (nI 0)]) rfl ?_
  refine ww_iload_n dX10_count_0 rfl rfl ?_
  refine ww_tableIn (off := 27) (tgt := 28) dX10_count_1 (by decide) (by decide) (by decide) (by decide) ?_
  refine ww_aload_n dX10_count_28 rfl rfl ?_
  refine ww_get 10 dX10_count_29 (hC.K0) rfl (by decide) inX10 wg_274 him ?_
  exact ww_iret dX10_count_32 rfl ⟨rfl, Same.rf⟩
set_option maxHeartbeats 4000000 in
set_option maxRecDepth 100000 in
theorem c_K_count1 {l : Launch} {Z : EE} (hst : l.stackTraces = false) {h : PH} {la lw bk : Nat} (hC : CL h la lw bk) {im tp wk : Nat} (him : hp_F h 0 10 = .int (nI im)) (htp : hp_F h 1 1 = .int (nI tp)) (hwk : CC l Z m_X10_worksKept 0 0 0 [.ref 0] h (RT (some (.int (nI wk))) h)) : CC l Z m_X10_count 1 0 0 [.ref 0, .int (nI 1)] h (COk (nI tp) h) := by
  refine ee_entry hst (by decide +kernel) rfl rfl (by simp [Value.category]) (Nat.le_of_ble_eq_true rfl) ?_
  refine ww_lv (lv2 := [.ref 0, .int (nI 1)]) rfl ?_
  refine ww_iload_n dX10_count_0 rfl rfl ?_
  refine ww_tableIn (off := 32) (tgt := 33) dX10_count_1 (by decide) (by decide) (by decide) (by decide) ?_
  refine ww_aload_n dX10_count_33 rfl rfl ?_
  refine ww_get 0 dX10_count_34 (hC.K0) rfl (by decide) inX10 wg_264 (hC.R0_0) ?_
  refine ww_getN 1 dX10_count_37 (hC.K1) rfl (by decide) inX5 wn_40 htp ?_
  exact ww_iret dX10_count_40 rfl ⟨rfl, Same.rf⟩
set_option maxHeartbeats 4000000 in
set_option maxRecDepth 100000 in
theorem c_K_count2 {l : Launch} {Z : EE} (hst : l.stackTraces = false) {h : PH} {la lw bk : Nat} (hC : CL h la lw bk) {im tp wk : Nat} (him : hp_F h 0 10 = .int (nI im)) (htp : hp_F h 1 1 = .int (nI tp)) (hwk : CC l Z m_X10_worksKept 0 0 0 [.ref 0] h (RT (some (.int (nI wk))) h)) : CC l Z m_X10_count 1 0 0 [.ref 0, .int (nI 2)] h (COk (nI wk) h) := by
  refine ee_entry hst (by decide +kernel) rfl rfl (by simp [Value.category]) (Nat.le_of_ble_eq_true rfl) ?_
  refine ww_lv (lv2 := [.ref 0, .int (nI 2)]) rfl ?_
  refine ww_iload_n dX10_count_0 rfl rfl ?_
  refine ww_tableIn (off := 40) (tgt := 41) dX10_count_1 (by decide) (by decide) (by decide) (by decide) ?_
  refine ww_aload_n dX10_count_41 rfl rfl ?_
  refine ww_cVr (M := m_X10_count) (pc := 42) (v := .int (nI wk)) (h1 := h) (st := []) (d := 1) (bc := 0) (bs := 0) hwk vv_X10_worksKept dX10_count_42 wg_349 (hC.K0) rfl rfl rfl rfl (Nat.le_of_ble_eq_true rfl) (Nat.le_of_ble_eq_true rfl) (Nat.le_of_ble_eq_true rfl) (Nat.le_of_ble_eq_true rfl) ?_
  exact ww_iret dX10_count_45 rfl ⟨rfl, Same.rf⟩
set_option maxHeartbeats 4000000 in
set_option maxRecDepth 100000 in
theorem l_K_drop {l : Launch} {Z : EE} (hst : l.stackTraces = false) {h : PH} {la lw bk : Nat} (hC : CL h la lw bk) (q : Nat) (hq3 : q ≤ 3) : ∀ (j k : Nat) (hq : PH), Same (fun _ => False) (fun a j => (a = 28 ∧ q ≤ j ∧ j < 3) ∨ (a = 0 ∧ j = 10)) h hq → k + j = 3 ∧ q ≤ k → (∀ j, q ≤ j → j < k → hp_F hq 28 j = .null) → WW l Z m_X10_dropImages 0 0 0 2 [.ref 0, .int (nI q), .int (nI k)] [] hq (RQ none (fun h9 => Same (fun _ => False) (fun a j => (a = 28 ∧ q ≤ j ∧ j < 3) ∨ (a = 0 ∧ j = 10)) h h9 ∧ (∀ j, q ≤ j → j < 3 → hp_F h9 28 j = .null) ∧ hp_F h9 0 10 = .int (nI q))) := by
  intro j
  induction j with
  | zero =>
    intro k hq hS hk hz
    have hk0 : k = 3 := by omega
    subst hk0
    refine ww_iload_n dX10_dropImages_2 rfl rfl ?_
    refine ww_iconst (v := nI 3) dX10_dropImages_3 (by decide) ?_
    refine ww_icmp_geN (tgt := 20) dX10_dropImages_4 (by decide) (by omega) (by omega) (fun c4 => ?_) (fun c4 => ?_)
    · refine ww_aload_n dX10_dropImages_20 rfl rfl ?_
      refine ww_iload_n dX10_dropImages_21 rfl rfl ?_
      refine ww_pfI tyX10 10 dX10_dropImages_22 ((hS.2.1 0).trans hC.K0) rfl (by decide) inX10 tyX10_ok nmX10 wg_274 rfl rfl ?_
      exact ww_vret dX10_dropImages_25 rfl ⟨rfl, Same.sF hS (by exact Or.inr ⟨rfl, rfl⟩), fun j h1 h2 => hp_F_na (by omega) (hz j h1 (by omega)), hp_F_eq _ _ _ _⟩
    · exfalso; omega
  | succ j ih =>
    intro k hq hS hk hz
    refine ww_iload_n dX10_dropImages_2 rfl rfl ?_
    refine ww_iconst (v := nI 3) dX10_dropImages_3 (by decide) ?_
    refine ww_icmp_geN (tgt := 20) dX10_dropImages_4 (by decide) (by omega) (by omega) (fun c4 => ?_) (fun c4 => ?_)
    · exfalso; omega
    · refine ww_aload_n dX10_dropImages_7 rfl rfl ?_
      refine ww_get 9 dX10_dropImages_8 ((hS.2.1 0).trans hC.K0) rfl (by decide) inX10 wg_273 ((hS.2.2.1 0 9 (by omega)).trans hC.R0_9) ?_
      refine ww_iload_n dX10_dropImages_11 rfl rfl ?_
      refine ww_null dX10_dropImages_12 ?_
      refine ww_aastN0 dX10_dropImages_13 ((hS.2.1 28).trans hC.K28) (by omega) (by omega) ?_
      refine ww_incN (c := 1) (lv2 := [.ref 0, .int (nI q), .int (nI (k + 1))]) dX10_dropImages_14 rfl rfl rfl (by decide) rfl ?_
      refine ww_goto (tgt := 2) dX10_dropImages_17 (by decide) ?_
      refine ih (k + 1) _ (Same.sF hS (by exact Or.inl ⟨rfl, by omega, by omega⟩)) (by omega) (fun j h1 h2 => ?_)
      by_cases e : j = k
      · subst e; exact hp_F_eq _ _ _ _
      · exact hp_F_nj e (hz j h1 (by omega))
set_option maxHeartbeats 4000000 in
set_option maxRecDepth 100000 in
theorem c_K_drop {l : Launch} {Z : EE} (hst : l.stackTraces = false) {h : PH} {la lw bk : Nat} (hC : CL h la lw bk) (q : Nat) (hq3 : q ≤ 3) : CC l Z m_X10_dropImages 0 0 0 [.ref 0, .int (nI q)] h (RQ none (fun h9 => Same (fun _ => False) (fun a j => (a = 28 ∧ q ≤ j ∧ j < 3) ∨ (a = 0 ∧ j = 10)) h h9 ∧ (∀ j, q ≤ j → j < 3 → hp_F h9 28 j = .null) ∧ hp_F h9 0 10 = .int (nI q))) := by
  refine ee_entry hst (by decide +kernel) rfl rfl (by simp [Value.category]) (Nat.le_of_ble_eq_true rfl) ?_
  refine ww_lv (lv2 := [.ref 0, .int (nI q), UU]) rfl ?_
  refine ww_iload_n dX10_dropImages_0 rfl rfl ?_
  refine ww_sti_n (lv2 := [.ref 0, .int (nI q), .int (nI q)]) dX10_dropImages_1 rfl rfl (by decide) rfl ?_
  exact l_K_drop hst hC q hq3 (3 - q) q h Same.rf (by omega) (fun j h1 h2 => by omega)
set_option maxHeartbeats 4000000 in
set_option maxRecDepth 100000 in
theorem c_K_undo_no {l : Launch} {Z : EE} (hst : l.stackTraces = false) {h : PH} {la lw bk : Nat} (hC : CL h la lw bk) (hpa : hp_F h 0 8 = .null) : CC l Z m_X10_undo 0 0 0 [.ref 0] h (RT (some (.int (-1))) h) := by
  refine ee_entry hst (by decide +kernel) rfl rfl (by simp [Value.category]) (Nat.le_of_ble_eq_true rfl) ?_
  refine ww_lv (lv2 := [.ref 0]) rfl ?_
  refine ww_aload_n dX10_undo_0 rfl rfl ?_
  refine ww_get 8 dX10_undo_1 (hC.K0) rfl (by decide) inX10 wg_272 hpa ?_
  refine ww_ifnonnullN dX10_undo_4 ?_
  refine ww_iconst (v := -1) dX10_undo_7 (by decide) ?_
  exact ww_iret dX10_undo_8 rfl ⟨rfl, rfl⟩
theorem CL.un {h : PH} {la lw bk c : Nat} {g : Nat → Int32} {v w : Value} (hC : CL h la lw bk) : CL (hp_sF (hp_sF (hp_sI h c g) 0 8 v) 0 11 w) la lw bk :=
  have hS : Same (fun x => x = c) (fun a j => a = 0 ∧ (j = 8 ∨ j = 11)) h (hp_sF (hp_sF (hp_sI h c g) 0 8 v) 0 11 w) := by
    refine Same.sF (Same.sF (Same.sI Same.rf ?_) ?_) ?_
    · rfl
    · exact ⟨rfl, Or.inl rfl⟩
    · exact ⟨rfl, Or.inr rfl⟩
  hC.same hS (by decide) (fun j h1 h2 => by omega)
set_option maxHeartbeats 4000000 in
set_option maxRecDepth 100000 in
theorem c_K_undo0 {l : Launch} {Z : EE} (hst : l.stackTraces = false) {h : PH} {la lw bk : Nat} (hC : CL h la lw bk) {np du : Nat} {f : Nat → Int32} (hL : LandAt h la np du f) {a r : Nat} (ha73 : 72 < a) (hpa : hp_F h 0 8 = .ref a) (hka : hp_K h a = (4, 3)) (hkr : hp_K h r = (20, 190)) (h0 : hp_F h a 0 = .ref r) (h1 : hp_F h a 1 = .null) : CC l Z m_X10_undo 2 0 0 [.ref 0] h (RT (some (.int (nI 0))) (hp_sF (hp_sF (hp_sI h (la + 1) (fun i => if i < 190 then hp_I h r i else f i)) 0 8 (.null)) 0 11 (.int (nI 0)))) := by
  refine ee_entry hst (by decide +kernel) rfl rfl (by simp [Value.category]) (Nat.le_of_ble_eq_true rfl) ?_
  refine ww_lv (lv2 := [.ref 0]) rfl ?_
  have hla := hC.la
  have hlw := hC.lw
  have hbk := hC.bk
  refine ww_aload_n dX10_undo_0 rfl rfl ?_
  refine ww_get 8 dX10_undo_1 (hC.K0) rfl (by decide) inX10 wg_272 hpa ?_
  refine ww_ifnonnull (tgt := 9) dX10_undo_4 (by decide) ?_
  refine ww_aload_n dX10_undo_9 rfl rfl ?_
  refine ww_get 1 dX10_undo_10 (hC.K0) rfl (by decide) inX10 wg_265 hC.D1 ?_
  refine ww_aload_n dX10_undo_13 rfl rfl ?_
  refine ww_get 8 dX10_undo_14 (hC.K0) rfl (by decide) inX10 wg_272 hpa ?_
  refine ww_getN 0 dX10_undo_17 hka rfl (by decide) inX4 wn_374 h0 ?_
  refine ww_cV0 (M := m_X10_undo) (pc := 20) (h1 := hp_sI h (la + 1) (fun i => if i < 190 then hp_I h r i else f i)) (st := []) (d := 2) (bc := 0) (bs := 0) (c_Land_takeRow hst hL hkr) vv_X2_takeRow dX10_undo_20 wg_342 hL.1 rfl rfl rfl rfl (Nat.le_of_ble_eq_true rfl) (Nat.le_of_ble_eq_true rfl) (Nat.le_of_ble_eq_true rfl) (Nat.le_of_ble_eq_true rfl) ?_
  refine ww_aload_n dX10_undo_23 rfl rfl ?_
  refine ww_aload_n dX10_undo_24 rfl rfl ?_
  refine ww_get 8 dX10_undo_25 (hC.K0) rfl (by decide) inX10 wg_272 hpa ?_
  refine ww_getN 1 dX10_undo_28 hka rfl (by decide) inX4 wn_376 h1 ?_
  refine ww_put tyX10 8 dX10_undo_31 (hC.K0) rfl (by decide) inX10 tyX10_ok nmX10 wg_272 rfl (ee_na_null (Or.inl ⟨_, rfl⟩)) ?_
  refine ww_aload_n dX10_undo_34 rfl rfl ?_
  refine ww_iconst (v := nI 0) dX10_undo_35 (by decide) ?_
  refine ww_pfI tyX10 11 dX10_undo_36 (hC.K0) rfl (by decide) inX10 tyX10_ok nmX10 wg_275 rfl rfl ?_
  refine ww_aload_n dX10_undo_39 rfl rfl ?_
  refine ww_cVr (M := m_X10_undo) (pc := 40) (v := .int (nI 0)) (h1 := hp_sF (hp_sF (hp_sI h (la + 1) (fun i => if i < 190 then hp_I h r i else f i)) 0 8 (.null)) 0 11 (.int (nI 0))) (st := []) (d := 2) (bc := 0) (bs := 0) (c_K_worksKept0 hst (h := hp_sF (hp_sF (hp_sI h (la + 1) (fun i => if i < 190 then hp_I h r i else f i)) 0 8 (.null)) 0 11 (.int (nI 0))) hC.un (hp_F_nj (by decide) (hp_F_eq _ _ _ _))) vv_X10_worksKept dX10_undo_40 wg_349 (hC.K0) rfl rfl rfl rfl (Nat.le_of_ble_eq_true rfl) (Nat.le_of_ble_eq_true rfl) (Nat.le_of_ble_eq_true rfl) (Nat.le_of_ble_eq_true rfl) ?_
  exact ww_iret dX10_undo_43 rfl ⟨rfl, rfl⟩
set_option maxHeartbeats 4000000 in
set_option maxRecDepth 100000 in
theorem c_K_undo1 {l : Launch} {Z : EE} (hst : l.stackTraces = false) {h : PH} {la lw bk : Nat} (hC : CL h la lw bk) {np du : Nat} {f : Nat → Int32} (hL : LandAt h la np du f) {a r : Nat} (ha73 : 72 < a) (hpa : hp_F h 0 8 = .ref a) (hka : hp_K h a = (4, 3)) (hkr : hp_K h r = (20, 190)) (h0 : hp_F h a 0 = .ref r) {b k : Nat} (h1 : hp_F h a 1 = .ref b) (hb73 : 72 < b) (hkb : hp_K h b = (4, 3)) (hb : hp_F h b 2 = .int (nI k)) : CC l Z m_X10_undo 2 0 0 [.ref 0] h (RT (some (.int (nI k))) (hp_sF (hp_sF (hp_sI h (la + 1) (fun i => if i < 190 then hp_I h r i else f i)) 0 8 (.ref b)) 0 11 (.int (nI 0)))) := by
  refine ee_entry hst (by decide +kernel) rfl rfl (by simp [Value.category]) (Nat.le_of_ble_eq_true rfl) ?_
  refine ww_lv (lv2 := [.ref 0]) rfl ?_
  have hla := hC.la
  have hlw := hC.lw
  have hbk := hC.bk
  refine ww_aload_n dX10_undo_0 rfl rfl ?_
  refine ww_get 8 dX10_undo_1 (hC.K0) rfl (by decide) inX10 wg_272 hpa ?_
  refine ww_ifnonnull (tgt := 9) dX10_undo_4 (by decide) ?_
  refine ww_aload_n dX10_undo_9 rfl rfl ?_
  refine ww_get 1 dX10_undo_10 (hC.K0) rfl (by decide) inX10 wg_265 hC.D1 ?_
  refine ww_aload_n dX10_undo_13 rfl rfl ?_
  refine ww_get 8 dX10_undo_14 (hC.K0) rfl (by decide) inX10 wg_272 hpa ?_
  refine ww_getN 0 dX10_undo_17 hka rfl (by decide) inX4 wn_374 h0 ?_
  refine ww_cV0 (M := m_X10_undo) (pc := 20) (h1 := hp_sI h (la + 1) (fun i => if i < 190 then hp_I h r i else f i)) (st := []) (d := 2) (bc := 0) (bs := 0) (c_Land_takeRow hst hL hkr) vv_X2_takeRow dX10_undo_20 wg_342 hL.1 rfl rfl rfl rfl (Nat.le_of_ble_eq_true rfl) (Nat.le_of_ble_eq_true rfl) (Nat.le_of_ble_eq_true rfl) (Nat.le_of_ble_eq_true rfl) ?_
  refine ww_aload_n dX10_undo_23 rfl rfl ?_
  refine ww_aload_n dX10_undo_24 rfl rfl ?_
  refine ww_get 8 dX10_undo_25 (hC.K0) rfl (by decide) inX10 wg_272 hpa ?_
  refine ww_getN 1 dX10_undo_28 hka rfl (by decide) inX4 wn_376 h1 ?_
  refine ww_put tyX10 8 dX10_undo_31 (hC.K0) rfl (by decide) inX10 tyX10_ok nmX10 wg_272 rfl (ee_na_ref (Or.inl ⟨_, rfl⟩)) ?_
  refine ww_aload_n dX10_undo_34 rfl rfl ?_
  refine ww_iconst (v := nI 0) dX10_undo_35 (by decide) ?_
  refine ww_pfI tyX10 11 dX10_undo_36 (hC.K0) rfl (by decide) inX10 tyX10_ok nmX10 wg_275 rfl rfl ?_
  refine ww_aload_n dX10_undo_39 rfl rfl ?_
  refine ww_cVr (M := m_X10_undo) (pc := 40) (v := .int (nI k)) (h1 := hp_sF (hp_sF (hp_sI h (la + 1) (fun i => if i < 190 then hp_I h r i else f i)) 0 8 (.ref b)) 0 11 (.int (nI 0))) (st := []) (d := 2) (bc := 0) (bs := 0) (c_K_worksKept1 hst (h := hp_sF (hp_sF (hp_sI h (la + 1) (fun i => if i < 190 then hp_I h r i else f i)) 0 8 (.ref b)) 0 11 (.int (nI 0))) hC.un (hp_F_nj (by decide) (hp_F_eq _ _ _ _)) hkb (hp_F_nj (by decide) (hp_F_nj (by decide) hb))) vv_X10_worksKept dX10_undo_40 wg_349 (hC.K0) rfl rfl rfl rfl (Nat.le_of_ble_eq_true rfl) (Nat.le_of_ble_eq_true rfl) (Nat.le_of_ble_eq_true rfl) (Nat.le_of_ble_eq_true rfl) ?_
  exact ww_iret dX10_undo_43 rfl ⟨rfl, rfl⟩
theorem LandAt.nw {h : PH} {a np du t n : Nat} {f : Nat → Int32} {fv : Nat → Value} {fi : Nat → Int32} {fl : Nat → Int64} (hL : LandAt h a np du f) (h1 : a ≠ hp_N h) (h2 : a + 1 ≠ hp_N h) : LandAt (hp_new h t n fv fi fl) a np du f :=
  ⟨hp_K_nw h1 hL.1, hp_K_nw h2 hL.2.1, hp_F_nw h1 hL.2.2.1, hp_F_nw h1 hL.2.2.2.1, hp_F_nw h1 hL.2.2.2.2.1, hp_I_nw h2 hL.2.2.2.2.2.1, hL.2.2.2.2.2.2⟩
set_option maxHeartbeats 4000000 in
set_option maxRecDepth 100000 in
theorem c_K_image0 {l : Launch} {Z : EE} (hst : l.stackTraces = false) {h : PH} {la lw bk : Nat} (hC : CL h la lw bk) {np du : Nat} {f : Nat → Int32} (hL : LandAt h la np du f) {im : Nat} (hN1 : 72 < hp_N h) (hN2 : hp_N h < 999990) (hpa : hp_F h 0 8 = .null) (him : hp_F h 0 10 = .int (nI im)) (him3 : im < 3) : CC l Z m_X10_image 2 2 193 [.ref 0] h (RT (some (.int (nI (im + 1)))) (hp_sF (hp_sF (hp_sF (hp_sF (hp_sF (hp_new (hp_new h 4 3 (vp_V [.null, .null, .int 0]) (fun _ => 0) (fun _ => 0)) 20 190 (fun _ => .null) f (fun _ => 0)) (hp_N h) 0 (.ref (hp_N h + 1))) (hp_N h) 1 (.null)) (hp_N h) 2 (.int (nI 1))) 28 im (.ref (hp_N h))) 0 10 (.int (nI (im + 1))))) := by
  refine ee_entry hst (by decide +kernel) rfl rfl (by simp [Value.category]) (Nat.le_of_ble_eq_true rfl) ?_
  refine ww_lv (lv2 := [.ref 0]) rfl ?_
  have hla := hC.la
  have hlw := hC.lw
  have hbk := hC.bk
  refine ww_aload_n dX10_image_0 rfl rfl ?_
  refine ww_get 10 dX10_image_1 (hC.K0) rfl (by decide) inX10 wg_274 him ?_
  refine ww_iconst (v := nI 3) dX10_image_4 (by decide) ?_
  refine ww_icmp_ltN (tgt := 10) dX10_image_5 (by decide) (by omega) (by omega) (fun c5 => ?_) (fun c5 => ?_)
  · refine ww_aload_n dX10_image_10 rfl rfl ?_
    refine ww_get 9 dX10_image_11 (hC.K0) rfl (by decide) inX10 wg_273 (hC.R0_9) ?_
    refine ww_aload_n dX10_image_14 rfl rfl ?_
    refine ww_get 10 dX10_image_15 (hC.K0) rfl (by decide) inX10 wg_274 him ?_
    refine ww_new (M := m_X10_image) (pc := 18) (bc := 1) (bs := 190) (t := 4) tyX4 [.null, .null, .int 0] dX10_image_18 rfl inX4 tyX4_ok wg_160 wg_357 wg_21 rfl (by decide) (by first | assumption | omega | (simp only [hp_N_new, hp_N_sF, hp_N_sI, hp_N_sL]; omega)) ?_
    refine ww_dup dX10_image_21 rfl ?_
    refine ww_aload_n dX10_image_22 rfl rfl ?_
    refine ww_get 1 dX10_image_23 (hp_K_nw (show (0 : Nat) ≠ hp_N h by omega) (hC.K0)) rfl (by decide) inX10 wg_265 (hp_F_nw (show (0 : Nat) ≠ hp_N h by omega) hC.D1) ?_
    refine ww_cVr (M := m_X10_image) (pc := 26) (v := .ref (hp_N h + 1)) (h1 := hp_new (hp_new h 4 3 (vp_V [.null, .null, .int 0]) (fun _ => 0) (fun _ => 0)) 20 190 (fun _ => .null) f (fun _ => 0)) (st := [.ref (hp_N h), .ref (hp_N h), .int (nI im), .ref 28]) (d := 2) (bc := 0) (bs := 0) (c_Land_copyOfRow hst (h := hp_new h 4 3 (vp_V [.null, .null, .int 0]) (fun _ => 0) (fun _ => 0)) (by simp only [hp_N_new]; omega) (hL.nw (by omega) (by omega))) vv_X2_copyOfRow dX10_image_26 wg_358 (hp_K_nw (show la ≠ hp_N h by omega) hL.1) rfl rfl rfl rfl (Nat.le_of_ble_eq_true rfl) (Nat.le_of_ble_eq_true rfl) (Nat.le_of_ble_eq_true rfl) (Nat.le_of_ble_eq_true rfl) ?_
    refine ww_aload_n dX10_image_29 rfl rfl ?_
    refine ww_get 8 dX10_image_30 (hp_K_nw (show (0 : Nat) ≠ hp_N h + 1 by omega) (hp_K_nw (show (0 : Nat) ≠ hp_N h by omega) (hC.K0))) rfl (by decide) inX10 wg_272 (hp_F_nw (show (0 : Nat) ≠ hp_N h + 1 by omega) (hp_F_nw (show (0 : Nat) ≠ hp_N h by omega) hpa)) ?_
    refine ww_cI0 (M := m_X10_image) (pc := 33) (h1 := hp_sF (hp_sF (hp_sF (hp_new (hp_new h 4 3 (vp_V [.null, .null, .int 0]) (fun _ => 0) (fun _ => 0)) 20 190 (fun _ => .null) f (fun _ => 0)) (hp_N h) 0 (.ref (hp_N h + 1))) (hp_N h) 1 (.null)) (hp_N h) 2 (.int (nI 1))) (st := [.ref (hp_N h), .int (nI im), .ref 28]) (d := 2) (bc := 0) (bs := 0) (c_Past_init0 hst (h := hp_new (hp_new h 4 3 (vp_V [.null, .null, .int 0]) (fun _ => 0) (fun _ => 0)) 20 190 (fun _ => .null) f (fun _ => 0)) (hp_K_nw (show hp_N h ≠ hp_N h + 1 by omega) hp_K_nq)) vv_X4_init dX10_image_33 wg_369 (by rw [(hp_K_nw (show hp_N h ≠ hp_N h + 1 by omega) hp_K_nq)]; decide) rfl rfl rfl (Nat.le_of_ble_eq_true rfl) (Nat.le_of_ble_eq_true rfl) (Nat.le_of_ble_eq_true rfl) (Nat.le_of_ble_eq_true rfl) ?_
    refine ww_aastNR dX10_image_36 (hp_K_sF (hp_K_sF (hp_K_sF (hp_K_nw (show (28 : Nat) ≠ hp_N h + 1 by omega) (hp_K_nw (show (28 : Nat) ≠ hp_N h by omega) (hC.K28)))))) (by omega) (by omega) (hp_K_sF (hp_K_sF (hp_K_sF (hp_K_nw (show hp_N h ≠ hp_N h + 1 by omega) hp_K_nq)))) ?_
    refine ww_aload_n dX10_image_37 rfl rfl ?_
    refine ww_dup dX10_image_38 rfl ?_
    refine ww_get 10 dX10_image_39 (hp_K_sF (hp_K_sF (hp_K_sF (hp_K_sF (hp_K_nw (show (0 : Nat) ≠ hp_N h + 1 by omega) (hp_K_nw (show (0 : Nat) ≠ hp_N h by omega) (hC.K0))))))) rfl (by decide) inX10 wg_274 (hp_F_na (by omega) (hp_F_nj (by decide) (hp_F_nj (by decide) (hp_F_nj (by decide) (hp_F_nw (show (0 : Nat) ≠ hp_N h + 1 by omega) (hp_F_nw (show (0 : Nat) ≠ hp_N h by omega) him)))))) ?_
    refine ww_iconst (v := nI 1) dX10_image_42 (by decide) ?_
    refine ww_iaddN dX10_image_43 ?_
    refine ww_pfI tyX10 10 dX10_image_44 (hp_K_sF (hp_K_sF (hp_K_sF (hp_K_sF (hp_K_nw (show (0 : Nat) ≠ hp_N h + 1 by omega) (hp_K_nw (show (0 : Nat) ≠ hp_N h by omega) (hC.K0))))))) rfl (by decide) inX10 tyX10_ok nmX10 wg_274 rfl rfl ?_
    refine ww_aload_n dX10_image_47 rfl rfl ?_
    refine ww_get 10 dX10_image_48 (hp_K_sF (hp_K_sF (hp_K_sF (hp_K_sF (hp_K_sF (hp_K_nw (show (0 : Nat) ≠ hp_N h + 1 by omega) (hp_K_nw (show (0 : Nat) ≠ hp_N h by omega) (hC.K0)))))))) rfl (by decide) inX10 wg_274 (hp_F_eq _ _ _ _) ?_
    exact ww_iret dX10_image_51 rfl ⟨rfl, rfl⟩
  · exfalso; omega
set_option maxHeartbeats 4000000 in
set_option maxRecDepth 100000 in
theorem c_K_image1 {l : Launch} {Z : EE} (hst : l.stackTraces = false) {h : PH} {la lw bk : Nat} (hC : CL h la lw bk) {np du : Nat} {f : Nat → Int32} (hL : LandAt h la np du f) {im : Nat} (hN1 : 72 < hp_N h) (hN2 : hp_N h < 999990) {b k : Nat} (hpa : hp_F h 0 8 = .ref b) (him : hp_F h 0 10 = .int (nI im)) (him3 : im < 3) (hbn : b < hp_N h) (hkb : hp_K h b = (4, 3)) (hb : hp_F h b 2 = .int (nI k)) : CC l Z m_X10_image 2 2 193 [.ref 0] h (RT (some (.int (nI (im + 1)))) (hp_sF (hp_sF (hp_sF (hp_sF (hp_sF (hp_new (hp_new h 4 3 (vp_V [.null, .null, .int 0]) (fun _ => 0) (fun _ => 0)) 20 190 (fun _ => .null) f (fun _ => 0)) (hp_N h) 0 (.ref (hp_N h + 1))) (hp_N h) 1 (.ref b)) (hp_N h) 2 (.int (nI (k + 1)))) 28 im (.ref (hp_N h))) 0 10 (.int (nI (im + 1))))) := by
  refine ee_entry hst (by decide +kernel) rfl rfl (by simp [Value.category]) (Nat.le_of_ble_eq_true rfl) ?_
  refine ww_lv (lv2 := [.ref 0]) rfl ?_
  have hla := hC.la
  have hlw := hC.lw
  have hbk := hC.bk
  refine ww_aload_n dX10_image_0 rfl rfl ?_
  refine ww_get 10 dX10_image_1 (hC.K0) rfl (by decide) inX10 wg_274 him ?_
  refine ww_iconst (v := nI 3) dX10_image_4 (by decide) ?_
  refine ww_icmp_ltN (tgt := 10) dX10_image_5 (by decide) (by omega) (by omega) (fun c5 => ?_) (fun c5 => ?_)
  · refine ww_aload_n dX10_image_10 rfl rfl ?_
    refine ww_get 9 dX10_image_11 (hC.K0) rfl (by decide) inX10 wg_273 (hC.R0_9) ?_
    refine ww_aload_n dX10_image_14 rfl rfl ?_
    refine ww_get 10 dX10_image_15 (hC.K0) rfl (by decide) inX10 wg_274 him ?_
    refine ww_new (M := m_X10_image) (pc := 18) (bc := 1) (bs := 190) (t := 4) tyX4 [.null, .null, .int 0] dX10_image_18 rfl inX4 tyX4_ok wg_160 wg_357 wg_21 rfl (by decide) (by first | assumption | omega | (simp only [hp_N_new, hp_N_sF, hp_N_sI, hp_N_sL]; omega)) ?_
    refine ww_dup dX10_image_21 rfl ?_
    refine ww_aload_n dX10_image_22 rfl rfl ?_
    refine ww_get 1 dX10_image_23 (hp_K_nw (show (0 : Nat) ≠ hp_N h by omega) (hC.K0)) rfl (by decide) inX10 wg_265 (hp_F_nw (show (0 : Nat) ≠ hp_N h by omega) hC.D1) ?_
    refine ww_cVr (M := m_X10_image) (pc := 26) (v := .ref (hp_N h + 1)) (h1 := hp_new (hp_new h 4 3 (vp_V [.null, .null, .int 0]) (fun _ => 0) (fun _ => 0)) 20 190 (fun _ => .null) f (fun _ => 0)) (st := [.ref (hp_N h), .ref (hp_N h), .int (nI im), .ref 28]) (d := 2) (bc := 0) (bs := 0) (c_Land_copyOfRow hst (h := hp_new h 4 3 (vp_V [.null, .null, .int 0]) (fun _ => 0) (fun _ => 0)) (by simp only [hp_N_new]; omega) (hL.nw (by omega) (by omega))) vv_X2_copyOfRow dX10_image_26 wg_358 (hp_K_nw (show la ≠ hp_N h by omega) hL.1) rfl rfl rfl rfl (Nat.le_of_ble_eq_true rfl) (Nat.le_of_ble_eq_true rfl) (Nat.le_of_ble_eq_true rfl) (Nat.le_of_ble_eq_true rfl) ?_
    refine ww_aload_n dX10_image_29 rfl rfl ?_
    refine ww_get 8 dX10_image_30 (hp_K_nw (show (0 : Nat) ≠ hp_N h + 1 by omega) (hp_K_nw (show (0 : Nat) ≠ hp_N h by omega) (hC.K0))) rfl (by decide) inX10 wg_272 (hp_F_nw (show (0 : Nat) ≠ hp_N h + 1 by omega) (hp_F_nw (show (0 : Nat) ≠ hp_N h by omega) hpa)) ?_
    refine ww_cI0 (M := m_X10_image) (pc := 33) (h1 := hp_sF (hp_sF (hp_sF (hp_new (hp_new h 4 3 (vp_V [.null, .null, .int 0]) (fun _ => 0) (fun _ => 0)) 20 190 (fun _ => .null) f (fun _ => 0)) (hp_N h) 0 (.ref (hp_N h + 1))) (hp_N h) 1 (.ref b)) (hp_N h) 2 (.int (nI (k + 1)))) (st := [.ref (hp_N h), .int (nI im), .ref 28]) (d := 2) (bc := 0) (bs := 0) (c_Past_init1 hst (h := hp_new (hp_new h 4 3 (vp_V [.null, .null, .int 0]) (fun _ => 0) (fun _ => 0)) 20 190 (fun _ => .null) f (fun _ => 0)) (hp_K_nw (show hp_N h ≠ hp_N h + 1 by omega) hp_K_nq) (hp_K_nw (show b ≠ hp_N h + 1 by omega) (hp_K_nw (show b ≠ hp_N h by omega) hkb)) (hp_F_nw (show b ≠ hp_N h + 1 by omega) (hp_F_nw (show b ≠ hp_N h by omega) hb)) (by omega)) vv_X4_init dX10_image_33 wg_369 (by rw [(hp_K_nw (show hp_N h ≠ hp_N h + 1 by omega) hp_K_nq)]; decide) rfl rfl rfl (Nat.le_of_ble_eq_true rfl) (Nat.le_of_ble_eq_true rfl) (Nat.le_of_ble_eq_true rfl) (Nat.le_of_ble_eq_true rfl) ?_
    refine ww_aastNR dX10_image_36 (hp_K_sF (hp_K_sF (hp_K_sF (hp_K_nw (show (28 : Nat) ≠ hp_N h + 1 by omega) (hp_K_nw (show (28 : Nat) ≠ hp_N h by omega) (hC.K28)))))) (by omega) (by omega) (hp_K_sF (hp_K_sF (hp_K_sF (hp_K_nw (show hp_N h ≠ hp_N h + 1 by omega) hp_K_nq)))) ?_
    refine ww_aload_n dX10_image_37 rfl rfl ?_
    refine ww_dup dX10_image_38 rfl ?_
    refine ww_get 10 dX10_image_39 (hp_K_sF (hp_K_sF (hp_K_sF (hp_K_sF (hp_K_nw (show (0 : Nat) ≠ hp_N h + 1 by omega) (hp_K_nw (show (0 : Nat) ≠ hp_N h by omega) (hC.K0))))))) rfl (by decide) inX10 wg_274 (hp_F_na (by omega) (hp_F_nj (by decide) (hp_F_nj (by decide) (hp_F_nj (by decide) (hp_F_nw (show (0 : Nat) ≠ hp_N h + 1 by omega) (hp_F_nw (show (0 : Nat) ≠ hp_N h by omega) him)))))) ?_
    refine ww_iconst (v := nI 1) dX10_image_42 (by decide) ?_
    refine ww_iaddN dX10_image_43 ?_
    refine ww_pfI tyX10 10 dX10_image_44 (hp_K_sF (hp_K_sF (hp_K_sF (hp_K_sF (hp_K_nw (show (0 : Nat) ≠ hp_N h + 1 by omega) (hp_K_nw (show (0 : Nat) ≠ hp_N h by omega) (hC.K0))))))) rfl (by decide) inX10 tyX10_ok nmX10 wg_274 rfl rfl ?_
    refine ww_aload_n dX10_image_47 rfl rfl ?_
    refine ww_get 10 dX10_image_48 (hp_K_sF (hp_K_sF (hp_K_sF (hp_K_sF (hp_K_sF (hp_K_nw (show (0 : Nat) ≠ hp_N h + 1 by omega) (hp_K_nw (show (0 : Nat) ≠ hp_N h by omega) (hC.K0)))))))) rfl (by decide) inX10 wg_274 (hp_F_eq _ _ _ _) ?_
    exact ww_iret dX10_image_51 rfl ⟨rfl, rfl⟩
  · exfalso; omega
set_option maxHeartbeats 4000000 in
set_option maxRecDepth 100000 in
theorem c_K_image_no {l : Launch} {Z : EE} (hst : l.stackTraces = false) {h : PH} {la lw bk : Nat} (hC : CL h la lw bk) (him : hp_F h 0 10 = .int (nI 3)) : CC l Z m_X10_image 0 0 0 [.ref 0] h (RT (some (.int (-1))) h) := by
  refine ee_entry hst (by decide +kernel) rfl rfl (by simp [Value.category]) (Nat.le_of_ble_eq_true rfl) ?_
  refine ww_lv (lv2 := [.ref 0]) rfl ?_
  refine ww_aload_n dX10_image_0 rfl rfl ?_
  refine ww_get 10 dX10_image_1 (hC.K0) rfl (by decide) inX10 wg_274 him ?_
  refine ww_iconst (v := nI 3) dX10_image_4 (by decide) ?_
  refine ww_icmp_ltN (tgt := 10) dX10_image_5 (by decide) (by omega) (by omega) (fun c5 => ?_) (fun c5 => ?_)
  · exact absurd c5 (by decide)
  · refine ww_iconst (v := -1) dX10_image_8 (by decide) ?_
    exact ww_iret dX10_image_9 rfl ⟨rfl, rfl⟩
set_option maxHeartbeats 4000000 in
set_option maxRecDepth 100000 in
theorem c_K_restore_no {l : Launch} {Z : EE} (hst : l.stackTraces = false) {h : PH} {la lw bk : Nat} (hC : CL h la lw bk) (him : hp_F h 0 10 = .int (nI 0)) : CC l Z m_X10_restore 0 0 0 [.ref 0] h (RT (some (.int (-1))) h) := by
  refine ee_entry hst (by decide +kernel) rfl rfl (by simp [Value.category]) (Nat.le_of_ble_eq_true rfl) ?_
  refine ww_lv (lv2 := [.ref 0, UU]) rfl ?_
  refine ww_aload_n dX10_restore_0 rfl rfl ?_
  refine ww_get 10 dX10_restore_1 (hC.K0) rfl (by decide) inX10 wg_274 him ?_
  refine ww_if_gtN (tgt := 9) dX10_restore_4 (by decide) (by omega) (fun c4 => ?_) (fun c4 => ?_)
  · exact absurd c4 (by decide)
  · refine ww_iconst (v := -1) dX10_restore_7 (by decide) ?_
    exact ww_iret dX10_restore_8 rfl ⟨rfl, rfl⟩
set_option maxHeartbeats 4000000 in
set_option maxRecDepth 100000 in
theorem c_K_restore0 {l : Launch} {Z : EE} (hst : l.stackTraces = false) {h : PH} {la lw bk : Nat} (hC : CL h la lw bk) {np du : Nat} {f : Nat → Int32} (hL : LandAt h la np du f) {im a r : Nat} (ha73 : 72 < a) (him : hp_F h 0 10 = .int (nI im)) (him1 : 0 < im) (him3 : im ≤ 3) (hia : hp_F h 28 (im - 1) = .ref a) (hka : hp_K h a = (4, 3)) (hkr : hp_K h r = (20, 190)) (h0 : hp_F h a 0 = .ref r) (h1 : hp_F h a 1 = .null) : CC l Z m_X10_restore 2 0 0 [.ref 0] h (RQ (some (.int (nI (im - 1)))) (fun h9 => Same (fun _ => False) (fun a j => (a = 28 ∧ im - 1 ≤ j ∧ j < 3) ∨ (a = 0 ∧ j = 10)) (hp_sF (hp_sF (hp_sI h (la + 1) (fun i => if i < 190 then hp_I h r i else f i)) 0 8 (.null)) 0 11 (.int (nI 0))) h9 ∧ hp_F h9 0 10 = .int (nI (im - 1)))) := by
  refine ee_entry hst (by decide +kernel) rfl rfl (by simp [Value.category]) (Nat.le_of_ble_eq_true rfl) ?_
  refine ww_lv (lv2 := [.ref 0, UU]) rfl ?_
  have hla := hC.la
  have hlw := hC.lw
  have hbk := hC.bk
  refine ww_aload_n dX10_restore_0 rfl rfl ?_
  refine ww_get 10 dX10_restore_1 (hC.K0) rfl (by decide) inX10 wg_274 him ?_
  refine ww_if_gtN (tgt := 9) dX10_restore_4 (by decide) (by omega) (fun c4 => ?_) (fun c4 => ?_)
  · refine ww_aload_n dX10_restore_9 rfl rfl ?_
    refine ww_get 9 dX10_restore_10 (hC.K0) rfl (by decide) inX10 wg_273 (hC.R0_9) ?_
    refine ww_aload_n dX10_restore_13 rfl rfl ?_
    refine ww_get 10 dX10_restore_14 (hC.K0) rfl (by decide) inX10 wg_274 him ?_
    refine ww_iconst (v := nI 1) dX10_restore_17 (by decide) ?_
    refine ww_isubN dX10_restore_18 (by omega) ?_
    refine ww_aaldN dX10_restore_19 (hC.K28) (by omega) (by omega) hia ?_
    refine ww_sta_n (lv2 := [.ref 0, .ref a]) dX10_restore_20 rfl rfl (by decide) rfl ?_
    refine ww_aload_n dX10_restore_21 rfl rfl ?_
    refine ww_ifnull dX10_restore_22 ?_
    refine ww_aload_n dX10_restore_25 rfl rfl ?_
    refine ww_get 1 dX10_restore_26 (hC.K0) rfl (by decide) inX10 wg_265 hC.D1 ?_
    refine ww_aload_n dX10_restore_29 rfl rfl ?_
    refine ww_getN 0 dX10_restore_30 hka rfl (by decide) inX4 wn_374 h0 ?_
    refine ww_cV0 (M := m_X10_restore) (pc := 33) (h1 := hp_sI h (la + 1) (fun i => if i < 190 then hp_I h r i else f i)) (st := []) (d := 2) (bc := 0) (bs := 0) (c_Land_takeRow hst hL hkr) vv_X2_takeRow dX10_restore_33 wg_342 hL.1 rfl rfl rfl rfl (Nat.le_of_ble_eq_true rfl) (Nat.le_of_ble_eq_true rfl) (Nat.le_of_ble_eq_true rfl) (Nat.le_of_ble_eq_true rfl) ?_
    refine ww_aload_n dX10_restore_36 rfl rfl ?_
    refine ww_aload_n dX10_restore_37 rfl rfl ?_
    refine ww_getN 1 dX10_restore_38 hka rfl (by decide) inX4 wn_376 h1 ?_
    refine ww_put tyX10 8 dX10_restore_41 (hC.K0) rfl (by decide) inX10 tyX10_ok nmX10 wg_272 rfl (ee_na_null (Or.inl ⟨_, rfl⟩)) ?_
    refine ww_aload_n dX10_restore_44 rfl rfl ?_
    refine ww_iconst (v := nI 0) dX10_restore_45 (by decide) ?_
    refine ww_pfI tyX10 11 dX10_restore_46 (hC.K0) rfl (by decide) inX10 tyX10_ok nmX10 wg_275 rfl rfl ?_
    refine ww_aload_n dX10_restore_49 rfl rfl ?_
    refine ww_aload_n dX10_restore_50 rfl rfl ?_
    refine ww_get 10 dX10_restore_51 (hC.K0) rfl (by decide) inX10 wg_274 (hp_F_nj (by decide) (hp_F_nj (by decide) him)) ?_
    refine ww_iconst (v := nI 1) dX10_restore_54 (by decide) ?_
    refine ww_isubN dX10_restore_55 (by omega) ?_
    refine ww_cVq0 (M := m_X10_restore) (pc := 56) (st := []) (d := 2) (bc := 0) (bs := 0) (c_K_drop hst (h := hp_sF (hp_sF (hp_sI h (la + 1) (fun i => if i < 190 then hp_I h r i else f i)) 0 8 (.null)) 0 11 (.int (nI 0))) hC.un (im - 1) (by omega)) vv_X10_dropImages dX10_restore_56 wg_390 (hC.K0) rfl rfl rfl rfl (Nat.le_of_ble_eq_true rfl) (Nat.le_of_ble_eq_true rfl) (Nat.le_of_ble_eq_true rfl) (Nat.le_of_ble_eq_true rfl) (fun hq1 qq1 => ?_)
    refine ww_aload_n dX10_restore_59 rfl rfl ?_
    refine ww_get 10 dX10_restore_60 ((qq1.1.2.1 0).trans hC.un.K0) rfl (by decide) inX10 wg_274 qq1.2.2 ?_
    exact ww_iret dX10_restore_63 rfl ⟨rfl, qq1.1, qq1.2.2⟩
  · exfalso; omega
set_option maxHeartbeats 4000000 in
set_option maxRecDepth 100000 in
theorem c_K_restore1 {l : Launch} {Z : EE} (hst : l.stackTraces = false) {h : PH} {la lw bk : Nat} (hC : CL h la lw bk) {np du : Nat} {f : Nat → Int32} (hL : LandAt h la np du f) {im a r b : Nat} (ha73 : 72 < a) (him : hp_F h 0 10 = .int (nI im)) (him1 : 0 < im) (him3 : im ≤ 3) (hia : hp_F h 28 (im - 1) = .ref a) (hka : hp_K h a = (4, 3)) (hkr : hp_K h r = (20, 190)) (h0 : hp_F h a 0 = .ref r) (h1 : hp_F h a 1 = .ref b) : CC l Z m_X10_restore 2 0 0 [.ref 0] h (RQ (some (.int (nI (im - 1)))) (fun h9 => Same (fun _ => False) (fun a j => (a = 28 ∧ im - 1 ≤ j ∧ j < 3) ∨ (a = 0 ∧ j = 10)) (hp_sF (hp_sF (hp_sI h (la + 1) (fun i => if i < 190 then hp_I h r i else f i)) 0 8 (.ref b)) 0 11 (.int (nI 0))) h9 ∧ hp_F h9 0 10 = .int (nI (im - 1)))) := by
  refine ee_entry hst (by decide +kernel) rfl rfl (by simp [Value.category]) (Nat.le_of_ble_eq_true rfl) ?_
  refine ww_lv (lv2 := [.ref 0, UU]) rfl ?_
  have hla := hC.la
  have hlw := hC.lw
  have hbk := hC.bk
  refine ww_aload_n dX10_restore_0 rfl rfl ?_
  refine ww_get 10 dX10_restore_1 (hC.K0) rfl (by decide) inX10 wg_274 him ?_
  refine ww_if_gtN (tgt := 9) dX10_restore_4 (by decide) (by omega) (fun c4 => ?_) (fun c4 => ?_)
  · refine ww_aload_n dX10_restore_9 rfl rfl ?_
    refine ww_get 9 dX10_restore_10 (hC.K0) rfl (by decide) inX10 wg_273 (hC.R0_9) ?_
    refine ww_aload_n dX10_restore_13 rfl rfl ?_
    refine ww_get 10 dX10_restore_14 (hC.K0) rfl (by decide) inX10 wg_274 him ?_
    refine ww_iconst (v := nI 1) dX10_restore_17 (by decide) ?_
    refine ww_isubN dX10_restore_18 (by omega) ?_
    refine ww_aaldN dX10_restore_19 (hC.K28) (by omega) (by omega) hia ?_
    refine ww_sta_n (lv2 := [.ref 0, .ref a]) dX10_restore_20 rfl rfl (by decide) rfl ?_
    refine ww_aload_n dX10_restore_21 rfl rfl ?_
    refine ww_ifnull dX10_restore_22 ?_
    refine ww_aload_n dX10_restore_25 rfl rfl ?_
    refine ww_get 1 dX10_restore_26 (hC.K0) rfl (by decide) inX10 wg_265 hC.D1 ?_
    refine ww_aload_n dX10_restore_29 rfl rfl ?_
    refine ww_getN 0 dX10_restore_30 hka rfl (by decide) inX4 wn_374 h0 ?_
    refine ww_cV0 (M := m_X10_restore) (pc := 33) (h1 := hp_sI h (la + 1) (fun i => if i < 190 then hp_I h r i else f i)) (st := []) (d := 2) (bc := 0) (bs := 0) (c_Land_takeRow hst hL hkr) vv_X2_takeRow dX10_restore_33 wg_342 hL.1 rfl rfl rfl rfl (Nat.le_of_ble_eq_true rfl) (Nat.le_of_ble_eq_true rfl) (Nat.le_of_ble_eq_true rfl) (Nat.le_of_ble_eq_true rfl) ?_
    refine ww_aload_n dX10_restore_36 rfl rfl ?_
    refine ww_aload_n dX10_restore_37 rfl rfl ?_
    refine ww_getN 1 dX10_restore_38 hka rfl (by decide) inX4 wn_376 h1 ?_
    refine ww_put tyX10 8 dX10_restore_41 (hC.K0) rfl (by decide) inX10 tyX10_ok nmX10 wg_272 rfl (ee_na_ref (Or.inl ⟨_, rfl⟩)) ?_
    refine ww_aload_n dX10_restore_44 rfl rfl ?_
    refine ww_iconst (v := nI 0) dX10_restore_45 (by decide) ?_
    refine ww_pfI tyX10 11 dX10_restore_46 (hC.K0) rfl (by decide) inX10 tyX10_ok nmX10 wg_275 rfl rfl ?_
    refine ww_aload_n dX10_restore_49 rfl rfl ?_
    refine ww_aload_n dX10_restore_50 rfl rfl ?_
    refine ww_get 10 dX10_restore_51 (hC.K0) rfl (by decide) inX10 wg_274 (hp_F_nj (by decide) (hp_F_nj (by decide) him)) ?_
    refine ww_iconst (v := nI 1) dX10_restore_54 (by decide) ?_
    refine ww_isubN dX10_restore_55 (by omega) ?_
    refine ww_cVq0 (M := m_X10_restore) (pc := 56) (st := []) (d := 2) (bc := 0) (bs := 0) (c_K_drop hst (h := hp_sF (hp_sF (hp_sI h (la + 1) (fun i => if i < 190 then hp_I h r i else f i)) 0 8 (.ref b)) 0 11 (.int (nI 0))) hC.un (im - 1) (by omega)) vv_X10_dropImages dX10_restore_56 wg_390 (hC.K0) rfl rfl rfl rfl (Nat.le_of_ble_eq_true rfl) (Nat.le_of_ble_eq_true rfl) (Nat.le_of_ble_eq_true rfl) (Nat.le_of_ble_eq_true rfl) (fun hq1 qq1 => ?_)
    refine ww_aload_n dX10_restore_59 rfl rfl ?_
    refine ww_get 10 dX10_restore_60 ((qq1.1.2.1 0).trans hC.un.K0) rfl (by decide) inX10 wg_274 qq1.2.2 ?_
    exact ww_iret dX10_restore_63 rfl ⟨rfl, qq1.1, qq1.2.2⟩
  · exfalso; omega
