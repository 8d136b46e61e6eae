def modT : List (Nat × Nat × Nat × Nat) := [(1, 1, 20, 2), (9, 2, 20, 600), (10, 3, 20, 6), (11, 4, 20, 61), (12, 5, 20, 61), (17, 6, 20, 150), (18, 7, 20, 150), (19, 8, 20, 150), (20, 9, 20, 150), (21, 10, 20, 150), (24, 11, 20, 7), (25, 12, 20, 200), (26, 13, 20, 200), (33, 14, 20, 190), (34, 15, 20, 190), (35, 16, 20, 3040), (36, 17, 20, 16), (37, 18, 20, 16), (39, 19, 21, 61), (40, 20, 20, 61), (41, 21, 20, 61), (46, 22, 20, 61), (47, 23, 20, 61), (50, 24, 22, 61), (51, 25, 20, 9693)]
/-- the reference's shape: its object at m, its rows behind it in the order in which they are made -/
def ModS (h : PH) (m : Nat) : Prop := hp_K h m = (11, 53) ∧ ∀ q ∈ modT, hp_K h (m + q.2.1) = (q.2.2.1, q.2.2.2) ∧ hp_F h m q.1 = .ref (m + q.2.1)
theorem ModS.K0 {h : PH} {m : Nat} (hM : ModS h m) : hp_K h m = (11, 53) := hM.1
theorem ModS.K1 {h : PH} {m : Nat} (hM : ModS h m) : hp_K h (m + 1) = (20, 2) := (hM.2 (1, 1, 20, 2) (by decide)).1
theorem ModS.F1 {h : PH} {m : Nat} (hM : ModS h m) : hp_F h m 1 = .ref (m + 1) := (hM.2 (1, 1, 20, 2) (by decide)).2
theorem ModS.K2 {h : PH} {m : Nat} (hM : ModS h m) : hp_K h (m + 2) = (20, 600) := (hM.2 (9, 2, 20, 600) (by decide)).1
theorem ModS.F2 {h : PH} {m : Nat} (hM : ModS h m) : hp_F h m 9 = .ref (m + 2) := (hM.2 (9, 2, 20, 600) (by decide)).2
theorem ModS.K3 {h : PH} {m : Nat} (hM : ModS h m) : hp_K h (m + 3) = (20, 6) := (hM.2 (10, 3, 20, 6) (by decide)).1
theorem ModS.F3 {h : PH} {m : Nat} (hM : ModS h m) : hp_F h m 10 = .ref (m + 3) := (hM.2 (10, 3, 20, 6) (by decide)).2
theorem ModS.K4 {h : PH} {m : Nat} (hM : ModS h m) : hp_K h (m + 4) = (20, 61) := (hM.2 (11, 4, 20, 61) (by decide)).1
theorem ModS.F4 {h : PH} {m : Nat} (hM : ModS h m) : hp_F h m 11 = .ref (m + 4) := (hM.2 (11, 4, 20, 61) (by decide)).2
theorem ModS.K5 {h : PH} {m : Nat} (hM : ModS h m) : hp_K h (m + 5) = (20, 61) := (hM.2 (12, 5, 20, 61) (by decide)).1
theorem ModS.F5 {h : PH} {m : Nat} (hM : ModS h m) : hp_F h m 12 = .ref (m + 5) := (hM.2 (12, 5, 20, 61) (by decide)).2
theorem ModS.K6 {h : PH} {m : Nat} (hM : ModS h m) : hp_K h (m + 6) = (20, 150) := (hM.2 (17, 6, 20, 150) (by decide)).1
theorem ModS.F6 {h : PH} {m : Nat} (hM : ModS h m) : hp_F h m 17 = .ref (m + 6) := (hM.2 (17, 6, 20, 150) (by decide)).2
theorem ModS.K7 {h : PH} {m : Nat} (hM : ModS h m) : hp_K h (m + 7) = (20, 150) := (hM.2 (18, 7, 20, 150) (by decide)).1
theorem ModS.F7 {h : PH} {m : Nat} (hM : ModS h m) : hp_F h m 18 = .ref (m + 7) := (hM.2 (18, 7, 20, 150) (by decide)).2
theorem ModS.K8 {h : PH} {m : Nat} (hM : ModS h m) : hp_K h (m + 8) = (20, 150) := (hM.2 (19, 8, 20, 150) (by decide)).1
theorem ModS.F8 {h : PH} {m : Nat} (hM : ModS h m) : hp_F h m 19 = .ref (m + 8) := (hM.2 (19, 8, 20, 150) (by decide)).2
theorem ModS.K9 {h : PH} {m : Nat} (hM : ModS h m) : hp_K h (m + 9) = (20, 150) := (hM.2 (20, 9, 20, 150) (by decide)).1
theorem ModS.F9 {h : PH} {m : Nat} (hM : ModS h m) : hp_F h m 20 = .ref (m + 9) := (hM.2 (20, 9, 20, 150) (by decide)).2
theorem ModS.K10 {h : PH} {m : Nat} (hM : ModS h m) : hp_K h (m + 10) = (20, 150) := (hM.2 (21, 10, 20, 150) (by decide)).1
theorem ModS.F10 {h : PH} {m : Nat} (hM : ModS h m) : hp_F h m 21 = .ref (m + 10) := (hM.2 (21, 10, 20, 150) (by decide)).2
theorem ModS.K11 {h : PH} {m : Nat} (hM : ModS h m) : hp_K h (m + 11) = (20, 7) := (hM.2 (24, 11, 20, 7) (by decide)).1
theorem ModS.F11 {h : PH} {m : Nat} (hM : ModS h m) : hp_F h m 24 = .ref (m + 11) := (hM.2 (24, 11, 20, 7) (by decide)).2
theorem ModS.K12 {h : PH} {m : Nat} (hM : ModS h m) : hp_K h (m + 12) = (20, 200) := (hM.2 (25, 12, 20, 200) (by decide)).1
theorem ModS.F12 {h : PH} {m : Nat} (hM : ModS h m) : hp_F h m 25 = .ref (m + 12) := (hM.2 (25, 12, 20, 200) (by decide)).2
theorem ModS.K13 {h : PH} {m : Nat} (hM : ModS h m) : hp_K h (m + 13) = (20, 200) := (hM.2 (26, 13, 20, 200) (by decide)).1
theorem ModS.F13 {h : PH} {m : Nat} (hM : ModS h m) : hp_F h m 26 = .ref (m + 13) := (hM.2 (26, 13, 20, 200) (by decide)).2
theorem ModS.K14 {h : PH} {m : Nat} (hM : ModS h m) : hp_K h (m + 14) = (20, 190) := (hM.2 (33, 14, 20, 190) (by decide)).1
theorem ModS.F14 {h : PH} {m : Nat} (hM : ModS h m) : hp_F h m 33 = .ref (m + 14) := (hM.2 (33, 14, 20, 190) (by decide)).2
theorem ModS.K15 {h : PH} {m : Nat} (hM : ModS h m) : hp_K h (m + 15) = (20, 190) := (hM.2 (34, 15, 20, 190) (by decide)).1
theorem ModS.F15 {h : PH} {m : Nat} (hM : ModS h m) : hp_F h m 34 = .ref (m + 15) := (hM.2 (34, 15, 20, 190) (by decide)).2
theorem ModS.K16 {h : PH} {m : Nat} (hM : ModS h m) : hp_K h (m + 16) = (20, 3040) := (hM.2 (35, 16, 20, 3040) (by decide)).1
theorem ModS.F16 {h : PH} {m : Nat} (hM : ModS h m) : hp_F h m 35 = .ref (m + 16) := (hM.2 (35, 16, 20, 3040) (by decide)).2
theorem ModS.K17 {h : PH} {m : Nat} (hM : ModS h m) : hp_K h (m + 17) = (20, 16) := (hM.2 (36, 17, 20, 16) (by decide)).1
theorem ModS.F17 {h : PH} {m : Nat} (hM : ModS h m) : hp_F h m 36 = .ref (m + 17) := (hM.2 (36, 17, 20, 16) (by decide)).2
theorem ModS.K18 {h : PH} {m : Nat} (hM : ModS h m) : hp_K h (m + 18) = (20, 16) := (hM.2 (37, 18, 20, 16) (by decide)).1
theorem ModS.F18 {h : PH} {m : Nat} (hM : ModS h m) : hp_F h m 37 = .ref (m + 18) := (hM.2 (37, 18, 20, 16) (by decide)).2
theorem ModS.K19 {h : PH} {m : Nat} (hM : ModS h m) : hp_K h (m + 19) = (21, 61) := (hM.2 (39, 19, 21, 61) (by decide)).1
theorem ModS.F19 {h : PH} {m : Nat} (hM : ModS h m) : hp_F h m 39 = .ref (m + 19) := (hM.2 (39, 19, 21, 61) (by decide)).2
theorem ModS.K20 {h : PH} {m : Nat} (hM : ModS h m) : hp_K h (m + 20) = (20, 61) := (hM.2 (40, 20, 20, 61) (by decide)).1
theorem ModS.F20 {h : PH} {m : Nat} (hM : ModS h m) : hp_F h m 40 = .ref (m + 20) := (hM.2 (40, 20, 20, 61) (by decide)).2
theorem ModS.K21 {h : PH} {m : Nat} (hM : ModS h m) : hp_K h (m + 21) = (20, 61) := (hM.2 (41, 21, 20, 61) (by decide)).1
theorem ModS.F21 {h : PH} {m : Nat} (hM : ModS h m) : hp_F h m 41 = .ref (m + 21) := (hM.2 (41, 21, 20, 61) (by decide)).2
theorem ModS.K22 {h : PH} {m : Nat} (hM : ModS h m) : hp_K h (m + 22) = (20, 61) := (hM.2 (46, 22, 20, 61) (by decide)).1
theorem ModS.F22 {h : PH} {m : Nat} (hM : ModS h m) : hp_F h m 46 = .ref (m + 22) := (hM.2 (46, 22, 20, 61) (by decide)).2
theorem ModS.K23 {h : PH} {m : Nat} (hM : ModS h m) : hp_K h (m + 23) = (20, 61) := (hM.2 (47, 23, 20, 61) (by decide)).1
theorem ModS.F23 {h : PH} {m : Nat} (hM : ModS h m) : hp_F h m 47 = .ref (m + 23) := (hM.2 (47, 23, 20, 61) (by decide)).2
theorem ModS.K24 {h : PH} {m : Nat} (hM : ModS h m) : hp_K h (m + 24) = (22, 61) := (hM.2 (50, 24, 22, 61) (by decide)).1
theorem ModS.F24 {h : PH} {m : Nat} (hM : ModS h m) : hp_F h m 50 = .ref (m + 24) := (hM.2 (50, 24, 22, 61) (by decide)).2
theorem ModS.K25 {h : PH} {m : Nat} (hM : ModS h m) : hp_K h (m + 25) = (20, 9693) := (hM.2 (51, 25, 20, 9693) (by decide)).1
theorem ModS.F25 {h : PH} {m : Nat} (hM : ModS h m) : hp_F h m 51 = .ref (m + 25) := (hM.2 (51, 25, 20, 9693) (by decide)).2
theorem ModS.same {h h' : PH} {m : Nat} {X : Nat → Prop} {Y : Nat → Nat → Prop} (hM : ModS h m) (hS : Same X Y h h') (hY : ∀ q ∈ modT, ¬ Y m q.1) : ModS h' m := ⟨(hS.2.1 _).trans hM.1, fun q hq => ⟨(hS.2.1 _).trans (hM.2 q hq).1, (hS.2.2.1 _ _ (hY q hq)).trans (hM.2 q hq).2⟩⟩
theorem ModS.sI {h : PH} {m a : Nat} {f : Nat → Int32} (hM : ModS h m) : ModS (hp_sI h a f) m := hM
theorem ModS.sL {h : PH} {m a : Nat} {f : Nat → Int64} (hM : ModS h m) : ModS (hp_sL h a f) m := hM
theorem ModS.sF {h : PH} {m j : Nat} {v : Value} (hM : ModS h m) (hj : ∀ q ∈ modT, q.1 ≠ j) : ModS (hp_sF h m j v) m := ⟨hM.1, fun q hq => ⟨(hM.2 q hq).1, hp_F_nj (hj q hq) (hM.2 q hq).2⟩⟩
/-- the reference's numbers for the class's kinds -/
def trN : Nat → Nat
  | 6 => 8
  | 7 => 6
  | 8 => 7
  | k => k
def LawM (h : PH) (m sz : Nat) (kf vf : Nat → Int32) : Prop := hp_F h m 23 = .int (nI sz) ∧ sz ≤ 150 ∧ (∀ i, i < sz → ∀ k, k ≤ 8 → kf i = nI k → hp_I h (m + 8) i = nI (trN k)) ∧ ∀ i, i < sz → hp_I h (m + 9) i = vf i
theorem LawM.same {h h' : PH} {m sz : Nat} {kf vf : Nat → Int32} {X : Nat → Prop} {Y : Nat → Nat → Prop} (hQ : LawM h m sz kf vf) (hS : Same X Y h h') (hX1 : ¬ X (m + 8)) (hX2 : ¬ X (m + 9)) (hY : ¬ Y m 23) : LawM h' m sz kf vf := ⟨(hS.2.2.1 _ _ hY).trans hQ.1, hQ.2.1, by rw [hS.2.2.2.1 _ hX1]; exact hQ.2.2.1, by rw [hS.2.2.2.1 _ hX2]; exact hQ.2.2.2⟩
/-- how many divide n -/
def dvN (n : Nat) : Nat := cnt (fun k => n % (k + 1) == 0) n
theorem parts_ok : ∀ n, n < 61 → js_parts.getD n 0 = nI (dvN n) := by decide +kernel
theorem joinC_lt8 (x y : Int32) : joinC (nI 8) x y = if x < y then y else x := by
  rw [joinC_8]
  by_cases h1 : y < x
  · rw [if_pos h1, if_neg (Int32.not_lt.mpr (Int32.le_of_lt h1))]
  · rw [if_neg h1]
    by_cases h2 : x < y
    · rw [if_pos h2]
    · rw [if_neg h2]; exact Int32.le_antisymm (Int32.not_lt.mp h2) (Int32.not_lt.mp h1)
set_option maxHeartbeats 4000000 in
set_option maxRecDepth 100000 in
theorem c_M_both2 {l : Launch} {Z : EE} (hst : l.stackTraces = false) (x y : Int32) (h : PH) : CC l Z m_X11_both 0 0 0 [.int (nI 2), .int x, .int y] h (RT (some (.int (joinC (nI 2) x y))) h) := by
  refine ee_entry hst (by decide +kernel) rfl rfl (by simp [Value.category]) (Nat.le_of_ble_eq_true rfl) ?_
  refine ww_lv (lv2 := [.int (nI 2), .int x, .int y]) rfl ?_
  refine ww_iload_n dX11_both_0 rfl rfl ?_
  refine ww_iconst (v := nI 2) dX11_both_1 (by decide) ?_
  refine ww_icmp_neN (tgt := 9) dX11_both_2 (by decide) (by omega) (by omega) (fun c2 => ?_) (fun c2 => ?_)
  · exact absurd c2 (by decide)
  · refine ww_iload_n dX11_both_5 rfl rfl ?_
    refine ww_iload_n dX11_both_6 rfl rfl ?_
    refine ww_iadd dX11_both_7 ?_
    exact ww_iret dX11_both_8 rfl ⟨by first | rfl | (rw [joinC_5, if_neg (by assumption)]; done) | (rw [joinC_5, if_pos (by assumption)]; rfl) | (rw [joinC_6, if_neg (by assumption)]; done) | (rw [joinC_6, if_pos (by assumption)]; rfl) | (rw [joinC_7, if_pos (by simpa using c63)]; done) | (rw [joinC_7, if_neg (by simpa using c63)]; done) | (rw [joinC_lt8, if_pos (by simpa using c63)]; done) | (rw [joinC_lt8, if_neg (by simpa using c63)]; done), rfl⟩
set_option maxHeartbeats 4000000 in
set_option maxRecDepth 100000 in
theorem c_M_both3 {l : Launch} {Z : EE} (hst : l.stackTraces = false) (x y : Int32) (h : PH) : CC l Z m_X11_both 0 0 0 [.int (nI 3), .int x, .int y] h (RT (some (.int (joinC (nI 3) x y))) h) := by
  refine ee_entry hst (by decide +kernel) rfl rfl (by simp [Value.category]) (Nat.le_of_ble_eq_true rfl) ?_
  refine ww_lv (lv2 := [.int (nI 3), .int x, .int y]) rfl ?_
  refine ww_iload_n dX11_both_0 rfl rfl ?_
  refine ww_iconst (v := nI 2) dX11_both_1 (by decide) ?_
  refine ww_icmp_neN (tgt := 9) dX11_both_2 (by decide) (by omega) (by omega) (fun c2 => ?_) (fun c2 => ?_)
  · refine ww_iload_n dX11_both_9 rfl rfl ?_
    refine ww_iconst (v := nI 3) dX11_both_10 (by decide) ?_
    refine ww_icmp_neN (tgt := 18) dX11_both_11 (by decide) (by omega) (by omega) (fun c11 => ?_) (fun c11 => ?_)
    · exact absurd c11 (by decide)
    · refine ww_iload_n dX11_both_14 rfl rfl ?_
      refine ww_iload_n dX11_both_15 rfl rfl ?_
      refine ww_isub dX11_both_16 ?_
      exact ww_iret dX11_both_17 rfl ⟨by first | rfl | (rw [joinC_5, if_neg (by assumption)]; done) | (rw [joinC_5, if_pos (by assumption)]; rfl) | (rw [joinC_6, if_neg (by assumption)]; done) | (rw [joinC_6, if_pos (by assumption)]; rfl) | (rw [joinC_7, if_pos (by simpa using c63)]; done) | (rw [joinC_7, if_neg (by simpa using c63)]; done) | (rw [joinC_lt8, if_pos (by simpa using c63)]; done) | (rw [joinC_lt8, if_neg (by simpa using c63)]; done), rfl⟩
  · exact absurd c2 (by decide)
set_option maxHeartbeats 4000000 in
set_option maxRecDepth 100000 in
theorem c_M_both4 {l : Launch} {Z : EE} (hst : l.stackTraces = false) (x y : Int32) (h : PH) : CC l Z m_X11_both 0 0 0 [.int (nI 4), .int x, .int y] h (RT (some (.int (joinC (nI 4) x y))) h) := by
  refine ee_entry hst (by decide +kernel) rfl rfl (by simp [Value.category]) (Nat.le_of_ble_eq_true rfl) ?_
  refine ww_lv (lv2 := [.int (nI 4), .int x, .int y]) rfl ?_
  refine ww_iload_n dX11_both_0 rfl rfl ?_
  refine ww_iconst (v := nI 2) dX11_both_1 (by decide) ?_
  refine ww_icmp_neN (tgt := 9) dX11_both_2 (by decide) (by omega) (by omega) (fun c2 => ?_) (fun c2 => ?_)
  · refine ww_iload_n dX11_both_9 rfl rfl ?_
    refine ww_iconst (v := nI 3) dX11_both_10 (by decide) ?_
    refine ww_icmp_neN (tgt := 18) dX11_both_11 (by decide) (by omega) (by omega) (fun c11 => ?_) (fun c11 => ?_)
    · refine ww_iload_n dX11_both_18 rfl rfl ?_
      refine ww_iconst (v := nI 4) dX11_both_19 (by decide) ?_
      refine ww_icmp_neN (tgt := 27) dX11_both_20 (by decide) (by omega) (by omega) (fun c20 => ?_) (fun c20 => ?_)
      · exact absurd c20 (by decide)
      · refine ww_iload_n dX11_both_23 rfl rfl ?_
        refine ww_iload_n dX11_both_24 rfl rfl ?_
        refine ww_imul dX11_both_25 ?_
        exact ww_iret dX11_both_26 rfl ⟨by first | rfl | (rw [joinC_5, if_neg (by assumption)]; done) | (rw [joinC_5, if_pos (by assumption)]; rfl) | (rw [joinC_6, if_neg (by assumption)]; done) | (rw [joinC_6, if_pos (by assumption)]; rfl) | (rw [joinC_7, if_pos (by simpa using c63)]; done) | (rw [joinC_7, if_neg (by simpa using c63)]; done) | (rw [joinC_lt8, if_pos (by simpa using c63)]; done) | (rw [joinC_lt8, if_neg (by simpa using c63)]; done), rfl⟩
    · exact absurd c11 (by decide)
  · exact absurd c2 (by decide)
set_option maxHeartbeats 4000000 in
set_option maxRecDepth 100000 in
theorem c_M_both5 {l : Launch} {Z : EE} (hst : l.stackTraces = false) (x y : Int32) (h : PH) : CC l Z m_X11_both 0 0 0 [.int (nI 5), .int x, .int y] h (RT (some (.int (joinC (nI 5) x y))) h) := by
  refine ee_entry hst (by decide +kernel) rfl rfl (by simp [Value.category]) (Nat.le_of_ble_eq_true rfl) ?_
  refine ww_lv (lv2 := [.int (nI 5), .int x, .int y]) rfl ?_
  refine ww_iload_n dX11_both_0 rfl rfl ?_
  refine ww_iconst (v := nI 2) dX11_both_1 (by decide) ?_
  refine ww_icmp_neN (tgt := 9) dX11_both_2 (by decide) (by omega) (by omega) (fun c2 => ?_) (fun c2 => ?_)
  · refine ww_iload_n dX11_both_9 rfl rfl ?_
    refine ww_iconst (v := nI 3) dX11_both_10 (by decide) ?_
    refine ww_icmp_neN (tgt := 18) dX11_both_11 (by decide) (by omega) (by omega) (fun c11 => ?_) (fun c11 => ?_)
    · refine ww_iload_n dX11_both_18 rfl rfl ?_
      refine ww_iconst (v := nI 4) dX11_both_19 (by decide) ?_
      refine ww_icmp_neN (tgt := 27) dX11_both_20 (by decide) (by omega) (by omega) (fun c20 => ?_) (fun c20 => ?_)
      · refine ww_iload_n dX11_both_27 rfl rfl ?_
        refine ww_iconst (v := nI 5) dX11_both_28 (by decide) ?_
        refine ww_icmp_eqN (tgt := 38) dX11_both_29 (by decide) (by omega) (by omega) (fun c29 => ?_) (fun c29 => ?_)
        · refine ww_iload_n dX11_both_38 rfl rfl ?_
          refine ww_if_ne (tgt := 46) dX11_both_39 (by decide) (fun c39 => ?_) (fun c39 => ?_)
          · refine ww_iload_n dX11_both_46 rfl rfl ?_
            refine ww_iconst (v := nI 5) dX11_both_47 (by decide) ?_
            refine ww_icmp_neN (tgt := 57) dX11_both_48 (by decide) (by omega) (by omega) (fun c48 => ?_) (fun c48 => ?_)
            · exact absurd c48 (by decide)
            · refine ww_iload_n dX11_both_51 rfl rfl ?_
              refine ww_iload_n dX11_both_52 rfl rfl ?_
              refine ww_idiv dX11_both_53 (by simpa using c39) ?_
              refine ww_goto (tgt := 60) dX11_both_54 (by decide) ?_
              exact ww_iret dX11_both_60 rfl ⟨by first | rfl | (rw [joinC_5, if_neg (by assumption)]; done) | (rw [joinC_5, if_pos (by assumption)]; rfl) | (rw [joinC_6, if_neg (by assumption)]; done) | (rw [joinC_6, if_pos (by assumption)]; rfl) | (rw [joinC_7, if_pos (by simpa using c63)]; done) | (rw [joinC_7, if_neg (by simpa using c63)]; done) | (rw [joinC_lt8, if_pos (by simpa using c63)]; done) | (rw [joinC_lt8, if_neg (by simpa using c63)]; done), rfl⟩
          · refine ww_iconst (v := nI 0) dX11_both_42 (by decide) ?_
            refine ww_goto (tgt := 60) dX11_both_43 (by decide) ?_
            exact ww_iret dX11_both_60 rfl ⟨by first | rfl | (rw [joinC_5, if_neg (by assumption)]; done) | (rw [joinC_5, if_pos (by assumption)]; rfl) | (rw [joinC_6, if_neg (by assumption)]; done) | (rw [joinC_6, if_pos (by assumption)]; rfl) | (rw [joinC_7, if_pos (by simpa using c63)]; done) | (rw [joinC_7, if_neg (by simpa using c63)]; done) | (rw [joinC_lt8, if_pos (by simpa using c63)]; done) | (rw [joinC_lt8, if_neg (by simpa using c63)]; done), rfl⟩
        · exact absurd c29 (by decide)
      · exact absurd c20 (by decide)
    · exact absurd c11 (by decide)
  · exact absurd c2 (by decide)
set_option maxHeartbeats 4000000 in
set_option maxRecDepth 100000 in
theorem c_M_both6 {l : Launch} {Z : EE} (hst : l.stackTraces = false) (x y : Int32) (h : PH) : CC l Z m_X11_both 0 0 0 [.int (nI 8), .int x, .int y] h (RT (some (.int (joinC (nI 6) x y))) h) := by
  refine ee_entry hst (by decide +kernel) rfl rfl (by simp [Value.category]) (Nat.le_of_ble_eq_true rfl) ?_
  refine ww_lv (lv2 := [.int (nI 8), .int x, .int y]) rfl ?_
  refine ww_iload_n dX11_both_0 rfl rfl ?_
  refine ww_iconst (v := nI 2) dX11_both_1 (by decide) ?_
  refine ww_icmp_neN (tgt := 9) dX11_both_2 (by decide) (by omega) (by omega) (fun c2 => ?_) (fun c2 => ?_)
  · refine ww_iload_n dX11_both_9 rfl rfl ?_
    refine ww_iconst (v := nI 3) dX11_both_10 (by decide) ?_
    refine ww_icmp_neN (tgt := 18) dX11_both_11 (by decide) (by omega) (by omega) (fun c11 => ?_) (fun c11 => ?_)
    · refine ww_iload_n dX11_both_18 rfl rfl ?_
      refine ww_iconst (v := nI 4) dX11_both_19 (by decide) ?_
      refine ww_icmp_neN (tgt := 27) dX11_both_20 (by decide) (by omega) (by omega) (fun c20 => ?_) (fun c20 => ?_)
      · refine ww_iload_n dX11_both_27 rfl rfl ?_
        refine ww_iconst (v := nI 5) dX11_both_28 (by decide) ?_
        refine ww_icmp_eqN (tgt := 38) dX11_both_29 (by decide) (by omega) (by omega) (fun c29 => ?_) (fun c29 => ?_)
        · exact absurd c29 (by decide)
        · refine ww_iload_n dX11_both_32 rfl rfl ?_
          refine ww_bipush (v := nI 8) dX11_both_33 (by decide) ?_
          refine ww_icmp_neN (tgt := 61) dX11_both_35 (by decide) (by omega) (by omega) (fun c35 => ?_) (fun c35 => ?_)
          · exact absurd c35 (by decide)
          · refine ww_iload_n dX11_both_38 rfl rfl ?_
            refine ww_if_ne (tgt := 46) dX11_both_39 (by decide) (fun c39 => ?_) (fun c39 => ?_)
            · refine ww_iload_n dX11_both_46 rfl rfl ?_
              refine ww_iconst (v := nI 5) dX11_both_47 (by decide) ?_
              refine ww_icmp_neN (tgt := 57) dX11_both_48 (by decide) (by omega) (by omega) (fun c48 => ?_) (fun c48 => ?_)
              · refine ww_iload_n dX11_both_57 rfl rfl ?_
                refine ww_iload_n dX11_both_58 rfl rfl ?_
                refine ww_irem dX11_both_59 (by simpa using c39) ?_
                exact ww_iret dX11_both_60 rfl ⟨by first | rfl | (rw [joinC_5, if_neg (by assumption)]; done) | (rw [joinC_5, if_pos (by assumption)]; rfl) | (rw [joinC_6, if_neg (by assumption)]; done) | (rw [joinC_6, if_pos (by assumption)]; rfl) | (rw [joinC_7, if_pos (by simpa using c63)]; done) | (rw [joinC_7, if_neg (by simpa using c63)]; done) | (rw [joinC_lt8, if_pos (by simpa using c63)]; done) | (rw [joinC_lt8, if_neg (by simpa using c63)]; done), rfl⟩
              · exact absurd c48 (by decide)
            · refine ww_iconst (v := nI 0) dX11_both_42 (by decide) ?_
              refine ww_goto (tgt := 60) dX11_both_43 (by decide) ?_
              exact ww_iret dX11_both_60 rfl ⟨by first | rfl | (rw [joinC_5, if_neg (by assumption)]; done) | (rw [joinC_5, if_pos (by assumption)]; rfl) | (rw [joinC_6, if_neg (by assumption)]; done) | (rw [joinC_6, if_pos (by assumption)]; rfl) | (rw [joinC_7, if_pos (by simpa using c63)]; done) | (rw [joinC_7, if_neg (by simpa using c63)]; done) | (rw [joinC_lt8, if_pos (by simpa using c63)]; done) | (rw [joinC_lt8, if_neg (by simpa using c63)]; done), rfl⟩
      · exact absurd c20 (by decide)
    · exact absurd c11 (by decide)
  · exact absurd c2 (by decide)
set_option maxHeartbeats 4000000 in
set_option maxRecDepth 100000 in
theorem c_M_both7 {l : Launch} {Z : EE} (hst : l.stackTraces = false) (x y : Int32) (h : PH) : CC l Z m_X11_both 0 0 0 [.int (nI 6), .int x, .int y] h (RT (some (.int (joinC (nI 7) x y))) h) := by
  refine ee_entry hst (by decide +kernel) rfl rfl (by simp [Value.category]) (Nat.le_of_ble_eq_true rfl) ?_
  refine ww_lv (lv2 := [.int (nI 6), .int x, .int y]) rfl ?_
  refine ww_iload_n dX11_both_0 rfl rfl ?_
  refine ww_iconst (v := nI 2) dX11_both_1 (by decide) ?_
  refine ww_icmp_neN (tgt := 9) dX11_both_2 (by decide) (by omega) (by omega) (fun c2 => ?_) (fun c2 => ?_)
  · refine ww_iload_n dX11_both_9 rfl rfl ?_
    refine ww_iconst (v := nI 3) dX11_both_10 (by decide) ?_
    refine ww_icmp_neN (tgt := 18) dX11_both_11 (by decide) (by omega) (by omega) (fun c11 => ?_) (fun c11 => ?_)
    · refine ww_iload_n dX11_both_18 rfl rfl ?_
      refine ww_iconst (v := nI 4) dX11_both_19 (by decide) ?_
      refine ww_icmp_neN (tgt := 27) dX11_both_20 (by decide) (by omega) (by omega) (fun c20 => ?_) (fun c20 => ?_)
      · refine ww_iload_n dX11_both_27 rfl rfl ?_
        refine ww_iconst (v := nI 5) dX11_both_28 (by decide) ?_
        refine ww_icmp_eqN (tgt := 38) dX11_both_29 (by decide) (by omega) (by omega) (fun c29 => ?_) (fun c29 => ?_)
        · exact absurd c29 (by decide)
        · refine ww_iload_n dX11_both_32 rfl rfl ?_
          refine ww_bipush (v := nI 8) dX11_both_33 (by decide) ?_
          refine ww_icmp_neN (tgt := 61) dX11_both_35 (by decide) (by omega) (by omega) (fun c35 => ?_) (fun c35 => ?_)
          · refine ww_iload_n dX11_both_61 rfl rfl ?_
            refine ww_iload_n dX11_both_62 rfl rfl ?_
            refine ww_icmp_ge (tgt := 70) dX11_both_63 (by decide) (fun c63 => ?_) (fun c63 => ?_)
            · refine ww_iconst (v := nI 0) dX11_both_70 (by decide) ?_
              refine ww_iload_n dX11_both_71 rfl rfl ?_
              refine ww_bipush (v := nI 6) dX11_both_72 (by decide) ?_
              refine ww_icmp_neN (tgt := 81) dX11_both_74 (by decide) (by omega) (by omega) (fun c74 => ?_) (fun c74 => ?_)
              · exact absurd c74 (by decide)
              · refine ww_iconst (v := nI 1) dX11_both_77 (by decide) ?_
                refine ww_goto (tgt := 82) dX11_both_78 (by decide) ?_
                refine ww_icmp_neN (tgt := 89) dX11_both_82 (by decide) (by omega) (by omega) (fun c82 => ?_) (fun c82 => ?_)
                · refine ww_iload_n dX11_both_89 rfl rfl ?_
                  exact ww_iret dX11_both_90 rfl ⟨by first | rfl | (rw [joinC_5, if_neg (by assumption)]; done) | (rw [joinC_5, if_pos (by assumption)]; rfl) | (rw [joinC_6, if_neg (by assumption)]; done) | (rw [joinC_6, if_pos (by assumption)]; rfl) | (rw [joinC_7, if_pos (by simpa using c63)]; done) | (rw [joinC_7, if_neg (by simpa using c63)]; done) | (rw [joinC_lt8, if_pos (by simpa using c63)]; done) | (rw [joinC_lt8, if_neg (by simpa using c63)]; done), rfl⟩
                · exact absurd c82 (by decide)
            · refine ww_iconst (v := nI 1) dX11_both_66 (by decide) ?_
              refine ww_goto (tgt := 71) dX11_both_67 (by decide) ?_
              refine ww_iload_n dX11_both_71 rfl rfl ?_
              refine ww_bipush (v := nI 6) dX11_both_72 (by decide) ?_
              refine ww_icmp_neN (tgt := 81) dX11_both_74 (by decide) (by omega) (by omega) (fun c74 => ?_) (fun c74 => ?_)
              · exact absurd c74 (by decide)
              · refine ww_iconst (v := nI 1) dX11_both_77 (by decide) ?_
                refine ww_goto (tgt := 82) dX11_both_78 (by decide) ?_
                refine ww_icmp_neN (tgt := 89) dX11_both_82 (by decide) (by omega) (by omega) (fun c82 => ?_) (fun c82 => ?_)
                · exact absurd c82 (by decide)
                · refine ww_iload_n dX11_both_85 rfl rfl ?_
                  refine ww_goto (tgt := 90) dX11_both_86 (by decide) ?_
                  exact ww_iret dX11_both_90 rfl ⟨by first | rfl | (rw [joinC_5, if_neg (by assumption)]; done) | (rw [joinC_5, if_pos (by assumption)]; rfl) | (rw [joinC_6, if_neg (by assumption)]; done) | (rw [joinC_6, if_pos (by assumption)]; rfl) | (rw [joinC_7, if_pos (by simpa using c63)]; done) | (rw [joinC_7, if_neg (by simpa using c63)]; done) | (rw [joinC_lt8, if_pos (by simpa using c63)]; done) | (rw [joinC_lt8, if_neg (by simpa using c63)]; done), rfl⟩
          · exact absurd c35 (by decide)
      · exact absurd c20 (by decide)
    · exact absurd c11 (by decide)
  · exact absurd c2 (by decide)
set_option maxHeartbeats 4000000 in
set_option maxRecDepth 100000 in
theorem c_M_both8 {l : Launch} {Z : EE} (hst : l.stackTraces = false) (x y : Int32) (h : PH) : CC l Z m_X11_both 0 0 0 [.int (nI 7), .int x, .int y] h (RT (some (.int (joinC (nI 8) x y))) h) := by
  refine ee_entry hst (by decide +kernel) rfl rfl (by simp [Value.category]) (Nat.le_of_ble_eq_true rfl) ?_
  refine ww_lv (lv2 := [.int (nI 7), .int x, .int y]) rfl ?_
  refine ww_iload_n dX11_both_0 rfl rfl ?_
  refine ww_iconst (v := nI 2) dX11_both_1 (by decide) ?_
  refine ww_icmp_neN (tgt := 9) dX11_both_2 (by decide) (by omega) (by omega) (fun c2 => ?_) (fun c2 => ?_)
  · refine ww_iload_n dX11_both_9 rfl rfl ?_
    refine ww_iconst (v := nI 3) dX11_both_10 (by decide) ?_
    refine ww_icmp_neN (tgt := 18) dX11_both_11 (by decide) (by omega) (by omega) (fun c11 => ?_) (fun c11 => ?_)
    · refine ww_iload_n dX11_both_18 rfl rfl ?_
      refine ww_iconst (v := nI 4) dX11_both_19 (by decide) ?_
      refine ww_icmp_neN (tgt := 27) dX11_both_20 (by decide) (by omega) (by omega) (fun c20 => ?_) (fun c20 => ?_)
      · refine ww_iload_n dX11_both_27 rfl rfl ?_
        refine ww_iconst (v := nI 5) dX11_both_28 (by decide) ?_
        refine ww_icmp_eqN (tgt := 38) dX11_both_29 (by decide) (by omega) (by omega) (fun c29 => ?_) (fun c29 => ?_)
        · exact absurd c29 (by decide)
        · refine ww_iload_n dX11_both_32 rfl rfl ?_
          refine ww_bipush (v := nI 8) dX11_both_33 (by decide) ?_
          refine ww_icmp_neN (tgt := 61) dX11_both_35 (by decide) (by omega) (by omega) (fun c35 => ?_) (fun c35 => ?_)
          · refine ww_iload_n dX11_both_61 rfl rfl ?_
            refine ww_iload_n dX11_both_62 rfl rfl ?_
            refine ww_icmp_ge (tgt := 70) dX11_both_63 (by decide) (fun c63 => ?_) (fun c63 => ?_)
            · refine ww_iconst (v := nI 0) dX11_both_70 (by decide) ?_
              refine ww_iload_n dX11_both_71 rfl rfl ?_
              refine ww_bipush (v := nI 6) dX11_both_72 (by decide) ?_
              refine ww_icmp_neN (tgt := 81) dX11_both_74 (by decide) (by omega) (by omega) (fun c74 => ?_) (fun c74 => ?_)
              · refine ww_iconst (v := nI 0) dX11_both_81 (by decide) ?_
                refine ww_icmp_neN (tgt := 89) dX11_both_82 (by decide) (by omega) (by omega) (fun c82 => ?_) (fun c82 => ?_)
                · exact absurd c82 (by decide)
                · refine ww_iload_n dX11_both_85 rfl rfl ?_
                  refine ww_goto (tgt := 90) dX11_both_86 (by decide) ?_
                  exact ww_iret dX11_both_90 rfl ⟨by first | rfl | (rw [joinC_5, if_neg (by assumption)]; done) | (rw [joinC_5, if_pos (by assumption)]; rfl) | (rw [joinC_6, if_neg (by assumption)]; done) | (rw [joinC_6, if_pos (by assumption)]; rfl) | (rw [joinC_7, if_pos (by simpa using c63)]; done) | (rw [joinC_7, if_neg (by simpa using c63)]; done) | (rw [joinC_lt8, if_pos (by simpa using c63)]; done) | (rw [joinC_lt8, if_neg (by simpa using c63)]; done), rfl⟩
              · exact absurd c74 (by decide)
            · refine ww_iconst (v := nI 1) dX11_both_66 (by decide) ?_
              refine ww_goto (tgt := 71) dX11_both_67 (by decide) ?_
              refine ww_iload_n dX11_both_71 rfl rfl ?_
              refine ww_bipush (v := nI 6) dX11_both_72 (by decide) ?_
              refine ww_icmp_neN (tgt := 81) dX11_both_74 (by decide) (by omega) (by omega) (fun c74 => ?_) (fun c74 => ?_)
              · refine ww_iconst (v := nI 0) dX11_both_81 (by decide) ?_
                refine ww_icmp_neN (tgt := 89) dX11_both_82 (by decide) (by omega) (by omega) (fun c82 => ?_) (fun c82 => ?_)
                · refine ww_iload_n dX11_both_89 rfl rfl ?_
                  exact ww_iret dX11_both_90 rfl ⟨by first | rfl | (rw [joinC_5, if_neg (by assumption)]; done) | (rw [joinC_5, if_pos (by assumption)]; rfl) | (rw [joinC_6, if_neg (by assumption)]; done) | (rw [joinC_6, if_pos (by assumption)]; rfl) | (rw [joinC_7, if_pos (by simpa using c63)]; done) | (rw [joinC_7, if_neg (by simpa using c63)]; done) | (rw [joinC_lt8, if_pos (by simpa using c63)]; done) | (rw [joinC_lt8, if_neg (by simpa using c63)]; done), rfl⟩
                · exact absurd c82 (by decide)
              · exact absurd c74 (by decide)
          · exact absurd c35 (by decide)
      · exact absurd c20 (by decide)
    · exact absurd c11 (by decide)
  · exact absurd c2 (by decide)
set_option maxHeartbeats 4000000 in
set_option maxRecDepth 100000 in
theorem c_M_both {l : Launch} {Z : EE} (hst : l.stackTraces = false) (k : Nat) (k1 : 2 ≤ k) (k2 : k ≤ 8) (x y : Int32) (h : PH) : CC l Z m_X11_both 0 0 0 [.int (nI (trN k)), .int x, .int y] h (RT (some (.int (joinC (nI k) x y))) h) := by
  rcases (by omega : k = 2 ∨ k = 3 ∨ k = 4 ∨ k = 5 ∨ k = 6 ∨ k = 7 ∨ k = 8) with rfl | rfl | rfl | rfl | rfl | rfl | rfl
  · exact c_M_both2 hst x y h
  · exact c_M_both3 hst x y h
  · exact c_M_both4 hst x y h
  · exact c_M_both5 hst x y h
  · exact c_M_both6 hst x y h
  · exact c_M_both7 hst x y h
  · exact c_M_both8 hst x y h
set_option maxHeartbeats 4000000 in
set_option maxRecDepth 100000 in
theorem l_M_partsOf {l : Launch} {Z : EE} (hst : l.stackTraces = false) {h : PH} {n : Nat} (hn : n ≤ 60) {Post : Res → PH → Prop} : ∀ (j k : Nat), k + j = n → WW l Z m_X11_partsOf 0 0 0 29 [.int (nI n), .int (nI (cnt (fun i => n % (i + 1) == 0) n)), .int (nI (n + 1))] [] h Post → WW l Z m_X11_partsOf 0 0 0 4 [.int (nI n), .int (nI (cnt (fun i => n % (i + 1) == 0) k)), .int (nI (k + 1))] [] h Post := by
  intro j
  induction j with
  | zero =>
    intro k hk hexit
    have hk0 : k = n := by omega
    subst hk0
    refine ww_iload_n dX11_partsOf_4 rfl rfl ?_
    refine ww_iload_n dX11_partsOf_5 rfl rfl ?_
    refine ww_icmp_gtN (tgt := 29) dX11_partsOf_6 (by decide) (by first | omega | (have := Nat.mod_lt n (show 0 < k + 1 by omega); omega)) (by first | omega | (have := Nat.mod_lt n (show 0 < k + 1 by omega); omega)) (fun c6 => ?_) (fun c6 => ?_)
    · exact hexit
    · exfalso; omega
  | succ j ih =>
    intro k hk hexit
    refine ww_iload_n dX11_partsOf_4 rfl rfl ?_
    refine ww_iload_n dX11_partsOf_5 rfl rfl ?_
    refine ww_icmp_gtN (tgt := 29) dX11_partsOf_6 (by decide) (by first | omega | (have := Nat.mod_lt n (show 0 < k + 1 by omega); omega)) (by first | omega | (have := Nat.mod_lt n (show 0 < k + 1 by omega); omega)) (fun c6 => ?_) (fun c6 => ?_)
    · exfalso; omega
    · refine ww_iload_n dX11_partsOf_9 rfl rfl ?_
      refine ww_iload_n dX11_partsOf_10 rfl rfl ?_
      refine ww_iload_n dX11_partsOf_11 rfl rfl ?_
      refine ww_iremN dX11_partsOf_12 (by first | omega | (have := Nat.mod_lt n (show 0 < k + 1 by omega); omega)) (by first | omega | (have := Nat.mod_lt n (show 0 < k + 1 by omega); omega)) (by first | omega | (have := Nat.mod_lt n (show 0 < k + 1 by omega); omega)) ?_
      refine ww_if_neN (tgt := 20) dX11_partsOf_13 (by decide) (by first | omega | (have := Nat.mod_lt n (show 0 < k + 1 by omega); omega)) (fun c13 => ?_) (fun c13 => ?_)
      · refine ww_iconst (v := nI 0) dX11_partsOf_20 (by decide) ?_
        refine ww_iaddN dX11_partsOf_21 ?_
        refine ww_sti_n (lv2 := [.int (nI n), .int (nI ((cnt (fun i => n % (i + 1) == 0) k) + 0)), .int (nI (k + 1))]) dX11_partsOf_22 rfl rfl (by decide) rfl ?_
        refine ww_incN (c := 1) (lv2 := [.int (nI n), .int (nI ((cnt (fun i => n % (i + 1) == 0) k) + 0)), .int (nI (k + 1 + 1))]) dX11_partsOf_23 rfl rfl rfl (by decide) rfl ?_
        refine ww_goto (tgt := 4) dX11_partsOf_26 (by decide) ?_
        refine ww_lv (lv2 := [.int (nI n), .int (nI (cnt (fun i => n % (i + 1) == 0) (k + 1))), .int (nI ((k + 1) + 1))]) (by first | (simp [cnt, c13]; done) | (have z : ¬ n % (k + 1) = 0 := (by omega); simp [cnt, z])) ?_
        exact ih (k + 1) (by omega) hexit
      · refine ww_iconst (v := nI 1) dX11_partsOf_16 (by decide) ?_
        refine ww_goto (tgt := 21) dX11_partsOf_17 (by decide) ?_
        refine ww_iaddN dX11_partsOf_21 ?_
        refine ww_sti_n (lv2 := [.int (nI n), .int (nI ((cnt (fun i => n % (i + 1) == 0) k) + 1)), .int (nI (k + 1))]) dX11_partsOf_22 rfl rfl (by decide) rfl ?_
        refine ww_incN (c := 1) (lv2 := [.int (nI n), .int (nI ((cnt (fun i => n % (i + 1) == 0) k) + 1)), .int (nI (k + 1 + 1))]) dX11_partsOf_23 rfl rfl rfl (by decide) rfl ?_
        refine ww_goto (tgt := 4) dX11_partsOf_26 (by decide) ?_
        refine ww_lv (lv2 := [.int (nI n), .int (nI (cnt (fun i => n % (i + 1) == 0) (k + 1))), .int (nI ((k + 1) + 1))]) (by first | (simp [cnt, c13]; done) | (have z : ¬ n % (k + 1) = 0 := (by omega); simp [cnt, z])) ?_
        exact ih (k + 1) (by omega) hexit
set_option maxHeartbeats 4000000 in
set_option maxRecDepth 100000 in
theorem c_M_partsOf {l : Launch} {Z : EE} (hst : l.stackTraces = false) (n : Nat) (hn : n ≤ 60) (h : PH) : CC l Z m_X11_partsOf 0 0 0 [.int (nI n)] h (RT (some (.int (nI (dvN n)))) h) := by
  refine ee_entry hst (by decide +kernel) rfl rfl (by simp [Value.category]) (Nat.le_of_ble_eq_true rfl) ?_
  refine ww_lv (lv2 := [.int (nI n), UU, UU]) rfl ?_
  refine ww_iconst (v := nI 0) dX11_partsOf_0 (by decide) ?_
  refine ww_sti_n (lv2 := [.int (nI n), .int (nI 0), UU]) dX11_partsOf_1 rfl rfl (by decide) rfl ?_
  refine ww_iconst (v := nI 1) dX11_partsOf_2 (by decide) ?_
  refine ww_sti_n (lv2 := [.int (nI n), .int (nI 0), .int (nI 1)]) dX11_partsOf_3 rfl rfl (by decide) rfl ?_
  refine l_M_partsOf hst hn n 0 (by omega) ?_
  exact ww_iload_n dX11_partsOf_29 rfl rfl (ww_iret dX11_partsOf_30 rfl ⟨rfl, rfl⟩)
set_option maxHeartbeats 4000000 in
set_option maxRecDepth 100000 in
theorem l_M_valueNow {l : Launch} {Z : EE} (hst : l.stackTraces = false) {h : PH} {m : Nat} (hM : ModS h m) {sz : Nat} {kf vf : Nat → Int32} (hQ : LawM h m sz kf vf) (hok : LawOK kf vf sz) {fa s0 : Nat → Int32} (hfa : hp_I h (m + 11) = fa) (hs0 : hp_I h (m + 10) = s0) : ∀ (j k : Nat), k + j = sz → WW l Z m_X11_valueNow 1 0 0 4 [.ref m, .int (nI (dpF kf k)), .int (nI k), UU] [] (hp_sI h (m + 10) (svS joinC kf vf fa s0 k)) (RT (some (.int (svS joinC kf vf fa s0 sz 0))) (hp_sI h (m + 10) (svS joinC kf vf fa s0 sz))) := by
  have hsz := hQ.2.1
  intro j
  induction j with
  | zero =>
    intro k hk
    have hk0 : k = sz := by omega
    subst hk0
    refine ww_iload_n dX11_valueNow_4 rfl rfl ?_
    refine ww_aload_n dX11_valueNow_5 rfl rfl ?_
    refine ww_get 23 dX11_valueNow_6 hM.K0 rfl (by decide) inX11 wg_1263 hQ.1 ?_
    refine ww_icmp_geN (tgt := 95) dX11_valueNow_9 (by decide) (by omega) (by omega) (fun c9 => ?_) (fun c9 => ?_)
    · refine ww_aload_n dX11_valueNow_95 rfl rfl ?_
      refine ww_get 21 dX11_valueNow_96 hM.K0 rfl (by decide) inX11 wg_1261 hM.F10 ?_
      refine ww_iconst (v := nI 0) dX11_valueNow_99 (by decide) ?_
      refine ww_ialdF dX11_valueNow_100 hM.K10 (hp_I_eq _ _ _) (by omega) (by omega) ?_
      exact ww_iret dX11_valueNow_101 rfl ⟨rfl, rfl⟩
    · exfalso; omega
  | succ j ih =>
    intro k hk
    obtain ⟨hc, hdp⟩ := hok.1 k (by omega)
    have hcf := hQ.2.2.1 k (by omega)
    have hvf := hQ.2.2.2 k (by omega)
    rcases hc with h0 | ⟨h1, q, hq, hv⟩ | ⟨kk, k1, k2, hkk, h2⟩
    · refine ww_iload_n dX11_valueNow_4 rfl rfl ?_
      refine ww_aload_n dX11_valueNow_5 rfl rfl ?_
      refine ww_get 23 dX11_valueNow_6 hM.K0 rfl (by decide) inX11 wg_1263 hQ.1 ?_
      refine ww_icmp_geN (tgt := 95) dX11_valueNow_9 (by decide) (by omega) (by omega) (fun c9 => ?_) (fun c9 => ?_)
      · exfalso; omega
      · refine ww_aload_n dX11_valueNow_12 rfl rfl ?_
        refine ww_get 19 dX11_valueNow_13 hM.K0 rfl (by decide) inX11 wg_1259 hM.F8 ?_
        refine ww_iload_n dX11_valueNow_16 rfl rfl ?_
        refine ww_ialdF dX11_valueNow_17 hM.K8 (hp_I_nx (by omega) rfl) (by omega) (by omega) ?_
        rw [show _ = nI 0 from hcf 0 (by omega) h0]
        refine ww_sti_n (lv2 := [.ref m, .int (nI (dpF kf k)), .int (nI k), .int (nI 0)]) dX11_valueNow_18 rfl rfl (by decide) rfl ?_
        refine ww_iload_n dX11_valueNow_19 rfl rfl ?_
        refine ww_iconst (v := nI 1) dX11_valueNow_20 (by decide) ?_
        refine ww_icmp_gtN (tgt := 60) dX11_valueNow_21 (by decide) (by omega) (by omega) (fun c21 => ?_) (fun c21 => ?_)
        · exact absurd c21 (by decide)
        · refine ww_aload_n dX11_valueNow_24 rfl rfl ?_
          refine ww_get 21 dX11_valueNow_25 hM.K0 rfl (by decide) inX11 wg_1261 hM.F10 ?_
          refine ww_iload_n dX11_valueNow_28 rfl rfl ?_
          refine ww_iload_n dX11_valueNow_29 rfl rfl ?_
          refine ww_if_neN (tgt := 42) dX11_valueNow_30 (by decide) (by omega) (fun c30 => ?_) (fun c30 => ?_)
          · exact absurd c30 (by decide)
          · refine ww_aload_n dX11_valueNow_33 rfl rfl ?_
            refine ww_get 20 dX11_valueNow_34 hM.K0 rfl (by decide) inX11 wg_1260 hM.F9 ?_
            refine ww_iload_n dX11_valueNow_37 rfl rfl ?_
            refine ww_ialdF dX11_valueNow_38 hM.K9 (hp_I_nx (by omega) rfl) (by omega) (by omega) ?_
            rw [hvf]
            refine ww_goto (tgt := 53) dX11_valueNow_39 (by decide) ?_
            refine ww_iastC dX11_valueNow_53 hM.K10 (by omega) (by omega) ?_
            refine ww_incN (c := 1) (lv2 := [.ref m, .int (nI (dpF kf k + 1)), .int (nI k), .int (nI 0)]) dX11_valueNow_54 rfl rfl rfl (by decide) rfl ?_
            refine ww_goto (tgt := 89) dX11_valueNow_57 (by decide) ?_
            refine ww_incN (c := 1) (lv2 := [.ref m, .int (nI (dpF kf k + 1)), .int (nI (k + 1)), .int (nI 0)]) dX11_valueNow_89 rfl rfl rfl (by decide) rfl ?_
            refine ww_goto (tgt := 4) dX11_valueNow_92 (by decide) ?_
            refine ww_fg (lv2 := [.ref m, .int (nI (dpF kf k + 1)), .int (nI (k + 1)), UU]) ⟨Or.inr rfl, Or.inr rfl, Or.inr rfl, Or.inl rfl, trivial⟩ ?_
            refine ww_lv (lv2 := [.ref m, .int (nI (dpF kf (k + 1))), .int (nI (k + 1)), UU]) (by simp [dpF, Nat.sub_sub, h0]) ?_
            refine ww_hp (h2 := hp_sI h (m + 10) (svS joinC kf vf fa s0 (k + 1))) (by simp [svS, Nat.sub_sub, h0]) ?_
            exact ih (k + 1) (by omega)
    · refine ww_iload_n dX11_valueNow_4 rfl rfl ?_
      refine ww_aload_n dX11_valueNow_5 rfl rfl ?_
      refine ww_get 23 dX11_valueNow_6 hM.K0 rfl (by decide) inX11 wg_1263 hQ.1 ?_
      refine ww_icmp_geN (tgt := 95) dX11_valueNow_9 (by decide) (by omega) (by omega) (fun c9 => ?_) (fun c9 => ?_)
      · exfalso; omega
      · refine ww_aload_n dX11_valueNow_12 rfl rfl ?_
        refine ww_get 19 dX11_valueNow_13 hM.K0 rfl (by decide) inX11 wg_1259 hM.F8 ?_
        refine ww_iload_n dX11_valueNow_16 rfl rfl ?_
        refine ww_ialdF dX11_valueNow_17 hM.K8 (hp_I_nx (by omega) rfl) (by omega) (by omega) ?_
        rw [show _ = nI 1 from hcf 1 (by omega) h1]
        refine ww_sti_n (lv2 := [.ref m, .int (nI (dpF kf k)), .int (nI k), .int (nI 1)]) dX11_valueNow_18 rfl rfl (by decide) rfl ?_
        refine ww_iload_n dX11_valueNow_19 rfl rfl ?_
        refine ww_iconst (v := nI 1) dX11_valueNow_20 (by decide) ?_
        refine ww_icmp_gtN (tgt := 60) dX11_valueNow_21 (by decide) (by omega) (by omega) (fun c21 => ?_) (fun c21 => ?_)
        · exact absurd c21 (by decide)
        · refine ww_aload_n dX11_valueNow_24 rfl rfl ?_
          refine ww_get 21 dX11_valueNow_25 hM.K0 rfl (by decide) inX11 wg_1261 hM.F10 ?_
          refine ww_iload_n dX11_valueNow_28 rfl rfl ?_
          refine ww_iload_n dX11_valueNow_29 rfl rfl ?_
          refine ww_if_neN (tgt := 42) dX11_valueNow_30 (by decide) (by omega) (fun c30 => ?_) (fun c30 => ?_)
          · refine ww_aload_n dX11_valueNow_42 rfl rfl ?_
            refine ww_get 24 dX11_valueNow_43 hM.K0 rfl (by decide) inX11 wg_1264 hM.F11 ?_
            refine ww_aload_n dX11_valueNow_46 rfl rfl ?_
            refine ww_get 20 dX11_valueNow_47 hM.K0 rfl (by decide) inX11 wg_1260 hM.F9 ?_
            refine ww_iload_n dX11_valueNow_50 rfl rfl ?_
            refine ww_ialdF dX11_valueNow_51 hM.K9 (hp_I_nx (by omega) rfl) (by omega) (by omega) ?_
            rw [hvf, hv]
            refine ww_ialdF dX11_valueNow_52 hM.K11 (hp_I_nx (by omega) hfa) (by omega) (by omega) ?_
            refine ww_iastC dX11_valueNow_53 hM.K10 (by omega) (by omega) ?_
            refine ww_incN (c := 1) (lv2 := [.ref m, .int (nI (dpF kf k + 1)), .int (nI k), .int (nI 1)]) dX11_valueNow_54 rfl rfl rfl (by decide) rfl ?_
            refine ww_goto (tgt := 89) dX11_valueNow_57 (by decide) ?_
            refine ww_incN (c := 1) (lv2 := [.ref m, .int (nI (dpF kf k + 1)), .int (nI (k + 1)), .int (nI 1)]) dX11_valueNow_89 rfl rfl rfl (by decide) rfl ?_
            refine ww_goto (tgt := 4) dX11_valueNow_92 (by decide) ?_
            refine ww_fg (lv2 := [.ref m, .int (nI (dpF kf k + 1)), .int (nI (k + 1)), UU]) ⟨Or.inr rfl, Or.inr rfl, Or.inr rfl, Or.inl rfl, trivial⟩ ?_
            refine ww_lv (lv2 := [.ref m, .int (nI (dpF kf (k + 1))), .int (nI (k + 1)), UU]) (by simp [dpF, Nat.sub_sub, h1, nI_ne (show (1 : Nat) ≠ 0 by omega) (by omega) (by omega), hv, nI_clamp (show q < 2 ^ 31 by omega)]) ?_
            refine ww_hp (h2 := hp_sI h (m + 10) (svS joinC kf vf fa s0 (k + 1))) (by simp [svS, Nat.sub_sub, h1, nI_ne (show (1 : Nat) ≠ 0 by omega) (by omega) (by omega), hv, nI_clamp (show q < 2 ^ 31 by omega)]) ?_
            exact ih (k + 1) (by omega)
          · exact absurd c30 (by decide)
    · have ht : 2 ≤ trN kk ∧ trN kk ≤ 8 := by rcases (by omega : kk = 2 ∨ kk = 3 ∨ kk = 4 ∨ kk = 5 ∨ kk = 6 ∨ kk = 7 ∨ kk = 8) with rfl | rfl | rfl | rfl | rfl | rfl | rfl <;> decide
      refine ww_iload_n dX11_valueNow_4 rfl rfl ?_
      refine ww_aload_n dX11_valueNow_5 rfl rfl ?_
      refine ww_get 23 dX11_valueNow_6 hM.K0 rfl (by decide) inX11 wg_1263 hQ.1 ?_
      refine ww_icmp_geN (tgt := 95) dX11_valueNow_9 (by decide) (by omega) (by omega) (fun c9 => ?_) (fun c9 => ?_)
      · exfalso; omega
      · refine ww_aload_n dX11_valueNow_12 rfl rfl ?_
        refine ww_get 19 dX11_valueNow_13 hM.K0 rfl (by decide) inX11 wg_1259 hM.F8 ?_
        refine ww_iload_n dX11_valueNow_16 rfl rfl ?_
        refine ww_ialdF dX11_valueNow_17 hM.K8 (hp_I_nx (by omega) rfl) (by omega) (by omega) ?_
        rw [hcf kk (by omega) hkk]
        refine ww_sti_n (lv2 := [.ref m, .int (nI (dpF kf k)), .int (nI k), .int (nI (trN kk))]) dX11_valueNow_18 rfl rfl (by decide) rfl ?_
        refine ww_iload_n dX11_valueNow_19 rfl rfl ?_
        refine ww_iconst (v := nI 1) dX11_valueNow_20 (by decide) ?_
        refine ww_icmp_gtN (tgt := 60) dX11_valueNow_21 (by decide) (by omega) (by omega) (fun c21 => ?_) (fun c21 => ?_)
        · refine ww_decN (lv2 := [.ref m, .int (nI ((dpF kf k) - 1)), .int (nI k), .int (nI (trN kk))]) dX11_valueNow_60 rfl (by omega) rfl rfl (by decide) rfl ?_
          refine ww_aload_n dX11_valueNow_63 rfl rfl ?_
          refine ww_get 21 dX11_valueNow_64 hM.K0 rfl (by decide) inX11 wg_1261 hM.F10 ?_
          refine ww_iload_n dX11_valueNow_67 rfl rfl ?_
          refine ww_iconst (v := nI 1) dX11_valueNow_68 (by decide) ?_
          refine ww_isubN dX11_valueNow_69 (by omega) ?_
          refine ww_iload_n dX11_valueNow_70 rfl rfl ?_
          refine ww_aload_n dX11_valueNow_71 rfl rfl ?_
          refine ww_get 21 dX11_valueNow_72 hM.K0 rfl (by decide) inX11 wg_1261 hM.F10 ?_
          refine ww_iload_n dX11_valueNow_75 rfl rfl ?_
          refine ww_iconst (v := nI 1) dX11_valueNow_76 (by decide) ?_
          refine ww_isubN dX11_valueNow_77 (by omega) ?_
          refine ww_ialdF dX11_valueNow_78 hM.K10 (hp_I_eq _ _ _) (by omega) (by omega) ?_
          refine ww_aload_n dX11_valueNow_79 rfl rfl ?_
          refine ww_get 21 dX11_valueNow_80 hM.K0 rfl (by decide) inX11 wg_1261 hM.F10 ?_
          refine ww_iload_n dX11_valueNow_83 rfl rfl ?_
          refine ww_ialdF dX11_valueNow_84 hM.K10 (hp_I_eq _ _ _) (by omega) (by omega) ?_
          refine ww_cSr (M := m_X11_valueNow) (pc := 85) (v := .int (joinC (nI kk) ((svS joinC kf vf fa s0 k) (((dpF kf k) - 1) - 1)) ((svS joinC kf vf fa s0 k) ((dpF kf k) - 1)))) (h1 := hp_sI h (m + 10) (svS joinC kf vf fa s0 k)) (st := [.int (nI (((dpF kf k) - 1) - 1)), .ref (m + 10)]) (bc := 0) (bs := 0) (c_M_both hst kk k1 k2 ((svS joinC kf vf fa s0 k) (((dpF kf k) - 1) - 1)) ((svS joinC kf vf fa s0 k) ((dpF kf k) - 1)) (hp_sI h (m + 10) (svS joinC kf vf fa s0 k))) vv_X11_both dX11_valueNow_85 wg_1574 rfl rfl rfl (Nat.le_of_ble_eq_true rfl) (Nat.le_of_ble_eq_true rfl) (Nat.le_of_ble_eq_true rfl) (Nat.le_of_ble_eq_true rfl) ?_
          refine ww_iastC dX11_valueNow_88 hM.K10 (by omega) (by omega) ?_
          refine ww_incN (c := 1) (lv2 := [.ref m, .int (nI ((dpF kf k) - 1)), .int (nI (k + 1)), .int (nI (trN kk))]) dX11_valueNow_89 rfl rfl rfl (by decide) rfl ?_
          refine ww_goto (tgt := 4) dX11_valueNow_92 (by decide) ?_
          refine ww_fg (lv2 := [.ref m, .int (nI ((dpF kf k) - 1)), .int (nI (k + 1)), UU]) ⟨Or.inr rfl, Or.inr rfl, Or.inr rfl, Or.inl rfl, trivial⟩ ?_
          refine ww_lv (lv2 := [.ref m, .int (nI (dpF kf (k + 1))), .int (nI (k + 1)), UU]) (by simp [dpF, Nat.sub_sub, hkk, nI_ne (show kk ≠ 0 by omega) (by omega) (by omega), nI_ne (show kk ≠ 1 by omega) (by omega) (by omega)]) ?_
          refine ww_hp (h2 := hp_sI h (m + 10) (svS joinC kf vf fa s0 (k + 1))) (by simp [svS, Nat.sub_sub, hkk, nI_ne (show kk ≠ 0 by omega) (by omega) (by omega), nI_ne (show kk ≠ 1 by omega) (by omega) (by omega)]) ?_
          exact ih (k + 1) (by omega)
        · exfalso; omega
set_option maxHeartbeats 4000000 in
set_option maxRecDepth 100000 in
theorem c_M_valueNow {l : Launch} {Z : EE} (hst : l.stackTraces = false) {h : PH} {m : Nat} (hM : ModS h m) {sz : Nat} {kf vf : Nat → Int32} (hQ : LawM h m sz kf vf) (hok : LawOK kf vf sz) {fa s0 : Nat → Int32} (hfa : hp_I h (m + 11) = fa) (hs0 : hp_I h (m + 10) = s0) : CC l Z m_X11_valueNow 1 0 0 [.ref m] h (RT (some (.int (svS joinC kf vf fa s0 sz 0))) (hp_sI h (m + 10) (svS joinC kf vf fa s0 sz))) := by
  refine ee_entry hst (by decide +kernel) rfl rfl (by simp [Value.category]) (Nat.le_of_ble_eq_true rfl) ?_
  refine ww_lv (lv2 := [.ref m, UU, UU, UU]) rfl ?_
  refine ww_iconst (v := nI 0) dX11_valueNow_0 (by decide) ?_
  refine ww_sti_n (lv2 := [.ref m, .int (nI 0), UU, UU]) dX11_valueNow_1 rfl rfl (by decide) rfl ?_
  refine ww_iconst (v := nI 0) dX11_valueNow_2 (by decide) ?_
  refine ww_sti_n (lv2 := [.ref m, .int (nI 0), .int (nI 0), UU]) dX11_valueNow_3 rfl rfl (by decide) rfl ?_
  refine ww_hp (h2 := hp_sI h (m + 10) (svS joinC kf vf fa s0 0)) (by simp only [svS]; rw [← hs0, hp_sI_id]) ?_
  exact l_M_valueNow hst hM hQ hok hfa hs0 sz 0 (by omega)
def askF (sz : Nat) (kf vf fa : Nat → Int32) : Int32 := if sz = 0 then joinC (nI 5) (fa 1) (nI 1 + fa 2) else svS joinC kf vf fa (fun _ => 0) sz 0
theorem askF_eq {sz : Nat} {kf vf fa : Nat → Int32} (hok : LawOK kf vf sz) (n r w o u dd pa : Int32) (hf : ∀ j, j < 7 → fa j = faF n r w o u dd pa j) : askF sz kf vf fa = askR joinC (joinC (nI 5)) sz kf vf n r w o u dd pa := by
  unfold askF askR
  by_cases z : sz = 0
  · rw [if_pos z, if_pos z, hf 1 (by omega), hf 2 (by omega)]; rfl
  · rw [if_neg z, if_neg z]
    exact svS_ind joinC hok hf sz (Nat.le_refl _) 0 (by have := hok.2 (by omega); omega)
set_option maxHeartbeats 4000000 in
set_option maxRecDepth 100000 in
theorem c_M_fareNow {l : Launch} {Z : EE} (hst : l.stackTraces = false) {h : PH} {m : Nat} (hM : ModS h m) {sz : Nat} {kf vf : Nat → Int32} (hQ : LawM h m sz kf vf) (hok : LawOK kf vf sz) {fa : Nat → Int32} (hfa : hp_I h (m + 11) = fa) {w : Nat} (hw : w ≤ 2) (hfw : fa 2 = nI w) : CC l Z m_X11_fareNow 2 0 0 [.ref m] h (RQ (some (.int (clF (askF sz kf vf fa)))) (Same (fun c => c = m + 10) (fun _ _ => False) h)) := by
  refine ee_entry hst (by decide +kernel) rfl rfl (by simp [Value.category]) (Nat.le_of_ble_eq_true rfl) ?_
  refine ww_lv (lv2 := [.ref m, UU]) rfl ?_
  have hsz := hQ.2.1
  refine ww_aload_n dX11_fareNow_0 rfl rfl ?_
  refine ww_get 23 dX11_fareNow_1 hM.K0 rfl (by decide) inX11 wg_1263 hQ.1 ?_
  refine ww_if_neN (tgt := 25) dX11_fareNow_4 (by decide) (by omega) (fun c4 => ?_) (fun c4 => ?_)
  · refine ww_aload_n dX11_fareNow_25 rfl rfl ?_
    refine ww_cVr (M := m_X11_fareNow) (pc := 26) (v := .int (svS joinC kf vf fa (hp_I h (m + 10)) sz 0)) (h1 := hp_sI h (m + 10) (svS joinC kf vf fa (hp_I h (m + 10)) sz)) (st := []) (bc := 0) (bs := 0) (c_M_valueNow hst hM hQ hok hfa rfl) vv_X11_valueNow dX11_fareNow_26 wg_1570 hM.K0 rfl rfl rfl rfl (Nat.le_of_ble_eq_true rfl) (Nat.le_of_ble_eq_true rfl) (Nat.le_of_ble_eq_true rfl) (Nat.le_of_ble_eq_true rfl) ?_
    have ea : svS joinC kf vf fa (hp_I h (m + 10)) sz 0 = askF sz kf vf fa := by
      unfold askF
      rw [if_neg (by omega : ¬ sz = 0)]
      exact svS_ind joinC hok (fun _ _ => rfl) sz (Nat.le_refl _) 0 (by have := hok.2 (by omega); omega)
    rw [ea]
    refine ww_sti_n (lv2 := [.ref m, .int (askF sz kf vf fa)]) dX11_fareNow_29 rfl rfl (by decide) rfl ?_
    refine ww_iload_n dX11_fareNow_30 rfl rfl ?_
    refine ww_if_ge (tgt := 38) dX11_fareNow_31 (by decide) (fun c31 => ?_) (fun c31 => ?_)
    · refine ww_iload_n dX11_fareNow_38 rfl rfl ?_
      refine ww_bipush (v := nI 99) dX11_fareNow_39 (by decide) ?_
      refine ww_icmp_le (tgt := 49) dX11_fareNow_41 (by decide) (fun c41 => ?_) (fun c41 => ?_)
      · refine ww_iload_n dX11_fareNow_49 rfl rfl ?_
        exact ww_iret dX11_fareNow_50 rfl ⟨by unfold clF; rw [if_neg (by simpa using c31), if_neg (by simpa using c41)], (Same.rf.sI rfl)⟩
      · refine ww_bipush (v := nI 99) dX11_fareNow_44 (by decide) ?_
        refine ww_goto (tgt := 50) dX11_fareNow_46 (by decide) ?_
        exact ww_iret dX11_fareNow_50 rfl ⟨by unfold clF; rw [if_neg (by simpa using c31), if_pos (by simpa using c41)], (Same.rf.sI rfl)⟩
    · refine ww_iconst (v := nI 0) dX11_fareNow_34 (by decide) ?_
      refine ww_goto (tgt := 50) dX11_fareNow_35 (by decide) ?_
      exact ww_iret dX11_fareNow_50 rfl ⟨by unfold clF; rw [if_pos (by simpa using c31)]; rfl, (Same.rf.sI rfl)⟩
  · refine ww_aload_n dX11_fareNow_7 rfl rfl ?_
    refine ww_get 24 dX11_fareNow_8 hM.K0 rfl (by decide) inX11 wg_1264 hM.F11 ?_
    refine ww_iconst (v := nI 1) dX11_fareNow_11 (by decide) ?_
    refine ww_ialdF dX11_fareNow_12 hM.K11 hfa (by omega) (by omega) ?_
    refine ww_iconst (v := nI 1) dX11_fareNow_13 (by decide) ?_
    refine ww_aload_n dX11_fareNow_14 rfl rfl ?_
    refine ww_get 24 dX11_fareNow_15 hM.K0 rfl (by decide) inX11 wg_1264 hM.F11 ?_
    refine ww_iconst (v := nI 2) dX11_fareNow_18 (by decide) ?_
    refine ww_ialdF dX11_fareNow_19 hM.K11 hfa (by omega) (by omega) ?_
    rw [hfw]
    refine ww_iaddN dX11_fareNow_20 ?_
    refine ww_idiv dX11_fareNow_21 (nI_ne0 (by omega) (by omega)) ?_
    refine ww_goto (tgt := 29) dX11_fareNow_22 (by decide) ?_
    have ea : (fa 1) / (nI (1 + w)) = askF sz kf vf fa := by
      unfold askF
      rw [if_pos c4, joinC_5, hfw, nI_add, if_neg (nI_ne0 (by omega) (by omega))]
    rw [ea]
    refine ww_sti_n (lv2 := [.ref m, .int (askF sz kf vf fa)]) dX11_fareNow_29 rfl rfl (by decide) rfl ?_
    refine ww_iload_n dX11_fareNow_30 rfl rfl ?_
    refine ww_if_ge (tgt := 38) dX11_fareNow_31 (by decide) (fun c31 => ?_) (fun c31 => ?_)
    · refine ww_iload_n dX11_fareNow_38 rfl rfl ?_
      refine ww_bipush (v := nI 99) dX11_fareNow_39 (by decide) ?_
      refine ww_icmp_le (tgt := 49) dX11_fareNow_41 (by decide) (fun c41 => ?_) (fun c41 => ?_)
      · refine ww_iload_n dX11_fareNow_49 rfl rfl ?_
        exact ww_iret dX11_fareNow_50 rfl ⟨by unfold clF; rw [if_neg (by simpa using c31), if_neg (by simpa using c41)], Same.rf⟩
      · refine ww_bipush (v := nI 99) dX11_fareNow_44 (by decide) ?_
        refine ww_goto (tgt := 50) dX11_fareNow_46 (by decide) ?_
        exact ww_iret dX11_fareNow_50 rfl ⟨by unfold clF; rw [if_neg (by simpa using c31), if_pos (by simpa using c41)], Same.rf⟩
    · refine ww_iconst (v := nI 0) dX11_fareNow_34 (by decide) ?_
      refine ww_goto (tgt := 50) dX11_fareNow_35 (by decide) ?_
      exact ww_iret dX11_fareNow_50 rfl ⟨by unfold clF; rw [if_pos (by simpa using c31)]; rfl, Same.rf⟩
set_option maxHeartbeats 4000000 in
set_option maxRecDepth 100000 in
theorem c_M_fareOf {l : Launch} {Z : EE} (hst : l.stackTraces = false) {h : PH} {m : Nat} (hM : ModS h m) {sz : Nat} {kf vf : Nat → Int32} (hQ : LawM h m sz kf vf) (hok : LawOK kf vf sz) (n : Nat) (hn : n ≤ 60) (r : Int32) (w : Nat) (hw : w ≤ 2) (o u dd : Int32) : CC l Z m_X11_fareOf 3 0 0 [.ref m, .int (nI n), .int r, .int (nI w), .int o, .int u, .int dd] h (RQ (some (.int (askV joinC (joinC (nI 5)) sz kf vf (nI n) r (nI w) o u dd (js_parts.getD n 0)))) (Same (fun c => c = m + 10 ∨ c = m + 11) (fun _ _ => False) h)) := by
  refine ee_entry hst (by decide +kernel) rfl rfl (by simp [Value.category]) (Nat.le_of_ble_eq_true rfl) ?_
  refine ww_lv (lv2 := [.ref m, .int (nI n), .int r, .int (nI w), .int o, .int u, .int dd]) rfl ?_
  refine ww_aload_n dX11_fareOf_0 rfl rfl ?_
  refine ww_get 24 dX11_fareOf_1 hM.K0 rfl (by decide) inX11 wg_1264 hM.F11 ?_
  refine ww_iconst (v := nI 0) dX11_fareOf_4 (by decide) ?_
  refine ww_iload_n dX11_fareOf_5 rfl rfl ?_
  refine ww_iastF dX11_fareOf_6 hM.K11 rfl (by omega) (by omega) ?_
  refine ww_aload_n dX11_fareOf_7 rfl rfl ?_
  refine ww_get 24 dX11_fareOf_8 hM.K0 rfl (by decide) inX11 wg_1264 hM.F11 ?_
  refine ww_iconst (v := nI 1) dX11_fareOf_11 (by decide) ?_
  refine ww_iload_n dX11_fareOf_12 rfl rfl ?_
  refine ww_iastC dX11_fareOf_13 hM.K11 (by omega) (by omega) ?_
  refine ww_aload_n dX11_fareOf_14 rfl rfl ?_
  refine ww_get 24 dX11_fareOf_15 hM.K0 rfl (by decide) inX11 wg_1264 hM.F11 ?_
  refine ww_iconst (v := nI 2) dX11_fareOf_18 (by decide) ?_
  refine ww_iload_n dX11_fareOf_19 rfl rfl ?_
  refine ww_iastC dX11_fareOf_20 hM.K11 (by omega) (by omega) ?_
  refine ww_aload_n dX11_fareOf_21 rfl rfl ?_
  refine ww_get 24 dX11_fareOf_22 hM.K0 rfl (by decide) inX11 wg_1264 hM.F11 ?_
  refine ww_iconst (v := nI 3) dX11_fareOf_25 (by decide) ?_
  refine ww_iload dX11_fareOf_26 rfl ?_
  refine ww_iastC dX11_fareOf_28 hM.K11 (by omega) (by omega) ?_
  refine ww_aload_n dX11_fareOf_29 rfl rfl ?_
  refine ww_get 24 dX11_fareOf_30 hM.K0 rfl (by decide) inX11 wg_1264 hM.F11 ?_
  refine ww_iconst (v := nI 4) dX11_fareOf_33 (by decide) ?_
  refine ww_iload_n dX11_fareOf_34 rfl rfl ?_
  refine ww_cSr (M := m_X11_fareOf) (pc := 35) (v := .int (nI (dvN n))) (h1 := hp_sI h (m + 11) (upd (upd (upd (upd (hp_I h (m + 11)) 0 (nI n)) 1 r) 2 (nI w)) 3 o)) (st := [.int (nI 4), .ref (m + 11)]) (bc := 0) (bs := 0) (c_M_partsOf hst n hn _) vv_X11_partsOf dX11_fareOf_35 wg_1563 rfl rfl rfl (Nat.le_of_ble_eq_true rfl) (Nat.le_of_ble_eq_true rfl) (Nat.le_of_ble_eq_true rfl) (Nat.le_of_ble_eq_true rfl) ?_
  refine ww_iastC dX11_fareOf_38 hM.K11 (by omega) (by omega) ?_
  refine ww_aload_n dX11_fareOf_39 rfl rfl ?_
  refine ww_get 24 dX11_fareOf_40 hM.K0 rfl (by decide) inX11 wg_1264 hM.F11 ?_
  refine ww_iconst (v := nI 5) dX11_fareOf_43 (by decide) ?_
  refine ww_iload dX11_fareOf_44 rfl ?_
  refine ww_iastC dX11_fareOf_46 hM.K11 (by omega) (by omega) ?_
  refine ww_aload_n dX11_fareOf_47 rfl rfl ?_
  refine ww_get 24 dX11_fareOf_48 hM.K0 rfl (by decide) inX11 wg_1264 hM.F11 ?_
  refine ww_bipush (v := nI 6) dX11_fareOf_51 (by decide) ?_
  refine ww_iload dX11_fareOf_53 rfl ?_
  refine ww_iastC dX11_fareOf_55 hM.K11 (by omega) (by omega) ?_
  refine ww_aload_n dX11_fareOf_56 rfl rfl ?_
  refine ww_cVq (M := m_X11_fareOf) (pc := 57) (v := .int (clF (askF sz kf vf (upd (upd (upd (upd (upd (upd (upd (hp_I h (m + 11)) 0 (nI n)) 1 r) 2 (nI w)) 3 o) 4 (nI (dvN n))) 5 u) 6 dd)))) (st := []) (bc := 0) (bs := 0) (c_M_fareNow hst hM.sI (hQ.same (X := fun c => c = m + 11) (Y := fun _ _ => False) (Same.rf.sI rfl) (by omega) (by omega) (fun e => e)) hok (hp_I_eq _ _ _) hw (by simp [upd])) vv_X11_fareNow dX11_fareOf_57 wg_1566 hM.K0 rfl rfl rfl rfl (Nat.le_of_ble_eq_true rfl) (Nat.le_of_ble_eq_true rfl) (Nat.le_of_ble_eq_true rfl) (Nat.le_of_ble_eq_true rfl) (fun h9 q9 => ?_)
  exact ww_iret dX11_fareOf_60 rfl ⟨by unfold askV; rw [askF_eq hok (nI n) r (nI w) o u dd (js_parts.getD n 0) (fun j hj => by rw [parts_ok n (by omega)]; rcases (by omega : j = 0 ∨ j = 1 ∨ j = 2 ∨ j = 3 ∨ j = 4 ∨ j = 5 ∨ j = 6) with rfl | rfl | rfl | rfl | rfl | rfl | rfl <;> simp [upd, faF])], (Same.rf.sI (Or.inr rfl)).tr (q9.mono (fun c hc => Or.inl hc) (fun _ _ e => e))⟩
set_option maxHeartbeats 4000000 in
set_option maxRecDepth 100000 in
theorem c_M_fareBy {l : Launch} {Z : EE} (hst : l.stackTraces = false) {h : PH} {m : Nat} (hM : ModS h m) {sz : Nat} {kf vf : Nat → Int32} (hQ : LawM h m sz kf vf) (hok : LawOK kf vf sz) {g : Nat → Int32} (hs : hp_I h (m + 15) = g) (n : Nat) (hn : n ≤ 60) (w : Nat) (hw : w ≤ 2) : CC l Z m_X11_fareBy 4 0 0 [.ref m, .int (nI n), .int (nI w)] h (RQ (some (.int (fareC g sz kf vf n w))) (Same (fun c => c = m + 10 ∨ c = m + 11) (fun _ _ => False) h)) := by
  refine ee_entry hst (by decide +kernel) rfl rfl (by simp [Value.category]) (Nat.le_of_ble_eq_true rfl) ?_
  refine ww_lv (lv2 := [.ref m, .int (nI n), .int (nI w)]) rfl ?_
  refine ww_aload_n dX11_fareBy_0 rfl rfl ?_
  refine ww_get 34 dX11_fareBy_1 hM.K0 rfl (by decide) inX11 wg_1274 hM.F15 ?_
  refine ww_iconst (v := nI 0) dX11_fareBy_4 (by decide) ?_
  refine ww_iload_n dX11_fareBy_5 rfl rfl ?_
  refine ww_iadd0 dX11_fareBy_6 ?_
  refine ww_ialdF dX11_fareBy_7 hM.K15 hs (by omega) (by omega) ?_
  refine ww_iconst (v := -1) dX11_fareBy_8 (by decide) ?_
  refine ww_icmp_ne (tgt := 16) dX11_fareBy_9 (by decide) (fun c9 => ?_) (fun c9 => ?_)
  · refine ww_aload_n dX11_fareBy_16 rfl rfl ?_
    refine ww_iload_n dX11_fareBy_17 rfl rfl ?_
    refine ww_aload_n dX11_fareBy_18 rfl rfl ?_
    refine ww_get 34 dX11_fareBy_19 hM.K0 rfl (by decide) inX11 wg_1274 hM.F15 ?_
    refine ww_bipush (v := nI 61) dX11_fareBy_22 (by decide) ?_
    refine ww_iload_n dX11_fareBy_24 rfl rfl ?_
    refine ww_iaddN dX11_fareBy_25 ?_
    refine ww_ialdF dX11_fareBy_26 hM.K15 hs (by omega) (by omega) ?_
    refine ww_iload_n dX11_fareBy_27 rfl rfl ?_
    refine ww_aload_n dX11_fareBy_28 rfl rfl ?_
    refine ww_get 34 dX11_fareBy_29 hM.K0 rfl (by decide) inX11 wg_1274 hM.F15 ?_
    refine ww_iconst (v := nI 0) dX11_fareBy_32 (by decide) ?_
    refine ww_iload_n dX11_fareBy_33 rfl rfl ?_
    refine ww_iadd0 dX11_fareBy_34 ?_
    refine ww_ialdF dX11_fareBy_35 hM.K15 hs (by omega) (by omega) ?_
    refine ww_aload_n dX11_fareBy_36 rfl rfl ?_
    refine ww_get 34 dX11_fareBy_37 hM.K0 rfl (by decide) inX11 wg_1274 hM.F15 ?_
    refine ww_bipush (v := nI 122) dX11_fareBy_40 (by decide) ?_
    refine ww_iload_n dX11_fareBy_42 rfl rfl ?_
    refine ww_iaddN dX11_fareBy_43 ?_
    refine ww_ialdF dX11_fareBy_44 hM.K15 hs (by omega) (by omega) ?_
    refine ww_aload_n dX11_fareBy_45 rfl rfl ?_
    refine ww_get 34 dX11_fareBy_46 hM.K0 rfl (by decide) inX11 wg_1274 hM.F15 ?_
    refine ww_sipush (v := nI 189) dX11_fareBy_49 (by decide) ?_
    refine ww_ialdF dX11_fareBy_52 hM.K15 hs (by omega) (by omega) ?_
    refine ww_cVq (M := m_X11_fareBy) (pc := 53) (v := .int (askV joinC (joinC (nI 5)) sz kf vf (nI n) (g (61 + n)) (nI w) (g n) (g (122 + n)) (g 189) (js_parts.getD n 0))) (st := []) (bc := 0) (bs := 0) (c_M_fareOf hst hM hQ hok n (by omega) (g (61 + n)) w hw (g n) (g (122 + n)) (g 189)) vv_X11_fareOf dX11_fareBy_53 wg_1559 hM.K0 rfl rfl rfl rfl (Nat.le_of_ble_eq_true rfl) (Nat.le_of_ble_eq_true rfl) (Nat.le_of_ble_eq_true rfl) (Nat.le_of_ble_eq_true rfl) (fun h9 q9 => ?_)
    exact ww_iret dX11_fareBy_56 rfl ⟨by unfold fareC; rw [if_neg (by simpa using c9)], q9⟩
  · refine ww_iconst (v := nI 0) dX11_fareBy_12 (by decide) ?_
    refine ww_goto (tgt := 56) dX11_fareBy_13 (by decide) ?_
    exact ww_iret dX11_fareBy_56 rfl ⟨by unfold fareC; rw [if_pos (by simpa using c9)]; rfl, Same.rf⟩
