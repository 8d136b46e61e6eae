/-- a LAW: the object at b, kinds, values, stack, facts behind it -/
def LawAt (h : PH) (b sz : Nat) (kf vf : Nat → Int32) : Prop := hp_K h b = (3, 5) ∧ hp_K h (b + 1) = (20, 150) ∧ hp_K h (b + 2) = (20, 150) ∧ hp_K h (b + 3) = (20, 32) ∧ hp_K h (b + 4) = (20, 7) ∧ hp_F h b 0 = .ref (b + 1) ∧ hp_F h b 1 = .ref (b + 2) ∧ hp_F h b 2 = .ref (b + 3) ∧ hp_F h b 3 = .ref (b + 4) ∧ hp_F h b 4 = .int (nI sz) ∧ hp_I h (b + 1) = kf ∧ hp_I h (b + 2) = vf ∧ sz ≤ 150
theorem LawAt.same {h h' : PH} {b sz : Nat} {kf vf : Nat → Int32} {X : Nat → Prop} {Y : Nat → Nat → Prop} (hW : LawAt h b sz kf vf) (hS : Same X Y h h') (hX1 : ¬ X (b + 1)) (hX2 : ¬ X (b + 2)) (hY : ∀ j, ¬ Y b j) : LawAt h' b sz kf vf := ⟨(hS.2.1 _).trans hW.1, (hS.2.1 _).trans hW.2.1, (hS.2.1 _).trans hW.2.2.1, (hS.2.1 _).trans hW.2.2.2.1, (hS.2.1 _).trans hW.2.2.2.2.1, (hS.2.2.1 _ _ (hY _)).trans hW.2.2.2.2.2.1, (hS.2.2.1 _ _ (hY _)).trans hW.2.2.2.2.2.2.1, (hS.2.2.1 _ _ (hY _)).trans hW.2.2.2.2.2.2.2.1, (hS.2.2.1 _ _ (hY _)).trans hW.2.2.2.2.2.2.2.2.1, (hS.2.2.1 _ _ (hY _)).trans hW.2.2.2.2.2.2.2.2.2.1, (hS.2.2.2.1 _ hX1).trans hW.2.2.2.2.2.2.2.2.2.2.1, (hS.2.2.2.1 _ hX2).trans hW.2.2.2.2.2.2.2.2.2.2.2.1, hW.2.2.2.2.2.2.2.2.2.2.2.2⟩
def joinC (k x y : Int32) : Int32 := if k = nI 2 then x + y else if k = nI 3 then x - y else if k = nI 4 then x * y else if k = nI 5 then (if y = 0 then 0 else x / y) else if k = nI 6 then (if y = 0 then 0 else x - x / y * y) else if k = nI 7 then (if x < y then x else y) else (if y < x then x else y)
def dpF (kf : Nat → Int32) : Nat → Nat
  | 0 => 0
  | i + 1 => if kf i = nI 0 ∨ kf i = nI 1 then dpF kf i + 1 else dpF kf i - 1
theorem dpF_le (kf : Nat → Int32) : ∀ i, dpF kf i ≤ i
  | 0 => Nat.le_refl 0
  | i + 1 => by have := dpF_le kf i; simp only [dpF]; split <;> omega
/-- the row of values behind i instructions -/
def svS (J : Int32 → Int32 → Int32 → Int32) (kf vf fa s0 : Nat → Int32) : Nat → Nat → Int32
  | 0 => s0
  | i + 1 => if kf i = nI 0 then upd (svS J kf vf fa s0 i) (dpF kf i) (vf i) else if kf i = nI 1 then upd (svS J kf vf fa s0 i) (dpF kf i) (fa (vf i).toNatClampNeg) else upd (svS J kf vf fa s0 i) (dpF kf i - 2) (J (kf i) (svS J kf vf fa s0 i (dpF kf i - 2)) (svS J kf vf fa s0 i (dpF kf i - 1)))
/-- a LAW's instructions are whole: figures, facts, joins with two values waiting, never more than 31 waiting -/
def LawOK (kf vf : Nat → Int32) (sz : Nat) : Prop := (∀ i, i < sz → (kf i = nI 0 ∨ (kf i = nI 1 ∧ ∃ q : Nat, q < 7 ∧ vf i = nI q) ∨ ∃ k : Nat, 2 ≤ k ∧ k ≤ 8 ∧ kf i = nI k ∧ 2 ≤ dpF kf i) ∧ dpF kf i ≤ 31) ∧ (0 < sz → 1 ≤ dpF kf sz)
theorem nI_ne {a b : Nat} (h : a ≠ b) (ha : a < 2 ^ 31) (hb : b < 2 ^ 31) : ¬ nI a = nI b := fun e => h ((nI_eq ha hb).mp e)
def clF (x : Int32) : Int32 := if x < 0 then 0 else if nI 99 < x then nI 99 else x
def faF (n r w o u dd : Int32) (pa : Int32) : Nat → Int32 := fun j => if j = 0 then n else if j = 1 then r else if j = 2 then w else if j = 3 then o else if j = 4 then pa else if j = 5 then u else dd
theorem svS_ind (J : Int32 → Int32 → Int32 → Int32) {kf vf fa fb s0 t0 : Nat → Int32} {sz : Nat} (hok : LawOK kf vf sz) (hf : ∀ j, j < 7 → fa j = fb j) : ∀ i, i ≤ sz → ∀ j, j < dpF kf i → svS J kf vf fa s0 i j = svS J kf vf fb t0 i j := by
  intro i
  induction i with
  | zero => intro _ j hj; exact absurd hj (by simp [dpF])
  | succ i ih =>
    intro hi j hj
    have ih := ih (by omega)
    obtain ⟨hc, hd⟩ := hok.1 i (by omega)
    simp only [svS, dpF] at hj ⊢
    rcases hc with h0 | ⟨h1, q, hq, hv⟩ | ⟨k, k1, k2, hk, h2⟩
    · simp only [h0, true_or, if_true] at hj ⊢
      unfold upd
      by_cases e : j = dpF kf i
      · rw [if_pos e, if_pos e]
      · rw [if_neg e, if_neg e]; exact ih j (by omega)
    · have n0 : ¬ kf i = nI 0 := by rw [h1]; decide
      simp only [h1, n0, if_false, if_true, or_true] at hj ⊢
      rw [if_neg (by decide), if_neg (by decide)]
      unfold upd
      by_cases e : j = dpF kf i
      · rw [if_pos e, if_pos e, hv, nI_clamp (by omega)]; exact hf q hq
      · rw [if_neg e, if_neg e]; exact ih j (by omega)
    · have n0 : ¬ kf i = nI 0 := by rw [hk]; exact nI_ne (by omega) (by omega) (by omega)
      have n1 : ¬ kf i = nI 1 := by rw [hk]; exact nI_ne (by omega) (by omega) (by omega)
      simp only [n0, n1, if_false, or_false] at hj ⊢
      rw [ih (dpF kf i - 2) (by omega), ih (dpF kf i - 1) (by omega)]
      unfold upd
      by_cases e : j = dpF kf i - 2
      · rw [if_pos e, if_pos e]
      · rw [if_neg e, if_neg e]; exact ih j (by omega)
/-- FARE by a LAW of sz instructions -/
def askR (J : Int32 → Int32 → Int32 → Int32) (dv : Int32 → Int32 → Int32) (sz : Nat) (kf vf : Nat → Int32) (n r w o u dd : Int32) (pa : Int32) : Int32 := if sz = 0 then dv r (nI 1 + w) else svS J kf vf (faF n r w o u dd pa) (fun _ => 0) sz 0
def askV (J : Int32 → Int32 → Int32 → Int32) (dv : Int32 → Int32 → Int32) (sz : Nat) (kf vf : Nat → Int32) (n r w o u dd : Int32) (pa : Int32) : Int32 := clF (askR J dv sz kf vf n r w o u dd pa)
/-- what a use of n in the way w costs by the class's LAW -/
def fareC (f : Nat → Int32) (sz : Nat) (kf vf : Nat → Int32) (n w : Nat) : Int32 := if f n = -1 then 0 else askV joinC (joinC (nI 5)) sz kf vf (nI n) (f (61 + n)) (nI w) (f n) (f (122 + n)) (f 189) (js_parts.getD n 0)
theorem LawAt.sI {h : PH} {b sz c : Nat} {kf vf g : Nat → Int32} (hW : LawAt h b sz kf vf) (h1 : c ≠ b + 1) (h2 : c ≠ b + 2) : LawAt (hp_sI h c g) b sz kf vf := hW.same (X := fun x => x = c) (Y := fun _ _ => False) (Same.rf.sI rfl) (fun e => h1 e.symm) (fun e => h2 e.symm) (fun _ e => e)
theorem joinC_5 (x y : Int32) : joinC (nI 5) x y = if y = 0 then 0 else x / y := by unfold joinC; rw [if_neg (by decide), if_neg (by decide), if_neg (by decide), if_pos rfl]
theorem joinC_6 (x y : Int32) : joinC (nI 6) x y = if y = 0 then 0 else x - x / y * y := by unfold joinC; rw [if_neg (by decide), if_neg (by decide), if_neg (by decide), if_neg (by decide), if_pos rfl]
theorem joinC_7 (x y : Int32) : joinC (nI 7) x y = if x < y then x else y := by unfold joinC; rw [if_neg (by decide), if_neg (by decide), if_neg (by decide), if_neg (by decide), if_neg (by decide), if_pos rfl]
theorem joinC_8 (x y : Int32) : joinC (nI 8) x y = if y < x then x else y := by unfold joinC; rw [if_neg (by decide), if_neg (by decide), if_neg (by decide), if_neg (by decide), if_neg (by decide), if_neg (by decide)]
set_option maxHeartbeats 4000000 in
set_option maxRecDepth 100000 in
theorem c_Law_joined2 {l : Launch} {Z : EE} (hst : l.stackTraces = false) (x y : Int32) (h : PH) : CC l Z m_X3_joined 0 0 0 [.int (nI 2), .int x, .int y] h (RT (some (.int (joinC (nI 2) x y))) h) := by
  refine ee_entry hst (by decide +kernel) rfl rfl (by simp [Value.category]) (Nat.le_of_ble_eq_true rfl) ?_
  refine ww_lv (lv2 := [.int (nI 2), .int x, .int y]) rfl ?_
  refine ww_iload_n dX3_joined_0 rfl rfl ?_
  refine ww_tableIn (off := 39) (tgt := 40) dX3_joined_1 (by decide) (by decide) (by decide) (by decide) ?_
  refine ww_iload_n dX3_joined_40 rfl rfl ?_
  refine ww_iload_n dX3_joined_41 rfl rfl ?_
  refine ww_iadd dX3_joined_42 ?_
  exact ww_iret dX3_joined_43 rfl ⟨by first | rfl | (rw [joinC_5, if_neg (by assumption)]; done) | (rw [joinC_5, if_pos (by assumption)]; rfl) | (rw [joinC_6, if_neg (by assumption)]; done) | (rw [joinC_6, if_pos (by assumption)]; rfl) | (rw [joinC_7, if_pos (by simpa using c78)]; done) | (rw [joinC_7, if_neg (by simpa using c78)]; done) | (rw [joinC_8, if_pos (by simpa using c89)]; done) | (rw [joinC_8, if_neg (by simpa using c89)]; done), rfl⟩
set_option maxHeartbeats 4000000 in
set_option maxRecDepth 100000 in
theorem c_Law_joined3 {l : Launch} {Z : EE} (hst : l.stackTraces = false) (x y : Int32) (h : PH) : CC l Z m_X3_joined 0 0 0 [.int (nI 3), .int x, .int y] h (RT (some (.int (joinC (nI 3) x y))) h) := by
  refine ee_entry hst (by decide +kernel) rfl rfl (by simp [Value.category]) (Nat.le_of_ble_eq_true rfl) ?_
  refine ww_lv (lv2 := [.int (nI 3), .int x, .int y]) rfl ?_
  refine ww_iload_n dX3_joined_0 rfl rfl ?_
  refine ww_tableIn (off := 43) (tgt := 44) dX3_joined_1 (by decide) (by decide) (by decide) (by decide) ?_
  refine ww_iload_n dX3_joined_44 rfl rfl ?_
  refine ww_iload_n dX3_joined_45 rfl rfl ?_
  refine ww_isub dX3_joined_46 ?_
  exact ww_iret dX3_joined_47 rfl ⟨by first | rfl | (rw [joinC_5, if_neg (by assumption)]; done) | (rw [joinC_5, if_pos (by assumption)]; rfl) | (rw [joinC_6, if_neg (by assumption)]; done) | (rw [joinC_6, if_pos (by assumption)]; rfl) | (rw [joinC_7, if_pos (by simpa using c78)]; done) | (rw [joinC_7, if_neg (by simpa using c78)]; done) | (rw [joinC_8, if_pos (by simpa using c89)]; done) | (rw [joinC_8, if_neg (by simpa using c89)]; done), rfl⟩
set_option maxHeartbeats 4000000 in
set_option maxRecDepth 100000 in
theorem c_Law_joined4 {l : Launch} {Z : EE} (hst : l.stackTraces = false) (x y : Int32) (h : PH) : CC l Z m_X3_joined 0 0 0 [.int (nI 4), .int x, .int y] h (RT (some (.int (joinC (nI 4) x y))) h) := by
  refine ee_entry hst (by decide +kernel) rfl rfl (by simp [Value.category]) (Nat.le_of_ble_eq_true rfl) ?_
  refine ww_lv (lv2 := [.int (nI 4), .int x, .int y]) rfl ?_
  refine ww_iload_n dX3_joined_0 rfl rfl ?_
  refine ww_tableIn (off := 47) (tgt := 48) dX3_joined_1 (by decide) (by decide) (by decide) (by decide) ?_
  refine ww_iload_n dX3_joined_48 rfl rfl ?_
  refine ww_iload_n dX3_joined_49 rfl rfl ?_
  refine ww_imul dX3_joined_50 ?_
  exact ww_iret dX3_joined_51 rfl ⟨by first | rfl | (rw [joinC_5, if_neg (by assumption)]; done) | (rw [joinC_5, if_pos (by assumption)]; rfl) | (rw [joinC_6, if_neg (by assumption)]; done) | (rw [joinC_6, if_pos (by assumption)]; rfl) | (rw [joinC_7, if_pos (by simpa using c78)]; done) | (rw [joinC_7, if_neg (by simpa using c78)]; done) | (rw [joinC_8, if_pos (by simpa using c89)]; done) | (rw [joinC_8, if_neg (by simpa using c89)]; done), rfl⟩
set_option maxHeartbeats 4000000 in
set_option maxRecDepth 100000 in
theorem c_Law_joined5 {l : Launch} {Z : EE} (hst : l.stackTraces = false) (x y : Int32) (h : PH) : CC l Z m_X3_joined 0 0 0 [.int (nI 5), .int x, .int y] h (RT (some (.int (joinC (nI 5) x y))) h) := by
  refine ee_entry hst (by decide +kernel) rfl rfl (by simp [Value.category]) (Nat.le_of_ble_eq_true rfl) ?_
  refine ww_lv (lv2 := [.int (nI 5), .int x, .int y]) rfl ?_
  refine ww_iload_n dX3_joined_0 rfl rfl ?_
  refine ww_tableIn (off := 51) (tgt := 52) dX3_joined_1 (by decide) (by decide) (by decide) (by decide) ?_
  refine ww_iload_n dX3_joined_52 rfl rfl ?_
  refine ww_if_ne (tgt := 60) dX3_joined_53 (by decide) (fun c53 => ?_) (fun c53 => ?_)
  · refine ww_iload_n dX3_joined_60 rfl rfl ?_
    refine ww_iload_n dX3_joined_61 rfl rfl ?_
    refine ww_idiv dX3_joined_62 (by simpa using c53) ?_
    exact ww_iret dX3_joined_63 rfl ⟨by first | rfl | (rw [joinC_5, if_neg (by assumption)]; done) | (rw [joinC_5, if_pos (by assumption)]; rfl) | (rw [joinC_6, if_neg (by assumption)]; done) | (rw [joinC_6, if_pos (by assumption)]; rfl) | (rw [joinC_7, if_pos (by simpa using c78)]; done) | (rw [joinC_7, if_neg (by simpa using c78)]; done) | (rw [joinC_8, if_pos (by simpa using c89)]; done) | (rw [joinC_8, if_neg (by simpa using c89)]; done), rfl⟩
  · refine ww_iconst (v := nI 0) dX3_joined_56 (by decide) ?_
    refine ww_goto (tgt := 63) dX3_joined_57 (by decide) ?_
    exact ww_iret dX3_joined_63 rfl ⟨by first | rfl | (rw [joinC_5, if_neg (by assumption)]; done) | (rw [joinC_5, if_pos (by assumption)]; rfl) | (rw [joinC_6, if_neg (by assumption)]; done) | (rw [joinC_6, if_pos (by assumption)]; rfl) | (rw [joinC_7, if_pos (by simpa using c78)]; done) | (rw [joinC_7, if_neg (by simpa using c78)]; done) | (rw [joinC_8, if_pos (by simpa using c89)]; done) | (rw [joinC_8, if_neg (by simpa using c89)]; done), rfl⟩
set_option maxHeartbeats 4000000 in
set_option maxRecDepth 100000 in
theorem c_Law_joined6 {l : Launch} {Z : EE} (hst : l.stackTraces = false) (x y : Int32) (h : PH) : CC l Z m_X3_joined 0 0 0 [.int (nI 6), .int x, .int y] h (RT (some (.int (joinC (nI 6) x y))) h) := by
  refine ee_entry hst (by decide +kernel) rfl rfl (by simp [Value.category]) (Nat.le_of_ble_eq_true rfl) ?_
  refine ww_lv (lv2 := [.int (nI 6), .int x, .int y]) rfl ?_
  refine ww_iload_n dX3_joined_0 rfl rfl ?_
  refine ww_tableIn (off := 63) (tgt := 64) dX3_joined_1 (by decide) (by decide) (by decide) (by decide) ?_
  refine ww_iload_n dX3_joined_64 rfl rfl ?_
  refine ww_if_ne (tgt := 72) dX3_joined_65 (by decide) (fun c65 => ?_) (fun c65 => ?_)
  · refine ww_iload_n dX3_joined_72 rfl rfl ?_
    refine ww_iload_n dX3_joined_73 rfl rfl ?_
    refine ww_irem dX3_joined_74 (by simpa using c65) ?_
    exact ww_iret dX3_joined_75 rfl ⟨by first | rfl | (rw [joinC_5, if_neg (by assumption)]; done) | (rw [joinC_5, if_pos (by assumption)]; rfl) | (rw [joinC_6, if_neg (by assumption)]; done) | (rw [joinC_6, if_pos (by assumption)]; rfl) | (rw [joinC_7, if_pos (by simpa using c78)]; done) | (rw [joinC_7, if_neg (by simpa using c78)]; done) | (rw [joinC_8, if_pos (by simpa using c89)]; done) | (rw [joinC_8, if_neg (by simpa using c89)]; done), rfl⟩
  · refine ww_iconst (v := nI 0) dX3_joined_68 (by decide) ?_
    refine ww_goto (tgt := 75) dX3_joined_69 (by decide) ?_
    exact ww_iret dX3_joined_75 rfl ⟨by first | rfl | (rw [joinC_5, if_neg (by assumption)]; done) | (rw [joinC_5, if_pos (by assumption)]; rfl) | (rw [joinC_6, if_neg (by assumption)]; done) | (rw [joinC_6, if_pos (by assumption)]; rfl) | (rw [joinC_7, if_pos (by simpa using c78)]; done) | (rw [joinC_7, if_neg (by simpa using c78)]; done) | (rw [joinC_8, if_pos (by simpa using c89)]; done) | (rw [joinC_8, if_neg (by simpa using c89)]; done), rfl⟩
set_option maxHeartbeats 4000000 in
set_option maxRecDepth 100000 in
theorem c_Law_joined7 {l : Launch} {Z : EE} (hst : l.stackTraces = false) (x y : Int32) (h : PH) : CC l Z m_X3_joined 0 0 0 [.int (nI 7), .int x, .int y] h (RT (some (.int (joinC (nI 7) x y))) h) := by
  refine ee_entry hst (by decide +kernel) rfl rfl (by simp [Value.category]) (Nat.le_of_ble_eq_true rfl) ?_
  refine ww_lv (lv2 := [.int (nI 7), .int x, .int y]) rfl ?_
  refine ww_iload_n dX3_joined_0 rfl rfl ?_
  refine ww_tableIn (off := 75) (tgt := 76) dX3_joined_1 (by decide) (by decide) (by decide) (by decide) ?_
  refine ww_iload_n dX3_joined_76 rfl rfl ?_
  refine ww_iload_n dX3_joined_77 rfl rfl ?_
  refine ww_icmp_ge (tgt := 85) dX3_joined_78 (by decide) (fun c78 => ?_) (fun c78 => ?_)
  · refine ww_iload_n dX3_joined_85 rfl rfl ?_
    exact ww_iret dX3_joined_86 rfl ⟨by first | rfl | (rw [joinC_5, if_neg (by assumption)]; done) | (rw [joinC_5, if_pos (by assumption)]; rfl) | (rw [joinC_6, if_neg (by assumption)]; done) | (rw [joinC_6, if_pos (by assumption)]; rfl) | (rw [joinC_7, if_pos (by simpa using c78)]; done) | (rw [joinC_7, if_neg (by simpa using c78)]; done) | (rw [joinC_8, if_pos (by simpa using c89)]; done) | (rw [joinC_8, if_neg (by simpa using c89)]; done), rfl⟩
  · refine ww_iload_n dX3_joined_81 rfl rfl ?_
    refine ww_goto (tgt := 86) dX3_joined_82 (by decide) ?_
    exact ww_iret dX3_joined_86 rfl ⟨by first | rfl | (rw [joinC_5, if_neg (by assumption)]; done) | (rw [joinC_5, if_pos (by assumption)]; rfl) | (rw [joinC_6, if_neg (by assumption)]; done) | (rw [joinC_6, if_pos (by assumption)]; rfl) | (rw [joinC_7, if_pos (by simpa using c78)]; done) | (rw [joinC_7, if_neg (by simpa using c78)]; done) | (rw [joinC_8, if_pos (by simpa using c89)]; done) | (rw [joinC_8, if_neg (by simpa using c89)]; done), rfl⟩
set_option maxHeartbeats 4000000 in
set_option maxRecDepth 100000 in
theorem c_Law_joined8 {l : Launch} {Z : EE} (hst : l.stackTraces = false) (x y : Int32) (h : PH) : CC l Z m_X3_joined 0 0 0 [.int (nI 8), .int x, .int y] h (RT (some (.int (joinC (nI 8) x y))) h) := by
  refine ee_entry hst (by decide +kernel) rfl rfl (by simp [Value.category]) (Nat.le_of_ble_eq_true rfl) ?_
  refine ww_lv (lv2 := [.int (nI 8), .int x, .int y]) rfl ?_
  refine ww_iload_n dX3_joined_0 rfl rfl ?_
  refine ww_tableOut (tgt := 87) dX3_joined_1 (by decide) (by decide) ?_
  refine ww_iload_n dX3_joined_87 rfl rfl ?_
  refine ww_iload_n dX3_joined_88 rfl rfl ?_
  refine ww_icmp_le (tgt := 96) dX3_joined_89 (by decide) (fun c89 => ?_) (fun c89 => ?_)
  · refine ww_iload_n dX3_joined_96 rfl rfl ?_
    exact ww_iret dX3_joined_97 rfl ⟨by first | rfl | (rw [joinC_5, if_neg (by assumption)]; done) | (rw [joinC_5, if_pos (by assumption)]; rfl) | (rw [joinC_6, if_neg (by assumption)]; done) | (rw [joinC_6, if_pos (by assumption)]; rfl) | (rw [joinC_7, if_pos (by simpa using c78)]; done) | (rw [joinC_7, if_neg (by simpa using c78)]; done) | (rw [joinC_8, if_pos (by simpa using c89)]; done) | (rw [joinC_8, if_neg (by simpa using c89)]; done), rfl⟩
  · refine ww_iload_n dX3_joined_92 rfl rfl ?_
    refine ww_goto (tgt := 97) dX3_joined_93 (by decide) ?_
    exact ww_iret dX3_joined_97 rfl ⟨by first | rfl | (rw [joinC_5, if_neg (by assumption)]; done) | (rw [joinC_5, if_pos (by assumption)]; rfl) | (rw [joinC_6, if_neg (by assumption)]; done) | (rw [joinC_6, if_pos (by assumption)]; rfl) | (rw [joinC_7, if_pos (by simpa using c78)]; done) | (rw [joinC_7, if_neg (by simpa using c78)]; done) | (rw [joinC_8, if_pos (by simpa using c89)]; done) | (rw [joinC_8, if_neg (by simpa using c89)]; done), rfl⟩
set_option maxHeartbeats 4000000 in
set_option maxRecDepth 100000 in
theorem c_Law_joined {l : Launch} {Z : EE} (hst : l.stackTraces = false) (k : Nat) (k1 : 2 ≤ k) (k2 : k ≤ 8) (x y : Int32) (h : PH) : CC l Z m_X3_joined 0 0 0 [.int (nI k), .int x, .int y] h (RT (some (.int (joinC (nI k) x y))) h) := by
  rcases (by omega : k = 2 ∨ k = 3 ∨ k = 4 ∨ k = 5 ∨ k = 6 ∨ k = 7 ∨ k = 8) with rfl | rfl | rfl | rfl | rfl | rfl | rfl
  · exact c_Law_joined2 hst x y h
  · exact c_Law_joined3 hst x y h
  · exact c_Law_joined4 hst x y h
  · exact c_Law_joined5 hst x y h
  · exact c_Law_joined6 hst x y h
  · exact c_Law_joined7 hst x y h
  · exact c_Law_joined8 hst x y h
set_option maxHeartbeats 4000000 in
set_option maxRecDepth 100000 in
theorem l_Law_followed {l : Launch} {Z : EE} (hst : l.stackTraces = false) {h : PH} {b sz : Nat} {kf vf : Nat → Int32} (hW : LawAt h b sz kf vf) {fa s0 : Nat → Int32} (hfa : hp_I h (b + 4) = fa) (hs0 : hp_I h (b + 3) = s0) (hok : LawOK kf vf sz) : ∀ (j k : Nat), k + j = sz → WW l Z m_X3_followed 1 0 0 4 [.ref b, .int (nI (dpF kf k)), .int (nI k), UU, UU] [] (hp_sI h (b + 3) (svS joinC kf vf fa s0 k)) (RT (some (.int (if sz = 0 then 0 else svS joinC kf vf fa s0 sz 0))) (hp_sI h (b + 3) (svS joinC kf vf fa s0 sz))) := by
  have hsz := hW.2.2.2.2.2.2.2.2.2.2.2.2
  intro j
  induction j with
  | zero =>
    intro k hk
    have hk0 : k = sz := by omega
    subst hk0
    have hd1 := hok.2
    have hdl := dpF_le kf k
    refine ww_iload_n dX3_followed_4 rfl rfl ?_
    refine ww_aload_n dX3_followed_5 rfl rfl ?_
    refine ww_get 4 dX3_followed_6 hW.1 rfl (by decide) inX3 wg_98 hW.2.2.2.2.2.2.2.2.2.1 ?_
    refine ww_icmp_geN (tgt := 134) dX3_followed_9 (by decide) (by omega) (by omega) (fun c9 => ?_) (fun c9 => ?_)
    · refine ww_iload_n dX3_followed_134 rfl rfl ?_
      refine ww_if_leN (tgt := 147) dX3_followed_135 (by decide) (by omega) (fun c135 => ?_) (fun c135 => ?_)
      · have z0 : k = 0 := (Nat.eq_zero_or_pos k).elim id (fun e => absurd (hd1 e) (by omega)); subst z0; exact ww_iconst (v := nI 0) dX3_followed_147 (by decide) (ww_iret dX3_followed_148 rfl ⟨rfl, rfl⟩)
      · have z1 : ¬ k = 0 := by
          intro e
          subst e
          exact absurd c135 (by simp [dpF])
        refine ww_aload_n dX3_followed_138 rfl rfl ?_
        refine ww_get 2 dX3_followed_139 hW.1 rfl (by decide) inX3 wg_96 hW.2.2.2.2.2.2.2.1 ?_
        refine ww_iconst (v := nI 0) dX3_followed_142 (by decide) ?_
        refine ww_ialdF dX3_followed_143 hW.2.2.2.1 (hp_I_eq _ _ _) (by omega) (by omega) ?_
        refine ww_goto (tgt := 148) dX3_followed_144 (by decide) ?_
        exact ww_iret dX3_followed_148 rfl ⟨by rw [if_neg z1], rfl⟩
    · exfalso; omega
  | succ j ih =>
    intro k hk
    obtain ⟨hc, hdp⟩ := hok.1 k (by omega)
    rcases hc with h0 | ⟨h1, q, hq, hv⟩ | ⟨kk, k1, k2, hkk, h2⟩
    · refine ww_iload_n dX3_followed_4 rfl rfl ?_
      refine ww_aload_n dX3_followed_5 rfl rfl ?_
      refine ww_get 4 dX3_followed_6 hW.1 rfl (by decide) inX3 wg_98 hW.2.2.2.2.2.2.2.2.2.1 ?_
      refine ww_icmp_geN (tgt := 134) dX3_followed_9 (by decide) (by omega) (by omega) (fun c9 => ?_) (fun c9 => ?_)
      · exfalso; omega
      · refine ww_aload_n dX3_followed_12 rfl rfl ?_
        refine ww_get 1 dX3_followed_13 hW.1 rfl (by decide) inX3 wg_95 hW.2.2.2.2.2.2.1 ?_
        refine ww_iload_n dX3_followed_16 rfl rfl ?_
        refine ww_ialdF dX3_followed_17 hW.2.2.1 (hp_I_nx (by omega) hW.2.2.2.2.2.2.2.2.2.2.2.1) (by omega) (by omega) ?_
        refine ww_sti_n (lv2 := [.ref b, .int (nI (dpF kf k)), .int (nI k), .int (vf k), UU]) dX3_followed_18 rfl rfl (by decide) rfl ?_
        refine ww_aload_n dX3_followed_19 rfl rfl ?_
        refine ww_get 0 dX3_followed_20 hW.1 rfl (by decide) inX3 wg_94 hW.2.2.2.2.2.1 ?_
        refine ww_iload_n dX3_followed_23 rfl rfl ?_
        refine ww_ialdF dX3_followed_24 hW.2.1 (hp_I_nx (by omega) hW.2.2.2.2.2.2.2.2.2.2.1) (by omega) (by omega) ?_
        rw [h0]
        refine ww_iconst (v := nI 1) dX3_followed_25 (by decide) ?_
        refine ww_icmp_leN (tgt := 71) dX3_followed_26 (by decide) (by omega) (by omega) (fun c26 => ?_) (fun c26 => ?_)
        · refine ww_iload_n dX3_followed_71 rfl rfl ?_
          refine ww_bipush (v := nI 32) dX3_followed_72 (by decide) ?_
          refine ww_icmp_geN (tgt := 128) dX3_followed_74 (by decide) (by omega) (by omega) (fun c74 => ?_) (fun c74 => ?_)
          · exfalso; omega
          · refine ww_aload_n dX3_followed_77 rfl rfl ?_
            refine ww_get 0 dX3_followed_78 hW.1 rfl (by decide) inX3 wg_94 hW.2.2.2.2.2.1 ?_
            refine ww_iload_n dX3_followed_81 rfl rfl ?_
            refine ww_ialdF dX3_followed_82 hW.2.1 (hp_I_nx (by omega) hW.2.2.2.2.2.2.2.2.2.2.1) (by omega) (by omega) ?_
            rw [h0]
            refine ww_iconst (v := nI 1) dX3_followed_83 (by decide) ?_
            refine ww_icmp_neN (tgt := 101) dX3_followed_84 (by decide) (by omega) (by omega) (fun c84 => ?_) (fun c84 => ?_)
            · refine ww_iconst (v := nI 0) dX3_followed_101 (by decide) ?_
              refine ww_sti (lv2 := [.ref b, .int (nI (dpF kf k)), .int (nI k), .int (vf k), .int (nI 0)]) dX3_followed_102 rfl (by decide) rfl ?_
              refine ww_aload_n dX3_followed_104 rfl rfl ?_
              refine ww_get 2 dX3_followed_105 hW.1 rfl (by decide) inX3 wg_96 hW.2.2.2.2.2.2.2.1 ?_
              refine ww_iload_n dX3_followed_108 rfl rfl ?_
              refine ww_iload dX3_followed_109 rfl ?_
              refine ww_if_eqN (tgt := 123) dX3_followed_111 (by decide) (by omega) (fun c111 => ?_) (fun c111 => ?_)
              · refine ww_iload_n dX3_followed_123 rfl rfl ?_
                refine ww_iastC dX3_followed_124 hW.2.2.2.1 (by omega) (by omega) ?_
                refine ww_incN (c := 1) (lv2 := [.ref b, .int (nI (dpF kf k + 1)), .int (nI k), .int (vf k), .int (nI 0)]) dX3_followed_125 rfl rfl rfl (by decide) rfl ?_
                refine ww_incN (c := 1) (lv2 := [.ref b, .int (nI (dpF kf k + 1)), .int (nI (k + 1)), .int (vf k), .int (nI 0)]) dX3_followed_128 rfl rfl rfl (by decide) rfl ?_
                refine ww_goto (tgt := 4) dX3_followed_131 (by decide) ?_
                refine ww_fg (lv2 := [.ref b, .int (nI (dpF kf k + 1)), .int (nI (k + 1)), UU, UU]) ⟨Or.inr rfl, Or.inr rfl, Or.inr rfl, Or.inl rfl, Or.inl rfl, trivial⟩ ?_
                refine ww_lv (lv2 := [.ref b, .int (nI (dpF kf (k + 1))), .int (nI (k + 1)), UU, UU]) (by simp [dpF, Nat.sub_sub, h0]) ?_
                refine ww_hp (h2 := hp_sI h (b + 3) (svS joinC kf vf fa s0 (k + 1))) (by simp [svS, Nat.sub_sub, h0]) ?_
                exact ih (k + 1) (by omega)
              · exact absurd c111 (by decide)
            · exact absurd c84 (by decide)
        · exact absurd c26 (by decide)
    · have n0 : ¬ kf k = nI 0 := by rw [h1]; decide
      refine ww_iload_n dX3_followed_4 rfl rfl ?_
      refine ww_aload_n dX3_followed_5 rfl rfl ?_
      refine ww_get 4 dX3_followed_6 hW.1 rfl (by decide) inX3 wg_98 hW.2.2.2.2.2.2.2.2.2.1 ?_
      refine ww_icmp_geN (tgt := 134) dX3_followed_9 (by decide) (by omega) (by omega) (fun c9 => ?_) (fun c9 => ?_)
      · exfalso; omega
      · refine ww_aload_n dX3_followed_12 rfl rfl ?_
        refine ww_get 1 dX3_followed_13 hW.1 rfl (by decide) inX3 wg_95 hW.2.2.2.2.2.2.1 ?_
        refine ww_iload_n dX3_followed_16 rfl rfl ?_
        refine ww_ialdF dX3_followed_17 hW.2.2.1 (hp_I_nx (by omega) hW.2.2.2.2.2.2.2.2.2.2.2.1) (by omega) (by omega) ?_
        rw [hv]
        refine ww_sti_n (lv2 := [.ref b, .int (nI (dpF kf k)), .int (nI k), .int (nI q), UU]) dX3_followed_18 rfl rfl (by decide) rfl ?_
        refine ww_aload_n dX3_followed_19 rfl rfl ?_
        refine ww_get 0 dX3_followed_20 hW.1 rfl (by decide) inX3 wg_94 hW.2.2.2.2.2.1 ?_
        refine ww_iload_n dX3_followed_23 rfl rfl ?_
        refine ww_ialdF dX3_followed_24 hW.2.1 (hp_I_nx (by omega) hW.2.2.2.2.2.2.2.2.2.2.1) (by omega) (by omega) ?_
        rw [h1]
        refine ww_iconst (v := nI 1) dX3_followed_25 (by decide) ?_
        refine ww_icmp_leN (tgt := 71) dX3_followed_26 (by decide) (by omega) (by omega) (fun c26 => ?_) (fun c26 => ?_)
        · refine ww_iload_n dX3_followed_71 rfl rfl ?_
          refine ww_bipush (v := nI 32) dX3_followed_72 (by decide) ?_
          refine ww_icmp_geN (tgt := 128) dX3_followed_74 (by decide) (by omega) (by omega) (fun c74 => ?_) (fun c74 => ?_)
          · exfalso; omega
          · refine ww_aload_n dX3_followed_77 rfl rfl ?_
            refine ww_get 0 dX3_followed_78 hW.1 rfl (by decide) inX3 wg_94 hW.2.2.2.2.2.1 ?_
            refine ww_iload_n dX3_followed_81 rfl rfl ?_
            refine ww_ialdF dX3_followed_82 hW.2.1 (hp_I_nx (by omega) hW.2.2.2.2.2.2.2.2.2.2.1) (by omega) (by omega) ?_
            rw [h1]
            refine ww_iconst (v := nI 1) dX3_followed_83 (by decide) ?_
            refine ww_icmp_neN (tgt := 101) dX3_followed_84 (by decide) (by omega) (by omega) (fun c84 => ?_) (fun c84 => ?_)
            · exact absurd c84 (by decide)
            · refine ww_iload_n dX3_followed_87 rfl rfl ?_
              refine ww_if_ltN (tgt := 101) dX3_followed_88 (by decide) (by omega) ?_
              refine ww_iload_n dX3_followed_91 rfl rfl ?_
              refine ww_bipush (v := nI 7) dX3_followed_92 (by decide) ?_
              refine ww_icmp_geN (tgt := 101) dX3_followed_94 (by decide) (by omega) (by omega) (fun c94 => ?_) (fun c94 => ?_)
              · exfalso; omega
              · refine ww_iconst (v := nI 1) dX3_followed_97 (by decide) ?_
                refine ww_goto (tgt := 102) dX3_followed_98 (by decide) ?_
                refine ww_sti (lv2 := [.ref b, .int (nI (dpF kf k)), .int (nI k), .int (nI q), .int (nI 1)]) dX3_followed_102 rfl (by decide) rfl ?_
                refine ww_aload_n dX3_followed_104 rfl rfl ?_
                refine ww_get 2 dX3_followed_105 hW.1 rfl (by decide) inX3 wg_96 hW.2.2.2.2.2.2.2.1 ?_
                refine ww_iload_n dX3_followed_108 rfl rfl ?_
                refine ww_iload dX3_followed_109 rfl ?_
                refine ww_if_eqN (tgt := 123) dX3_followed_111 (by decide) (by omega) (fun c111 => ?_) (fun c111 => ?_)
                · exact absurd c111 (by decide)
                · refine ww_aload_n dX3_followed_114 rfl rfl ?_
                  refine ww_get 3 dX3_followed_115 hW.1 rfl (by decide) inX3 wg_97 hW.2.2.2.2.2.2.2.2.1 ?_
                  refine ww_iload_n dX3_followed_118 rfl rfl ?_
                  refine ww_ialdF dX3_followed_119 hW.2.2.2.2.1 (hp_I_nx (by omega) hfa) (by omega) (by omega) ?_
                  refine ww_goto (tgt := 124) dX3_followed_120 (by decide) ?_
                  refine ww_iastC dX3_followed_124 hW.2.2.2.1 (by omega) (by omega) ?_
                  refine ww_incN (c := 1) (lv2 := [.ref b, .int (nI (dpF kf k + 1)), .int (nI k), .int (nI q), .int (nI 1)]) dX3_followed_125 rfl rfl rfl (by decide) rfl ?_
                  refine ww_incN (c := 1) (lv2 := [.ref b, .int (nI (dpF kf k + 1)), .int (nI (k + 1)), .int (nI q), .int (nI 1)]) dX3_followed_128 rfl rfl rfl (by decide) rfl ?_
                  refine ww_goto (tgt := 4) dX3_followed_131 (by decide) ?_
                  refine ww_fg (lv2 := [.ref b, .int (nI (dpF kf k + 1)), .int (nI (k + 1)), UU, UU]) ⟨Or.inr rfl, Or.inr rfl, Or.inr rfl, Or.inl rfl, Or.inl rfl, trivial⟩ ?_
                  refine ww_lv (lv2 := [.ref b, .int (nI (dpF kf (k + 1))), .int (nI (k + 1)), UU, UU]) (by simp [dpF, Nat.sub_sub, h1, nI_ne (show (1 : Nat) ≠ 0 by omega) (by omega) (by omega), hv, nI_clamp (show q < 2 ^ 31 by omega)]) ?_
                  refine ww_hp (h2 := hp_sI h (b + 3) (svS joinC kf vf fa s0 (k + 1))) (by simp [svS, Nat.sub_sub, h1, nI_ne (show (1 : Nat) ≠ 0 by omega) (by omega) (by omega), hv, nI_clamp (show q < 2 ^ 31 by omega)]) ?_
                  exact ih (k + 1) (by omega)
        · exact absurd c26 (by decide)
    · refine ww_iload_n dX3_followed_4 rfl rfl ?_
      refine ww_aload_n dX3_followed_5 rfl rfl ?_
      refine ww_get 4 dX3_followed_6 hW.1 rfl (by decide) inX3 wg_98 hW.2.2.2.2.2.2.2.2.2.1 ?_
      refine ww_icmp_geN (tgt := 134) dX3_followed_9 (by decide) (by omega) (by omega) (fun c9 => ?_) (fun c9 => ?_)
      · exfalso; omega
      · refine ww_aload_n dX3_followed_12 rfl rfl ?_
        refine ww_get 1 dX3_followed_13 hW.1 rfl (by decide) inX3 wg_95 hW.2.2.2.2.2.2.1 ?_
        refine ww_iload_n dX3_followed_16 rfl rfl ?_
        refine ww_ialdF dX3_followed_17 hW.2.2.1 (hp_I_nx (by omega) hW.2.2.2.2.2.2.2.2.2.2.2.1) (by omega) (by omega) ?_
        refine ww_sti_n (lv2 := [.ref b, .int (nI (dpF kf k)), .int (nI k), .int (vf k), UU]) dX3_followed_18 rfl rfl (by decide) rfl ?_
        refine ww_aload_n dX3_followed_19 rfl rfl ?_
        refine ww_get 0 dX3_followed_20 hW.1 rfl (by decide) inX3 wg_94 hW.2.2.2.2.2.1 ?_
        refine ww_iload_n dX3_followed_23 rfl rfl ?_
        refine ww_ialdF dX3_followed_24 hW.2.1 (hp_I_nx (by omega) hW.2.2.2.2.2.2.2.2.2.2.1) (by omega) (by omega) ?_
        rw [hkk]
        refine ww_iconst (v := nI 1) dX3_followed_25 (by decide) ?_
        refine ww_icmp_leN (tgt := 71) dX3_followed_26 (by decide) (by omega) (by omega) (fun c26 => ?_) (fun c26 => ?_)
        · exfalso; omega
        · refine ww_iload_n dX3_followed_29 rfl rfl ?_
          refine ww_iconst (v := nI 2) dX3_followed_30 (by decide) ?_
          refine ww_icmp_ltN (tgt := 128) dX3_followed_31 (by decide) (by omega) (by omega) (fun c31 => ?_) (fun c31 => ?_)
          · exfalso; omega
          · refine ww_decN (lv2 := [.ref b, .int (nI ((dpF kf k) - 1)), .int (nI k), .int (vf k), UU]) dX3_followed_34 rfl (by omega) rfl rfl (by decide) rfl ?_
            refine ww_aload_n dX3_followed_37 rfl rfl ?_
            refine ww_get 2 dX3_followed_38 hW.1 rfl (by decide) inX3 wg_96 hW.2.2.2.2.2.2.2.1 ?_
            refine ww_iload_n dX3_followed_41 rfl rfl ?_
            refine ww_iconst (v := nI 1) dX3_followed_42 (by decide) ?_
            refine ww_isubN dX3_followed_43 (by omega) ?_
            refine ww_aload_n dX3_followed_44 rfl rfl ?_
            refine ww_get 0 dX3_followed_45 hW.1 rfl (by decide) inX3 wg_94 hW.2.2.2.2.2.1 ?_
            refine ww_iload_n dX3_followed_48 rfl rfl ?_
            refine ww_ialdF dX3_followed_49 hW.2.1 (hp_I_nx (by omega) hW.2.2.2.2.2.2.2.2.2.2.1) (by omega) (by omega) ?_
            rw [hkk]
            refine ww_aload_n dX3_followed_50 rfl rfl ?_
            refine ww_get 2 dX3_followed_51 hW.1 rfl (by decide) inX3 wg_96 hW.2.2.2.2.2.2.2.1 ?_
            refine ww_iload_n dX3_followed_54 rfl rfl ?_
            refine ww_iconst (v := nI 1) dX3_followed_55 (by decide) ?_
            refine ww_isubN dX3_followed_56 (by omega) ?_
            refine ww_ialdF dX3_followed_57 hW.2.2.2.1 (hp_I_eq _ _ _) (by omega) (by omega) ?_
            refine ww_aload_n dX3_followed_58 rfl rfl ?_
            refine ww_get 2 dX3_followed_59 hW.1 rfl (by decide) inX3 wg_96 hW.2.2.2.2.2.2.2.1 ?_
            refine ww_iload_n dX3_followed_62 rfl rfl ?_
            refine ww_ialdF dX3_followed_63 hW.2.2.2.1 (hp_I_eq _ _ _) (by omega) (by omega) ?_
            refine ww_cSr (M := m_X3_followed) (pc := 64) (v := .int (joinC (nI kk) ((svS joinC kf vf fa s0 k) (((dpF kf k) - 1) - 1)) ((svS joinC kf vf fa s0 k) ((dpF kf k) - 1)))) (h1 := hp_sI h (b + 3) (svS joinC kf vf fa s0 k)) (st := [.int (nI (((dpF kf k) - 1) - 1)), .ref (b + 3)]) (bc := 0) (bs := 0) (c_Law_joined hst kk k1 k2 ((svS joinC kf vf fa s0 k) (((dpF kf k) - 1) - 1)) ((svS joinC kf vf fa s0 k) ((dpF kf k) - 1)) (hp_sI h (b + 3) (svS joinC kf vf fa s0 k))) vv_X3_joined dX3_followed_64 wg_714 rfl rfl rfl (Nat.le_of_ble_eq_true rfl) (Nat.le_of_ble_eq_true rfl) (Nat.le_of_ble_eq_true rfl) (Nat.le_of_ble_eq_true rfl) ?_
            refine ww_iastC dX3_followed_67 hW.2.2.2.1 (by omega) (by omega) ?_
            refine ww_goto (tgt := 128) dX3_followed_68 (by decide) ?_
            refine ww_incN (c := 1) (lv2 := [.ref b, .int (nI ((dpF kf k) - 1)), .int (nI (k + 1)), .int (vf k), UU]) dX3_followed_128 rfl rfl rfl (by decide) rfl ?_
            refine ww_goto (tgt := 4) dX3_followed_131 (by decide) ?_
            refine ww_fg (lv2 := [.ref b, .int (nI ((dpF kf k) - 1)), .int (nI (k + 1)), UU, UU]) ⟨Or.inr rfl, Or.inr rfl, Or.inr rfl, Or.inl rfl, Or.inl rfl, trivial⟩ ?_
            refine ww_lv (lv2 := [.ref b, .int (nI (dpF kf (k + 1))), .int (nI (k + 1)), UU, UU]) (by simp [dpF, Nat.sub_sub, hkk, nI_ne (show kk ≠ 0 by omega) (by omega) (by omega), nI_ne (show kk ≠ 1 by omega) (by omega) (by omega)]) ?_
            refine ww_hp (h2 := hp_sI h (b + 3) (svS joinC kf vf fa s0 (k + 1))) (by simp [svS, Nat.sub_sub, hkk, nI_ne (show kk ≠ 0 by omega) (by omega) (by omega), nI_ne (show kk ≠ 1 by omega) (by omega) (by omega)]) ?_
            exact ih (k + 1) (by omega)
set_option maxHeartbeats 4000000 in
set_option maxRecDepth 100000 in
theorem c_Law_followed {l : Launch} {Z : EE} (hst : l.stackTraces = false) {h : PH} {b sz : Nat} {kf vf : Nat → Int32} (hW : LawAt h b sz kf vf) {fa s0 : Nat → Int32} (hfa : hp_I h (b + 4) = fa) (hs0 : hp_I h (b + 3) = s0) (hok : LawOK kf vf sz) : CC l Z m_X3_followed 1 0 0 [.ref b] h (RT (some (.int (if sz = 0 then 0 else svS joinC kf vf fa s0 sz 0))) (hp_sI h (b + 3) (svS joinC kf vf fa s0 sz))) := by
  refine ee_entry hst (by decide +kernel) rfl rfl (by simp [Value.category]) (Nat.le_of_ble_eq_true rfl) ?_
  refine ww_lv (lv2 := [.ref b, UU, UU, UU, UU]) rfl ?_
  refine ww_iconst (v := nI 0) dX3_followed_0 (by decide) ?_
  refine ww_sti_n (lv2 := [.ref b, .int (nI 0), UU, UU, UU]) dX3_followed_1 rfl rfl (by decide) rfl ?_
  refine ww_iconst (v := nI 0) dX3_followed_2 (by decide) ?_
  refine ww_sti_n (lv2 := [.ref b, .int (nI 0), .int (nI 0), UU, UU]) dX3_followed_3 rfl rfl (by decide) rfl ?_
  refine ww_hp (h2 := hp_sI h (b + 3) (svS joinC kf vf fa s0 0)) (by simp only [svS]; rw [← hs0, hp_sI_id]) ?_
  exact l_Law_followed hst hW hfa hs0 hok sz 0 (by omega)
set_option maxHeartbeats 4000000 in
set_option maxRecDepth 100000 in
theorem c_Law_asks {l : Launch} {Z : EE} (hst : l.stackTraces = false) {h : PH} {b sz : Nat} {kf vf : Nat → Int32} (hW : LawAt h b sz kf vf) (hok : LawOK kf vf sz) (n : Nat) (hn : n ≤ 60) (r : Int32) (w : Nat) (hw : w ≤ 2) (o u dd : Int32) : CC l Z m_X3_asks 2 0 0 [.ref b, .int (nI n), .int r, .int (nI w), .int o, .int u, .int dd] h (RQ (some (.int (askV joinC (joinC (nI 5)) sz kf vf (nI n) r (nI w) o u dd (js_parts.getD n 0)))) (Same (fun c => c = b + 3 ∨ c = b + 4) (fun _ _ => False) h)) := by
  refine ee_entry hst (by decide +kernel) rfl rfl (by simp [Value.category]) (Nat.le_of_ble_eq_true rfl) ?_
  refine ww_lv (lv2 := [.ref b, .int (nI n), .int r, .int (nI w), .int o, .int u, .int dd, UU]) rfl ?_
  have hsz := hW.2.2.2.2.2.2.2.2.2.2.2.2
  refine ww_aload_n dX3_asks_0 rfl rfl ?_
  refine ww_get 3 dX3_asks_1 hW.1 rfl (by decide) inX3 wg_97 hW.2.2.2.2.2.2.2.2.1 ?_
  refine ww_iconst (v := nI 0) dX3_asks_4 (by decide) ?_
  refine ww_iload_n dX3_asks_5 rfl rfl ?_
  refine ww_iastF dX3_asks_6 hW.2.2.2.2.1 rfl (by omega) (by omega) ?_
  refine ww_aload_n dX3_asks_7 rfl rfl ?_
  refine ww_get 3 dX3_asks_8 hW.1 rfl (by decide) inX3 wg_97 hW.2.2.2.2.2.2.2.2.1 ?_
  refine ww_iconst (v := nI 1) dX3_asks_11 (by decide) ?_
  refine ww_iload_n dX3_asks_12 rfl rfl ?_
  refine ww_iastC dX3_asks_13 hW.2.2.2.2.1 (by omega) (by omega) ?_
  refine ww_aload_n dX3_asks_14 rfl rfl ?_
  refine ww_get 3 dX3_asks_15 hW.1 rfl (by decide) inX3 wg_97 hW.2.2.2.2.2.2.2.2.1 ?_
  refine ww_iconst (v := nI 2) dX3_asks_18 (by decide) ?_
  refine ww_iload_n dX3_asks_19 rfl rfl ?_
  refine ww_iastC dX3_asks_20 hW.2.2.2.2.1 (by omega) (by omega) ?_
  refine ww_aload_n dX3_asks_21 rfl rfl ?_
  refine ww_get 3 dX3_asks_22 hW.1 rfl (by decide) inX3 wg_97 hW.2.2.2.2.2.2.2.2.1 ?_
  refine ww_iconst (v := nI 3) dX3_asks_25 (by decide) ?_
  refine ww_iload dX3_asks_26 rfl ?_
  refine ww_iastC dX3_asks_28 hW.2.2.2.2.1 (by omega) (by omega) ?_
  refine ww_aload_n dX3_asks_29 rfl rfl ?_
  refine ww_get 3 dX3_asks_30 hW.1 rfl (by decide) inX3 wg_97 hW.2.2.2.2.2.2.2.2.1 ?_
  refine ww_iconst (v := nI 4) dX3_asks_33 (by decide) ?_
  refine ww_iload_n dX3_asks_34 rfl rfl ?_
  refine ww_if_ltN (tgt := 52) dX3_asks_35 (by decide) (by omega) ?_
  refine ww_iload_n dX3_asks_38 rfl rfl ?_
  refine ww_bipush (v := nI 60) dX3_asks_39 (by decide) ?_
  refine ww_icmp_gtN (tgt := 52) dX3_asks_41 (by decide) (by omega) (by omega) (fun c41 => ?_) (fun c41 => ?_)
  · exfalso; omega
  · refine ww_partsN dX3_asks_44 wn_712 ?_
    refine ww_iload_n dX3_asks_47 rfl rfl ?_
    refine ww_paldN dX3_asks_48 (by omega) ?_
    refine ww_goto (tgt := 53) dX3_asks_49 (by decide) ?_
    refine ww_iastC dX3_asks_53 hW.2.2.2.2.1 (by omega) (by omega) ?_
    refine ww_aload_n dX3_asks_54 rfl rfl ?_
    refine ww_get 3 dX3_asks_55 hW.1 rfl (by decide) inX3 wg_97 hW.2.2.2.2.2.2.2.2.1 ?_
    refine ww_iconst (v := nI 5) dX3_asks_58 (by decide) ?_
    refine ww_iload dX3_asks_59 rfl ?_
    refine ww_iastC dX3_asks_61 hW.2.2.2.2.1 (by omega) (by omega) ?_
    refine ww_aload_n dX3_asks_62 rfl rfl ?_
    refine ww_get 3 dX3_asks_63 hW.1 rfl (by decide) inX3 wg_97 hW.2.2.2.2.2.2.2.2.1 ?_
    refine ww_bipush (v := nI 6) dX3_asks_66 (by decide) ?_
    refine ww_iload dX3_asks_68 rfl ?_
    refine ww_iastC dX3_asks_70 hW.2.2.2.2.1 (by omega) (by omega) ?_
    refine ww_aload_n dX3_asks_71 rfl rfl ?_
    refine ww_get 4 dX3_asks_72 hW.1 rfl (by decide) inX3 wg_98 hW.2.2.2.2.2.2.2.2.2.1 ?_
    refine ww_if_neN (tgt := 89) dX3_asks_75 (by decide) (by omega) (fun c75 => ?_) (fun c75 => ?_)
    · refine ww_aload_n dX3_asks_89 rfl rfl ?_
      refine ww_cVr (M := m_X3_asks) (pc := 90) (v := .int (if sz = 0 then 0 else svS joinC kf vf (upd (upd (upd (upd (upd (upd (upd (hp_I h (b + 4)) 0 (nI n)) 1 r) 2 (nI w)) 3 o) 4 (js_parts.getD n 0)) 5 u) 6 dd) (hp_I (hp_sI h (b + 4) (upd (upd (upd (upd (upd (upd (upd (hp_I h (b + 4)) 0 (nI n)) 1 r) 2 (nI w)) 3 o) 4 (js_parts.getD n 0)) 5 u) 6 dd)) (b + 3)) sz 0)) (h1 := hp_sI (hp_sI h (b + 4) (upd (upd (upd (upd (upd (upd (upd (hp_I h (b + 4)) 0 (nI n)) 1 r) 2 (nI w)) 3 o) 4 (js_parts.getD n 0)) 5 u) 6 dd)) (b + 3) (svS joinC kf vf (upd (upd (upd (upd (upd (upd (upd (hp_I h (b + 4)) 0 (nI n)) 1 r) 2 (nI w)) 3 o) 4 (js_parts.getD n 0)) 5 u) 6 dd) (hp_I (hp_sI h (b + 4) (upd (upd (upd (upd (upd (upd (upd (hp_I h (b + 4)) 0 (nI n)) 1 r) 2 (nI w)) 3 o) 4 (js_parts.getD n 0)) 5 u) 6 dd)) (b + 3)) sz)) (st := []) (bc := 0) (bs := 0) (c_Law_followed hst (hW.sI (by omega) (by omega)) (hp_I_eq _ _ _) rfl hok) vv_X3_followed dX3_asks_90 wg_717 hW.1 rfl rfl rfl rfl (Nat.le_of_ble_eq_true rfl) (Nat.le_of_ble_eq_true rfl) (Nat.le_of_ble_eq_true rfl) (Nat.le_of_ble_eq_true rfl) ?_
      have ea : (if sz = 0 then 0 else svS joinC kf vf (upd (upd (upd (upd (upd (upd (upd (hp_I h (b + 4)) 0 (nI n)) 1 r) 2 (nI w)) 3 o) 4 (js_parts.getD n 0)) 5 u) 6 dd) (hp_I (hp_sI h (b + 4) (upd (upd (upd (upd (upd (upd (upd (hp_I h (b + 4)) 0 (nI n)) 1 r) 2 (nI w)) 3 o) 4 (js_parts.getD n 0)) 5 u) 6 dd)) (b + 3)) sz 0) = askR joinC (joinC (nI 5)) sz kf vf (nI n) r (nI w) o u dd (js_parts.getD n 0) := by
        have z1 : ¬ sz = 0 := by omega
        unfold askR
        rw [if_neg z1, if_neg z1]
        exact svS_ind joinC hok (fun j hj => by
          rcases (by omega : j = 0 ∨ j = 1 ∨ j = 2 ∨ j = 3 ∨ j = 4 ∨ j = 5 ∨ j = 6) with rfl | rfl | rfl | rfl | rfl | rfl | rfl <;> simp [upd, faF]) sz (Nat.le_refl _) 0 (by have := hok.2 (by omega); omega)
      rw [ea]
      refine ww_sti (lv2 := [.ref b, .int (nI n), .int r, .int (nI w), .int o, .int u, .int dd, .int (askR joinC (joinC (nI 5)) sz kf vf (nI n) r (nI w) o u dd (js_parts.getD n 0))]) dX3_asks_93 rfl (by decide) rfl ?_
      refine ww_iload dX3_asks_95 rfl ?_
      refine ww_if_ge (tgt := 102) dX3_asks_97 (by decide) (fun c97 => ?_) (fun c97 => ?_)
      · refine ww_iload dX3_asks_102 rfl ?_
        refine ww_bipush (v := nI 99) dX3_asks_104 (by decide) ?_
        refine ww_icmp_le (tgt := 114) dX3_asks_106 (by decide) (fun c106 => ?_) (fun c106 => ?_)
        · refine ww_iload dX3_asks_114 rfl ?_
          exact ww_iret dX3_asks_116 rfl ⟨by unfold askV clF; rw [if_neg (by simpa using c97), if_neg (by simpa using c106)], ((Same.rf.sI (Or.inr rfl)).sI (Or.inl rfl))⟩
        · refine ww_bipush (v := nI 99) dX3_asks_109 (by decide) ?_
          refine ww_goto (tgt := 116) dX3_asks_111 (by decide) ?_
          exact ww_iret dX3_asks_116 rfl ⟨by unfold askV clF; rw [if_neg (by simpa using c97), if_pos (by simpa using c106)], ((Same.rf.sI (Or.inr rfl)).sI (Or.inl rfl))⟩
      · refine ww_iconst (v := nI 0) dX3_asks_100 (by decide) ?_
        exact ww_iret dX3_asks_101 rfl ⟨by unfold askV clF; rw [if_pos (by simpa using c97)]; rfl, ((Same.rf.sI (Or.inr rfl)).sI (Or.inl rfl))⟩
    · refine ww_iconst (v := nI 5) dX3_asks_78 (by decide) ?_
      refine ww_iload_n dX3_asks_79 rfl rfl ?_
      refine ww_iconst (v := nI 1) dX3_asks_80 (by decide) ?_
      refine ww_iload_n dX3_asks_81 rfl rfl ?_
      refine ww_iaddN dX3_asks_82 ?_
      refine ww_cSr (M := m_X3_asks) (pc := 83) (v := .int (joinC (nI 5) r (nI (1 + w)))) (h1 := hp_sI h (b + 4) (upd (upd (upd (upd (upd (upd (upd (hp_I h (b + 4)) 0 (nI n)) 1 r) 2 (nI w)) 3 o) 4 (js_parts.getD n 0)) 5 u) 6 dd)) (st := []) (bc := 0) (bs := 0) (c_Law_joined hst 5 (by omega) (by omega) r (nI (1 + w)) (hp_sI h (b + 4) (upd (upd (upd (upd (upd (upd (upd (hp_I h (b + 4)) 0 (nI n)) 1 r) 2 (nI w)) 3 o) 4 (js_parts.getD n 0)) 5 u) 6 dd))) vv_X3_joined dX3_asks_83 wg_714 rfl rfl rfl (Nat.le_of_ble_eq_true rfl) (Nat.le_of_ble_eq_true rfl) (Nat.le_of_ble_eq_true rfl) (Nat.le_of_ble_eq_true rfl) ?_
      refine ww_goto (tgt := 93) dX3_asks_86 (by decide) ?_
      have ea : joinC (nI 5) r (nI (1 + w)) = askR joinC (joinC (nI 5)) sz kf vf (nI n) r (nI w) o u dd (js_parts.getD n 0) := by
        unfold askR
        rw [if_pos c75, nI_add]
      rw [ea]
      refine ww_sti (lv2 := [.ref b, .int (nI n), .int r, .int (nI w), .int o, .int u, .int dd, .int (askR joinC (joinC (nI 5)) sz kf vf (nI n) r (nI w) o u dd (js_parts.getD n 0))]) dX3_asks_93 rfl (by decide) rfl ?_
      refine ww_iload dX3_asks_95 rfl ?_
      refine ww_if_ge (tgt := 102) dX3_asks_97 (by decide) (fun c97 => ?_) (fun c97 => ?_)
      · refine ww_iload dX3_asks_102 rfl ?_
        refine ww_bipush (v := nI 99) dX3_asks_104 (by decide) ?_
        refine ww_icmp_le (tgt := 114) dX3_asks_106 (by decide) (fun c106 => ?_) (fun c106 => ?_)
        · refine ww_iload dX3_asks_114 rfl ?_
          exact ww_iret dX3_asks_116 rfl ⟨by unfold askV clF; rw [if_neg (by simpa using c97), if_neg (by simpa using c106)], (Same.rf.sI (Or.inr rfl))⟩
        · refine ww_bipush (v := nI 99) dX3_asks_109 (by decide) ?_
          refine ww_goto (tgt := 116) dX3_asks_111 (by decide) ?_
          exact ww_iret dX3_asks_116 rfl ⟨by unfold askV clF; rw [if_neg (by simpa using c97), if_pos (by simpa using c106)], (Same.rf.sI (Or.inr rfl))⟩
      · refine ww_iconst (v := nI 0) dX3_asks_100 (by decide) ?_
        exact ww_iret dX3_asks_101 rfl ⟨by unfold askV clF; rw [if_pos (by simpa using c97)]; rfl, (Same.rf.sI (Or.inr rfl))⟩
set_option maxHeartbeats 4000000 in
set_option maxRecDepth 100000 in
theorem c_Land_fareBy {l : Launch} {Z : EE} (hst : l.stackTraces = false) {h : PH} {a np du : Nat} {f : Nat → Int32} (hL : LandAt h a np du f) {b sz : Nat} {kf vf : Nat → Int32} (hW : LawAt h b sz kf vf) (hok : LawOK kf vf sz) (hab : a + 1 < b ∨ b + 4 < a) (n : Nat) (hn : n ≤ 60) (w : Nat) (hw : w ≤ 2) : CC l Z m_X2_fareBy 3 0 0 [.ref a, .ref b, .int (nI n), .int (nI w)] h (RQ (some (.int (fareC f sz kf vf n w))) (Same (fun c => c = b + 3 ∨ c = b + 4) (fun _ _ => False) h)) := by
  refine ee_entry hst (by decide +kernel) rfl rfl (by simp [Value.category]) (Nat.le_of_ble_eq_true rfl) ?_
  refine ww_lv (lv2 := [.ref a, .ref b, .int (nI n), .int (nI w), UU]) rfl ?_
  refine ww_aload_n dX2_fareBy_0 rfl rfl ?_
  refine ww_iload_n dX2_fareBy_1 rfl rfl ?_
  refine ww_cVr (M := m_X2_fareBy) (pc := 2) (v := .int (f n)) (h1 := h) (st := []) (bc := 0) (bs := 0) (c_Land_owner hst hL n (by omega)) vv_X2_owner dX2_fareBy_2 wg_692 hL.1 rfl rfl rfl rfl (Nat.le_of_ble_eq_true rfl) (Nat.le_of_ble_eq_true rfl) (Nat.le_of_ble_eq_true rfl) (Nat.le_of_ble_eq_true rfl) ?_
  refine ww_sti (lv2 := [.ref a, .ref b, .int (nI n), .int (nI w), .int (f n)]) dX2_fareBy_5 rfl (by decide) rfl ?_
  refine ww_iload dX2_fareBy_7 rfl ?_
  refine ww_iconst (v := -1) dX2_fareBy_9 (by decide) ?_
  refine ww_icmp_ne (tgt := 15) dX2_fareBy_10 (by decide) (fun c10 => ?_) (fun c10 => ?_)
  · refine ww_aload_n dX2_fareBy_15 rfl rfl ?_
    refine ww_iload_n dX2_fareBy_16 rfl rfl ?_
    refine ww_aload_n dX2_fareBy_17 rfl rfl ?_
    refine ww_iload_n dX2_fareBy_18 rfl rfl ?_
    refine ww_cVr (M := m_X2_fareBy) (pc := 19) (v := .int (f (61 + n))) (h1 := h) (st := [.int (nI n), .ref b]) (bc := 0) (bs := 0) (c_Land_rent hst hL n (by omega)) vv_X2_rent dX2_fareBy_19 wg_696 hL.1 rfl rfl rfl rfl (Nat.le_of_ble_eq_true rfl) (Nat.le_of_ble_eq_true rfl) (Nat.le_of_ble_eq_true rfl) (Nat.le_of_ble_eq_true rfl) ?_
    refine ww_iload_n dX2_fareBy_22 rfl rfl ?_
    refine ww_iload dX2_fareBy_23 rfl ?_
    refine ww_aload_n dX2_fareBy_25 rfl rfl ?_
    refine ww_iload_n dX2_fareBy_26 rfl rfl ?_
    refine ww_cVr (M := m_X2_fareBy) (pc := 27) (v := .int (f (122 + n))) (h1 := h) (st := [.int (f n), .int (nI w), .int (f (61 + n)), .int (nI n), .ref b]) (bc := 0) (bs := 0) (c_Land_used hst hL n (by omega)) vv_X2_used dX2_fareBy_27 wg_700 hL.1 rfl rfl rfl rfl (Nat.le_of_ble_eq_true rfl) (Nat.le_of_ble_eq_true rfl) (Nat.le_of_ble_eq_true rfl) (Nat.le_of_ble_eq_true rfl) ?_
    refine ww_aload_n dX2_fareBy_30 rfl rfl ?_
    refine ww_cVr (M := m_X2_fareBy) (pc := 31) (v := .int (f 189)) (h1 := h) (st := [.int (f (122 + n)), .int (f n), .int (nI w), .int (f (61 + n)), .int (nI n), .ref b]) (bc := 0) (bs := 0) (c_Land_day hst hL) vv_X2_day dX2_fareBy_31 wg_704 hL.1 rfl rfl rfl rfl (Nat.le_of_ble_eq_true rfl) (Nat.le_of_ble_eq_true rfl) (Nat.le_of_ble_eq_true rfl) (Nat.le_of_ble_eq_true rfl) ?_
    refine ww_cVq (M := m_X2_fareBy) (pc := 34) (v := .int (askV joinC (joinC (nI 5)) sz kf vf (nI n) (f (61 + n)) (nI w) (f n) (f (122 + n)) (f 189) (js_parts.getD n 0))) (st := []) (bc := 0) (bs := 0) (c_Law_asks hst hW hok n (by omega) (f (61 + n)) w hw (f n) (f (122 + n)) (f 189)) vv_X3_asks dX2_fareBy_34 wg_708 hW.1 rfl rfl rfl rfl (Nat.le_of_ble_eq_true rfl) (Nat.le_of_ble_eq_true rfl) (Nat.le_of_ble_eq_true rfl) (Nat.le_of_ble_eq_true rfl) (fun h9 q9 => ?_)
    exact ww_iret dX2_fareBy_37 rfl ⟨by unfold fareC; rw [if_neg (by simpa using c10)], q9⟩
  · refine ww_iconst (v := nI 0) dX2_fareBy_13 (by decide) ?_
    exact ww_iret dX2_fareBy_14 rfl ⟨by unfold fareC; rw [if_pos (by simpa using c10)]; rfl, Same.rf⟩
set_option maxHeartbeats 4000000 in
set_option maxRecDepth 100000 in
theorem l_Land_faresBy {l : Launch} {Z : EE} (hst : l.stackTraces = false) {h : PH} {a np du : Nat} {f : Nat → Int32} (hL : LandAt h a np du f) {b sz : Nat} {kf vf : Nat → Int32} (hW : LawAt h b sz kf vf) (hok : LawOK kf vf sz) (hab : a + 1 < b ∨ b + 4 < a) {t : Nat} (ht : hp_K h t = (20, 61)) (ht1 : t ≠ a + 1 ∧ t ≠ b + 1 ∧ t ≠ b + 2 ∧ t ≠ b + 3 ∧ t ≠ b + 4) (w : Nat) (hw : w ≤ 2) : ∀ (j k : Nat) (h2 : PH), k + j = 61 → Same (fun c => c = t ∨ c = b + 3 ∨ c = b + 4) (fun _ _ => False) h h2 → (∀ i, i < k → hp_I h2 t i = fareC f sz kf vf i w) → WW l Z m_X2_faresBy 4 0 0 3 [.ref a, .ref b, .int (nI w), .ref t, .int (nI k)] [] h2 (RQ none (fun h9 => Same (fun c => c = t ∨ c = b + 3 ∨ c = b + 4) (fun _ _ => False) h h9 ∧ ∀ i, i < 61 → hp_I h9 t i = fareC f sz kf vf i w)) := by
  intro j
  induction j with
  | zero =>
    intro k h2 hk hS hv
    have hk0 : k = 61 := by omega
    subst hk0
    refine ww_iload dX2_faresBy_3 rfl ?_
    refine ww_aload_n dX2_faresBy_5 rfl rfl ?_
    refine ww_alenI dX2_faresBy_6 ((hS.2.1 _).trans ht) ?_
    refine ww_icmp_geN (tgt := 35) dX2_faresBy_7 (by decide) (by omega) (by omega) (fun c7 => ?_) (fun c7 => ?_)
    · exact ww_vret dX2_faresBy_35 rfl ⟨rfl, hS, hv⟩
    · exfalso; omega
  | succ j ih =>
    intro k h2 hk hS hv
    have hL2 := hL.same hS (by omega) (fun _ e => e)
    have hW2 := hW.same hS (by omega) (by omega) (fun _ e => e)
    refine ww_iload dX2_faresBy_3 rfl ?_
    refine ww_aload_n dX2_faresBy_5 rfl rfl ?_
    refine ww_alenI dX2_faresBy_6 ((hS.2.1 _).trans ht) ?_
    refine ww_icmp_geN (tgt := 35) dX2_faresBy_7 (by decide) (by omega) (by omega) (fun c7 => ?_) (fun c7 => ?_)
    · exfalso; omega
    · refine ww_iload dX2_faresBy_10 rfl ?_
      refine ww_bipush (v := nI 60) dX2_faresBy_12 (by decide) ?_
      refine ww_icmp_gtN (tgt := 35) dX2_faresBy_14 (by decide) (by omega) (by omega) (fun c14 => ?_) (fun c14 => ?_)
      · exfalso; omega
      · refine ww_aload_n dX2_faresBy_17 rfl rfl ?_
        refine ww_iload dX2_faresBy_18 rfl ?_
        refine ww_aload_n dX2_faresBy_20 rfl rfl ?_
        refine ww_aload_n dX2_faresBy_21 rfl rfl ?_
        refine ww_iload dX2_faresBy_22 rfl ?_
        refine ww_iload_n dX2_faresBy_24 rfl rfl ?_
        refine ww_cVq (M := m_X2_faresBy) (pc := 25) (v := .int (fareC f sz kf vf k w)) (st := [.int (nI k), .ref t]) (bc := 0) (bs := 0) (c_Land_fareBy hst hL2 hW2 hok hab k (by omega) w hw) vv_X2_fareBy dX2_faresBy_25 wg_890 hL2.1 rfl rfl rfl rfl (Nat.le_of_ble_eq_true rfl) (Nat.le_of_ble_eq_true rfl) (Nat.le_of_ble_eq_true rfl) (Nat.le_of_ble_eq_true rfl) (fun h9 q9 => ?_)
        refine ww_iastF dX2_faresBy_28 ((q9.2.1 _).trans ((hS.2.1 _).trans ht)) rfl (by omega) (by omega) ?_
        refine ww_incN (c := 1) (lv2 := [.ref a, .ref b, .int (nI w), .ref t, .int (nI (k + 1))]) dX2_faresBy_29 rfl rfl rfl (by decide) rfl ?_
        refine ww_goto (tgt := 3) dX2_faresBy_32 (by decide) ?_
        refine ih (k + 1) _ (by omega) ((hS.tr (q9.mono (fun c hc => Or.inr hc) (fun _ _ e => e))).sI (Or.inl rfl)) (fun i hi => ?_)
        rw [hp_I_eq]
        unfold upd
        by_cases e : i = k
        · rw [if_pos e, e]
        · rw [if_neg e, q9.2.2.2.1 t (by omega)]
          exact hv i (by omega)
set_option maxHeartbeats 4000000 in
set_option maxRecDepth 100000 in
theorem c_Land_faresBy {l : Launch} {Z : EE} (hst : l.stackTraces = false) {h : PH} {a np du : Nat} {f : Nat → Int32} (hL : LandAt h a np du f) {b sz : Nat} {kf vf : Nat → Int32} (hW : LawAt h b sz kf vf) (hok : LawOK kf vf sz) (hab : a + 1 < b ∨ b + 4 < a) {t : Nat} (ht : hp_K h t = (20, 61)) (ht1 : t ≠ a + 1 ∧ t ≠ b + 1 ∧ t ≠ b + 2 ∧ t ≠ b + 3 ∧ t ≠ b + 4) (w : Nat) (hw : w ≤ 2) : CC l Z m_X2_faresBy 4 0 0 [.ref a, .ref b, .int (nI w), .ref t] h (RQ none (fun h9 => Same (fun c => c = t ∨ c = b + 3 ∨ c = b + 4) (fun _ _ => False) h h9 ∧ ∀ i, i < 61 → hp_I h9 t i = fareC f sz kf vf i w)) := by
  refine ee_entry hst (by decide +kernel) rfl rfl (by simp [Value.category]) (Nat.le_of_ble_eq_true rfl) ?_
  refine ww_lv (lv2 := [.ref a, .ref b, .int (nI w), .ref t, UU]) rfl ?_
  refine ww_iconst (v := nI 0) dX2_faresBy_0 (by decide) ?_
  refine ww_sti (lv2 := [.ref a, .ref b, .int (nI w), .ref t, .int (nI 0)]) dX2_faresBy_1 rfl (by decide) rfl ?_
  exact l_Land_faresBy hst hL hW hok hab ht ht1 w hw 61 0 h rfl Same.rf (fun i hi => absurd hi (by omega))
