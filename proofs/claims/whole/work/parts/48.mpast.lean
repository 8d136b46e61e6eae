/-! ===== the reference: undo, image, restore ===== -/
def ofF (f : Nat → Int32) (o : Nat) (g : Nat → Int32) (c : Nat) : Nat → Int32 := fun i => if i < c then f (o + i) else g i
theorem ofF_0 (f : Nat → Int32) (o : Nat) (g : Nat → Int32) : ofF f o g 0 = g := by funext i; unfold ofF; rw [if_neg (by omega)]
theorem ofF_s (f : Nat → Int32) (o : Nat) (g : Nat → Int32) (k : Nat) : upd (ofF f o g k) k (f (o + k)) = ofF f o g (k + 1) := by
  funext i
  by_cases h1 : i = k
  · subst h1; rw [pk_us]; unfold ofF; rw [if_pos (by omega)]
  · rw [pk_un h1]; unfold ofF
    by_cases h2 : i < k
    · rw [if_pos h2, if_pos (by omega)]
    · rw [if_neg h2, if_neg (by omega)]
def toF (f : Nat → Int32) (o : Nat) (g : Nat → Int32) (c : Nat) : Nat → Int32 := fun i => if o ≤ i ∧ i < o + c then f (i - o) else g i
theorem toF_0 (f : Nat → Int32) (o : Nat) (g : Nat → Int32) : toF f o g 0 = g := by funext i; unfold toF; rw [if_neg (by omega)]
theorem toF_s (f : Nat → Int32) (o : Nat) (g : Nat → Int32) (k : Nat) : upd (toF f o g k) (o + k) (f k) = toF f o g (k + 1) := by
  funext i
  by_cases h1 : i = o + k
  · subst h1; rw [pk_us]; unfold toF; rw [if_pos (by omega), show o + k - o = k by omega]
  · rw [pk_un h1]; unfold toF
    by_cases h2 : o ≤ i ∧ i < o + k
    · rw [if_pos h2, if_pos (by omega)]
    · rw [if_neg h2, if_neg (by omega)]
set_option maxHeartbeats 4000000 in
set_option maxRecDepth 100000 in
theorem l_M_undo {l : Launch} {Z : EE} (hst : l.stackTraces = false) {h : PH} {m : Nat} (hM : ModS h m) {w : Nat} (hwk : hp_F h m 28 = .int (nI w)) (hw : w < 16) {f pf : Nat → Int32} (hf : hp_I h (m + 14) = f) (hpf : hp_I h (m + 16) = pf) {Post : Res → PH → Prop} : ∀ (j k : Nat), k + j = 190 → WW l Z m_X11_undo 0 0 0 60 [.ref m, .int (nI 190)] [] (hp_sI h (m + 14) (ofF pf (190 * w) f 190)) Post → WW l Z m_X11_undo 0 0 0 26 [.ref m, .int (nI k)] [] (hp_sI h (m + 14) (ofF pf (190 * w) f k)) Post := by
  intro j
  induction j with
  | zero =>
    intro k hk hexit
    have hk0 : k = 190 := by omega
    subst hk0
    refine ww_iload_n dX11_undo_26 rfl rfl ?_
    refine ww_sipush (v := nI 190) dX11_undo_27 (by decide) ?_
    refine ww_icmp_geN (tgt := 60) dX11_undo_30 (by decide) (by omega) (by omega) (fun c30 => ?_) (fun c30 => ?_)
    · exact hexit
    · exfalso; omega
  | succ j ih =>
    intro k hk hexit
    refine ww_iload_n dX11_undo_26 rfl rfl ?_
    refine ww_sipush (v := nI 190) dX11_undo_27 (by decide) ?_
    refine ww_icmp_geN (tgt := 60) dX11_undo_30 (by decide) (by omega) (by omega) (fun c30 => ?_) (fun c30 => ?_)
    · exfalso; omega
    · refine ww_aload_n dX11_undo_33 rfl rfl ?_
      refine ww_get 33 dX11_undo_34 hM.K0 rfl (by decide) inX11 wg_1273 hM.F14 ?_
      refine ww_iload_n dX11_undo_37 rfl rfl ?_
      refine ww_aload_n dX11_undo_38 rfl rfl ?_
      refine ww_get 35 dX11_undo_39 hM.K0 rfl (by decide) inX11 wg_1275 hM.F16 ?_
      refine ww_sipush (v := nI 190) dX11_undo_42 (by decide) ?_
      refine ww_aload_n dX11_undo_45 rfl rfl ?_
      refine ww_get 28 dX11_undo_46 hM.K0 rfl (by decide) inX11 wg_1268 hwk ?_
      refine ww_imulN dX11_undo_49 ?_
      refine ww_iload_n dX11_undo_50 rfl rfl ?_
      refine ww_iaddN dX11_undo_51 ?_
      refine ww_ialdF dX11_undo_52 hM.K16 (hp_I_nx (by omega) hpf) (by omega) (by omega) ?_
      refine ww_iastC dX11_undo_53 hM.K14 (by omega) (by omega) ?_
      refine ww_incN (c := 1) (lv2 := [.ref m, .int (nI (k + 1))]) dX11_undo_54 rfl rfl rfl (by decide) rfl ?_
      refine ww_goto (tgt := 26) dX11_undo_57 (by decide) ?_
      refine ww_hp (h2 := hp_sI h (m + 14) (ofF pf (190 * w) f (k + 1))) (by rw [ofF_s]) ?_
      exact ih (k + 1) (by omega) hexit
set_option maxHeartbeats 4000000 in
set_option maxRecDepth 100000 in
theorem c_M_undo {l : Launch} {Z : EE} (hst : l.stackTraces = false) {h : PH} {m : Nat} (hM : ModS h m) {wk : Nat} (hwk : hp_F h m 28 = .int (nI wk)) (hw0 : 0 < wk) (hw : wk ≤ 16) {f pf : Nat → Int32} (hf : hp_I h (m + 14) = f) (hpf : hp_I h (m + 16) = pf) : CC l Z m_X11_undo 0 0 0 [.ref m] h (RT (some (.int (nI (wk - 1)))) (hp_sF (hp_sI (hp_sF (hp_sF h m 0 (.int (nI 0))) m 28 (.int (nI (wk - 1)))) (m + 14) (ofF pf (190 * (wk - 1)) f 190)) m 29 (.int (nI 0)))) := by
  refine ee_entry hst (by decide +kernel) rfl rfl (by simp [Value.category]) (Nat.le_of_ble_eq_true rfl) ?_
  refine ww_lv (lv2 := [.ref m, UU]) rfl ?_
  refine ww_aload_n dX11_undo_0 rfl rfl ?_
  refine ww_iconst (v := nI 0) dX11_undo_1 (by decide) ?_
  refine ww_pfI tyX11 0 dX11_undo_2 hM.K0 rfl (by decide) inX11 tyX11_ok nmX11 wg_1240 rfl rfl ?_
  refine ww_aload_n dX11_undo_5 rfl rfl ?_
  refine ww_get 28 dX11_undo_6 hM.K0 rfl (by decide) inX11 wg_1268 (hp_F_nj (by decide) hwk) ?_
  refine ww_if_neN (tgt := 14) dX11_undo_9 (by decide) (by omega) (fun c9 => ?_) (fun c9 => ?_)
  · refine ww_aload_n dX11_undo_14 rfl rfl ?_
    refine ww_dup dX11_undo_15 rfl ?_
    refine ww_get 28 dX11_undo_16 hM.K0 rfl (by decide) inX11 wg_1268 (hp_F_nj (by decide) hwk) ?_
    refine ww_iconst (v := nI 1) dX11_undo_19 (by decide) ?_
    refine ww_isubN dX11_undo_20 (by omega) ?_
    refine ww_pfI tyX11 28 dX11_undo_21 hM.K0 rfl (by decide) inX11 tyX11_ok nmX11 wg_1268 rfl rfl ?_
    refine ww_iconst (v := nI 0) dX11_undo_24 (by decide) ?_
    refine ww_sti_n (lv2 := [.ref m, .int (nI 0)]) dX11_undo_25 rfl rfl (by decide) rfl ?_
    refine ww_hp (h2 := hp_sI (hp_sF (hp_sF h m 0 (.int (nI 0))) m 28 (.int (nI (wk - 1)))) (m + 14) (ofF pf (190 * (wk - 1)) f 0)) (by rw [ofF_0, ← hf]; exact (hp_sI_id _ _).symm) ?_
    refine l_M_undo hst (h := (hp_sF (hp_sF h m 0 (.int (nI 0))) m 28 (.int (nI (wk - 1))))) ((hM.sF (by decide)).sF (by decide)) (hp_F_eq _ _ _ _) (by omega) hf hpf 190 0 rfl ?_
    refine ww_aload_n dX11_undo_60 rfl rfl ?_
    refine ww_iconst (v := nI 0) dX11_undo_61 (by decide) ?_
    refine ww_pfI tyX11 29 dX11_undo_62 hM.K0 rfl (by decide) inX11 tyX11_ok nmX11 wg_1269 rfl rfl ?_
    refine ww_aload_n dX11_undo_65 rfl rfl ?_
    refine ww_get 28 dX11_undo_66 hM.K0 rfl (by decide) inX11 wg_1268 (hp_F_nj (by decide) (hp_F_sI (hp_F_eq _ _ _ _))) ?_
    exact ww_iret dX11_undo_69 rfl ⟨rfl, rfl⟩
  · exfalso; omega
set_option maxHeartbeats 4000000 in
set_option maxRecDepth 100000 in
theorem c_M_undo_no {l : Launch} {Z : EE} (hst : l.stackTraces = false) {h : PH} {m : Nat} (hM : ModS h m) (hwk : hp_F h m 28 = .int (nI 0)) : CC l Z m_X11_undo 0 0 0 [.ref m] h (RT (some (.int (-1))) (hp_sF h m 0 (.int (nI 0)))) := by
  refine ee_entry hst (by decide +kernel) rfl rfl (by simp [Value.category]) (Nat.le_of_ble_eq_true rfl) ?_
  refine ww_lv (lv2 := [.ref m, UU]) rfl ?_
  refine ww_aload_n dX11_undo_0 rfl rfl ?_
  refine ww_iconst (v := nI 0) dX11_undo_1 (by decide) ?_
  refine ww_pfI tyX11 0 dX11_undo_2 hM.K0 rfl (by decide) inX11 tyX11_ok nmX11 wg_1240 rfl rfl ?_
  refine ww_aload_n dX11_undo_5 rfl rfl ?_
  refine ww_get 28 dX11_undo_6 hM.K0 rfl (by decide) inX11 wg_1268 (hp_F_nj (by decide) hwk) ?_
  refine ww_if_neN (tgt := 14) dX11_undo_9 (by decide) (by omega) (fun c9 => ?_) (fun c9 => ?_)
  · exact absurd c9 (by decide)
  · refine ww_iconst (v := -1) dX11_undo_12 (by decide) ?_
    exact ww_iret dX11_undo_13 rfl ⟨rfl, rfl⟩
set_option maxHeartbeats 4000000 in
set_option maxRecDepth 100000 in
theorem l_M_keep1 {l : Launch} {Z : EE} (hst : l.stackTraces = false) {h : PH} {m : Nat} (hM : ModS h m) {x nx : Nat} {fx img : Nat → Int32} (hx : hp_K h x = (20, nx)) (hxm : x ≠ m + 25) (hfx : hp_I h x = fx) (him : hp_I h (m + 25) = img) (q c : Nat) (hc : c ≤ nx) (hnx : nx ≤ 3040) (hq : q + c ≤ 9693) {Post : Res → PH → Prop} : ∀ (j k : Nat), k + j = c → WW l Z m_X11_keepsRow 0 0 0 49 [.ref m, .int (nI q), .ref x, .int (nI c), .int (nI 1), .int (nI c)] [] (hp_sI h (m + 25) (toF fx q img c)) Post → WW l Z m_X11_keepsRow 0 0 0 3 [.ref m, .int (nI q), .ref x, .int (nI c), .int (nI 1), .int (nI k)] [] (hp_sI h (m + 25) (toF fx q img k)) Post := by
  intro j
  induction j with
  | zero =>
    intro k hk hexit
    have hk0 : k = c := by omega
    subst hk0
    refine ww_iload dX11_keepsRow_3 rfl ?_
    refine ww_iload_n dX11_keepsRow_5 rfl rfl ?_
    refine ww_icmp_geN (tgt := 49) dX11_keepsRow_6 (by decide) (by omega) (by omega) (fun c6 => ?_) (fun c6 => ?_)
    · exact hexit
    · exfalso; omega
  | succ j ih =>
    intro k hk hexit
    refine ww_iload dX11_keepsRow_3 rfl ?_
    refine ww_iload_n dX11_keepsRow_5 rfl rfl ?_
    refine ww_icmp_geN (tgt := 49) dX11_keepsRow_6 (by decide) (by omega) (by omega) (fun c6 => ?_) (fun c6 => ?_)
    · exfalso; omega
    · refine ww_iload dX11_keepsRow_9 rfl ?_
      refine ww_if_eqN (tgt := 30) dX11_keepsRow_11 (by decide) (by omega) (fun c11 => ?_) (fun c11 => ?_)
      · exact absurd c11 (by decide)
      · refine ww_aload_n dX11_keepsRow_14 rfl rfl ?_
        refine ww_get 51 dX11_keepsRow_15 hM.K0 rfl (by decide) inX11 wg_1291 hM.F25 ?_
        refine ww_iload_n dX11_keepsRow_18 rfl rfl ?_
        refine ww_iload dX11_keepsRow_19 rfl ?_
        refine ww_iaddN dX11_keepsRow_21 ?_
        refine ww_aload_n dX11_keepsRow_22 rfl rfl ?_
        refine ww_iload dX11_keepsRow_23 rfl ?_
        refine ww_ialdF dX11_keepsRow_25 hx (hp_I_nx hxm hfx) (by omega) (by omega) ?_
        refine ww_iastC dX11_keepsRow_26 hM.K25 (by omega) (by omega) ?_
        refine ww_goto (tgt := 43) dX11_keepsRow_27 (by decide) ?_
        refine ww_incN (c := 1) (lv2 := [.ref m, .int (nI q), .ref x, .int (nI c), .int (nI 1), .int (nI (k + 1))]) dX11_keepsRow_43 rfl rfl rfl (by decide) rfl ?_
        refine ww_goto (tgt := 3) dX11_keepsRow_46 (by decide) ?_
        refine ww_hp (h2 := hp_sI h (m + 25) (toF fx q img (k + 1))) (by rw [toF_s]) ?_
        exact ih (k + 1) (by omega) hexit
set_option maxHeartbeats 4000000 in
set_option maxRecDepth 100000 in
theorem c_M_keep1 {l : Launch} {Z : EE} (hst : l.stackTraces = false) {h : PH} {m : Nat} (hM : ModS h m) {x nx : Nat} {fx img : Nat → Int32} (hx : hp_K h x = (20, nx)) (hxm : x ≠ m + 25) (hfx : hp_I h x = fx) (him : hp_I h (m + 25) = img) (q c : Nat) (hc : c ≤ nx) (hnx : nx ≤ 3040) (hq : q + c ≤ 9693) : CC l Z m_X11_keepsRow 0 0 0 [.ref m, .int (nI q), .ref x, .int (nI c), .int (nI 1)] h (RT (some (.int (nI (q + c)))) (hp_sI h (m + 25) (toF fx q img c))) := by
  refine ee_entry hst (by decide +kernel) rfl rfl (by simp [Value.category]) (Nat.le_of_ble_eq_true rfl) ?_
  refine ww_lv (lv2 := [.ref m, .int (nI q), .ref x, .int (nI c), .int (nI 1), UU]) rfl ?_
  refine ww_iconst (v := nI 0) dX11_keepsRow_0 (by decide) ?_
  refine ww_sti (lv2 := [.ref m, .int (nI q), .ref x, .int (nI c), .int (nI 1), .int (nI 0)]) dX11_keepsRow_1 rfl (by decide) rfl ?_
  refine ww_hp (h2 := hp_sI h (m + 25) (toF fx q img 0)) (by rw [toF_0, ← him]; exact (hp_sI_id _ _).symm) ?_
  refine l_M_keep1 hst hM hx hxm hfx him q c hc hnx hq c 0 (by omega) ?_
  refine ww_iload_n dX11_keepsRow_49 rfl rfl ?_
  refine ww_iload_n dX11_keepsRow_50 rfl rfl ?_
  refine ww_iaddN dX11_keepsRow_51 ?_
  exact ww_iret dX11_keepsRow_52 rfl ⟨rfl, rfl⟩
set_option maxHeartbeats 4000000 in
set_option maxRecDepth 100000 in
theorem l_M_keep0 {l : Launch} {Z : EE} (hst : l.stackTraces = false) {h : PH} {m : Nat} (hM : ModS h m) {x nx : Nat} {fx img : Nat → Int32} (hx : hp_K h x = (20, nx)) (hxm : x ≠ m + 25) (hfx : hp_I h x = fx) (him : hp_I h (m + 25) = img) (q c : Nat) (hc : c ≤ nx) (hnx : nx ≤ 3040) (hq : q + c ≤ 9693) {Post : Res → PH → Prop} : ∀ (j k : Nat), k + j = c → WW l Z m_X11_keepsRow 0 0 0 49 [.ref m, .int (nI q), .ref x, .int (nI c), .int (nI 0), .int (nI c)] [] (hp_sI h x (ofF img q fx c)) Post → WW l Z m_X11_keepsRow 0 0 0 3 [.ref m, .int (nI q), .ref x, .int (nI c), .int (nI 0), .int (nI k)] [] (hp_sI h x (ofF img q fx k)) Post := by
  intro j
  induction j with
  | zero =>
    intro k hk hexit
    have hk0 : k = c := by omega
    subst hk0
    refine ww_iload dX11_keepsRow_3 rfl ?_
    refine ww_iload_n dX11_keepsRow_5 rfl rfl ?_
    refine ww_icmp_geN (tgt := 49) dX11_keepsRow_6 (by decide) (by omega) (by omega) (fun c6 => ?_) (fun c6 => ?_)
    · exact hexit
    · exfalso; omega
  | succ j ih =>
    intro k hk hexit
    refine ww_iload dX11_keepsRow_3 rfl ?_
    refine ww_iload_n dX11_keepsRow_5 rfl rfl ?_
    refine ww_icmp_geN (tgt := 49) dX11_keepsRow_6 (by decide) (by omega) (by omega) (fun c6 => ?_) (fun c6 => ?_)
    · exfalso; omega
    · refine ww_iload dX11_keepsRow_9 rfl ?_
      refine ww_if_eqN (tgt := 30) dX11_keepsRow_11 (by decide) (by omega) (fun c11 => ?_) (fun c11 => ?_)
      · refine ww_aload_n dX11_keepsRow_30 rfl rfl ?_
        refine ww_iload dX11_keepsRow_31 rfl ?_
        refine ww_aload_n dX11_keepsRow_33 rfl rfl ?_
        refine ww_get 51 dX11_keepsRow_34 hM.K0 rfl (by decide) inX11 wg_1291 hM.F25 ?_
        refine ww_iload_n dX11_keepsRow_37 rfl rfl ?_
        refine ww_iload dX11_keepsRow_38 rfl ?_
        refine ww_iaddN dX11_keepsRow_40 ?_
        refine ww_ialdF dX11_keepsRow_41 hM.K25 (hp_I_nx (Ne.symm hxm) him) (by omega) (by omega) ?_
        refine ww_iastC dX11_keepsRow_42 hx (by omega) (by omega) ?_
        refine ww_incN (c := 1) (lv2 := [.ref m, .int (nI q), .ref x, .int (nI c), .int (nI 0), .int (nI (k + 1))]) dX11_keepsRow_43 rfl rfl rfl (by decide) rfl ?_
        refine ww_goto (tgt := 3) dX11_keepsRow_46 (by decide) ?_
        refine ww_hp (h2 := hp_sI h x (ofF img q fx (k + 1))) (by rw [ofF_s]) ?_
        exact ih (k + 1) (by omega) hexit
      · exact absurd c11 (by decide)
set_option maxHeartbeats 4000000 in
set_option maxRecDepth 100000 in
theorem c_M_keep0 {l : Launch} {Z : EE} (hst : l.stackTraces = false) {h : PH} {m : Nat} (hM : ModS h m) {x nx : Nat} {fx img : Nat → Int32} (hx : hp_K h x = (20, nx)) (hxm : x ≠ m + 25) (hfx : hp_I h x = fx) (him : hp_I h (m + 25) = img) (q c : Nat) (hc : c ≤ nx) (hnx : nx ≤ 3040) (hq : q + c ≤ 9693) : CC l Z m_X11_keepsRow 0 0 0 [.ref m, .int (nI q), .ref x, .int (nI c), .int (nI 0)] h (RT (some (.int (nI (q + c)))) (hp_sI h x (ofF img q fx c))) := by
  refine ee_entry hst (by decide +kernel) rfl rfl (by simp [Value.category]) (Nat.le_of_ble_eq_true rfl) ?_
  refine ww_lv (lv2 := [.ref m, .int (nI q), .ref x, .int (nI c), .int (nI 0), UU]) rfl ?_
  refine ww_iconst (v := nI 0) dX11_keepsRow_0 (by decide) ?_
  refine ww_sti (lv2 := [.ref m, .int (nI q), .ref x, .int (nI c), .int (nI 0), .int (nI 0)]) dX11_keepsRow_1 rfl (by decide) rfl ?_
  refine ww_hp (h2 := hp_sI h x (ofF img q fx 0)) (by rw [ofF_0, ← hfx]; exact (hp_sI_id _ _).symm) ?_
  refine l_M_keep0 hst hM hx hxm hfx him q c hc hnx hq c 0 (by omega) ?_
  refine ww_iload_n dX11_keepsRow_49 rfl rfl ?_
  refine ww_iload_n dX11_keepsRow_50 rfl rfl ?_
  refine ww_iaddN dX11_keepsRow_51 ?_
  exact ww_iret dX11_keepsRow_52 rfl ⟨rfl, rfl⟩
set_option maxHeartbeats 4000000 in
set_option maxRecDepth 100000 in
theorem c_M_keepAll1 {l : Launch} {Z : EE} (hst : l.stackTraces = false) {h : PH} {m : Nat} (hM : ModS h m) {i : Nat} (hi : i ≤ 2) {f pf img : Nat → Int32} (hf : hp_I h (m + 14) = f) (hpf : hp_I h (m + 16) = pf) (him : hp_I h (m + 25) = img) {wk : Nat} (hwk : hp_F h m 28 = .int (nI wk)) : CC l Z m_X11_keepsAll 1 0 0 [.ref m, .int (nI i), .int (nI 1)] h (RT none (hp_sI h (m + 25) (upd (toF pf (3231 * i + 190) (toF f (3231 * i) img 190) 3040) (3231 * i + 190 + 3040) (nI wk)))) := by
  refine ee_entry hst (by decide +kernel) rfl rfl (by simp [Value.category]) (Nat.le_of_ble_eq_true rfl) ?_
  refine ww_lv (lv2 := [.ref m, .int (nI i), .int (nI 1), UU]) rfl ?_
  refine ww_aload_n dX11_keepsAll_0 rfl rfl ?_
  refine ww_sipush (v := nI 3231) dX11_keepsAll_1 (by decide) ?_
  refine ww_iload_n dX11_keepsAll_4 rfl rfl ?_
  refine ww_imulN dX11_keepsAll_5 ?_
  refine ww_aload_n dX11_keepsAll_6 rfl rfl ?_
  refine ww_get 33 dX11_keepsAll_7 hM.K0 rfl (by decide) inX11 wg_1273 hM.F14 ?_
  refine ww_sipush (v := nI 190) dX11_keepsAll_10 (by decide) ?_
  refine ww_iload_n dX11_keepsAll_13 rfl rfl ?_
  refine ww_cVr (M := m_X11_keepsAll) (pc := 14) (v := .int (nI ((3231 * i) + 190))) (h1 := hp_sI (h) (m + 25) (toF (f) (3231 * i) (img) 190)) (st := []) (d := 1) (bc := 0) (bs := 0) (c_M_keep1 hst (h := h) hM hM.K14 (by omega) hf him (3231 * i) 190 (by omega) (by omega) (by omega)) vv_X11_keepsRow dX11_keepsAll_14 wg_1784 hM.K0 rfl rfl rfl rfl (Nat.le_of_ble_eq_true rfl) (Nat.le_of_ble_eq_true rfl) (Nat.le_of_ble_eq_true rfl) (Nat.le_of_ble_eq_true rfl) ?_
  refine ww_sti_n (lv2 := [.ref m, .int (nI i), .int (nI 1), .int (nI ((3231 * i) + 190))]) dX11_keepsAll_17 rfl rfl (by decide) rfl ?_
  refine ww_aload_n dX11_keepsAll_18 rfl rfl ?_
  refine ww_iload_n dX11_keepsAll_19 rfl rfl ?_
  refine ww_aload_n dX11_keepsAll_20 rfl rfl ?_
  refine ww_get 35 dX11_keepsAll_21 hM.K0 rfl (by decide) inX11 wg_1275 hM.F16 ?_
  refine ww_sipush (v := nI 3040) dX11_keepsAll_24 (by decide) ?_
  refine ww_iload_n dX11_keepsAll_27 rfl rfl ?_
  refine ww_cVr (M := m_X11_keepsAll) (pc := 28) (v := .int (nI (((3231 * i) + 190) + 3040))) (h1 := hp_sI (hp_sI (h) (m + 25) (toF (f) (3231 * i) (img) 190)) (m + 25) (toF (pf) ((3231 * i) + 190) (toF (f) (3231 * i) (img) 190) 3040)) (st := []) (d := 1) (bc := 0) (bs := 0) (c_M_keep1 hst (h := hp_sI (h) (m + 25) (toF (f) (3231 * i) (img) 190)) hM hM.K16 (by omega) (hp_I_nx (by omega) hpf) (hp_I_eq _ _ _) ((3231 * i) + 190) 3040 (by omega) (by omega) (by omega)) vv_X11_keepsRow dX11_keepsAll_28 wg_1784 hM.K0 rfl rfl rfl rfl (Nat.le_of_ble_eq_true rfl) (Nat.le_of_ble_eq_true rfl) (Nat.le_of_ble_eq_true rfl) (Nat.le_of_ble_eq_true rfl) ?_
  refine ww_sti_n (lv2 := [.ref m, .int (nI i), .int (nI 1), .int (nI (((3231 * i) + 190) + 3040))]) dX11_keepsAll_31 rfl rfl (by decide) rfl ?_
  refine ww_iload_n dX11_keepsAll_32 rfl rfl ?_
  refine ww_if_eqN (tgt := 49) dX11_keepsAll_33 (by decide) (by omega) (fun c33 => ?_) (fun c33 => ?_)
  · exact absurd c33 (by decide)
  · refine ww_aload_n dX11_keepsAll_36 rfl rfl ?_
    refine ww_get 51 dX11_keepsAll_37 hM.K0 rfl (by decide) inX11 wg_1291 hM.F25 ?_
    refine ww_iload_n dX11_keepsAll_40 rfl rfl ?_
    refine ww_aload_n dX11_keepsAll_41 rfl rfl ?_
    refine ww_get 28 dX11_keepsAll_42 hM.K0 rfl (by decide) inX11 wg_1268 hwk ?_
    refine ww_iastC dX11_keepsAll_45 hM.K25 (by omega) (by omega) ?_
    refine ww_goto (tgt := 59) dX11_keepsAll_46 (by decide) ?_
    exact ww_vret dX11_keepsAll_59 rfl ⟨rfl, by simp only [hp_sI_sI]⟩
set_option maxHeartbeats 4000000 in
set_option maxRecDepth 100000 in
theorem c_M_keepAll0 {l : Launch} {Z : EE} (hst : l.stackTraces = false) {h : PH} {m : Nat} (hM : ModS h m) {i : Nat} (hi : i ≤ 2) {f pf img : Nat → Int32} (hf : hp_I h (m + 14) = f) (hpf : hp_I h (m + 16) = pf) (him : hp_I h (m + 25) = img) : CC l Z m_X11_keepsAll 1 0 0 [.ref m, .int (nI i), .int (nI 0)] h (RT none (hp_sF (hp_sI (hp_sI h (m + 14) (ofF img (3231 * i) f 190)) (m + 16) (ofF img (3231 * i + 190) pf 3040)) m 28 (.int (img (3231 * i + 190 + 3040))))) := by
  refine ee_entry hst (by decide +kernel) rfl rfl (by simp [Value.category]) (Nat.le_of_ble_eq_true rfl) ?_
  refine ww_lv (lv2 := [.ref m, .int (nI i), .int (nI 0), UU]) rfl ?_
  refine ww_aload_n dX11_keepsAll_0 rfl rfl ?_
  refine ww_sipush (v := nI 3231) dX11_keepsAll_1 (by decide) ?_
  refine ww_iload_n dX11_keepsAll_4 rfl rfl ?_
  refine ww_imulN dX11_keepsAll_5 ?_
  refine ww_aload_n dX11_keepsAll_6 rfl rfl ?_
  refine ww_get 33 dX11_keepsAll_7 hM.K0 rfl (by decide) inX11 wg_1273 hM.F14 ?_
  refine ww_sipush (v := nI 190) dX11_keepsAll_10 (by decide) ?_
  refine ww_iload_n dX11_keepsAll_13 rfl rfl ?_
  refine ww_cVr (M := m_X11_keepsAll) (pc := 14) (v := .int (nI ((3231 * i) + 190))) (h1 := hp_sI (h) (m + 14) (ofF (img) (3231 * i) (f) 190)) (st := []) (d := 1) (bc := 0) (bs := 0) (c_M_keep0 hst (h := h) hM hM.K14 (by omega) hf him (3231 * i) 190 (by omega) (by omega) (by omega)) vv_X11_keepsRow dX11_keepsAll_14 wg_1784 hM.K0 rfl rfl rfl rfl (Nat.le_of_ble_eq_true rfl) (Nat.le_of_ble_eq_true rfl) (Nat.le_of_ble_eq_true rfl) (Nat.le_of_ble_eq_true rfl) ?_
  refine ww_sti_n (lv2 := [.ref m, .int (nI i), .int (nI 0), .int (nI ((3231 * i) + 190))]) dX11_keepsAll_17 rfl rfl (by decide) rfl ?_
  refine ww_aload_n dX11_keepsAll_18 rfl rfl ?_
  refine ww_iload_n dX11_keepsAll_19 rfl rfl ?_
  refine ww_aload_n dX11_keepsAll_20 rfl rfl ?_
  refine ww_get 35 dX11_keepsAll_21 hM.K0 rfl (by decide) inX11 wg_1275 hM.F16 ?_
  refine ww_sipush (v := nI 3040) dX11_keepsAll_24 (by decide) ?_
  refine ww_iload_n dX11_keepsAll_27 rfl rfl ?_
  refine ww_cVr (M := m_X11_keepsAll) (pc := 28) (v := .int (nI (((3231 * i) + 190) + 3040))) (h1 := hp_sI (hp_sI (h) (m + 14) (ofF (img) (3231 * i) (f) 190)) (m + 16) (ofF (img) ((3231 * i) + 190) (pf) 3040)) (st := []) (d := 1) (bc := 0) (bs := 0) (c_M_keep0 hst (h := hp_sI (h) (m + 14) (ofF (img) (3231 * i) (f) 190)) hM hM.K16 (by omega) (hp_I_nx (by omega) hpf) (hp_I_nx (by omega) him) ((3231 * i) + 190) 3040 (by omega) (by omega) (by omega)) vv_X11_keepsRow dX11_keepsAll_28 wg_1784 hM.K0 rfl rfl rfl rfl (Nat.le_of_ble_eq_true rfl) (Nat.le_of_ble_eq_true rfl) (Nat.le_of_ble_eq_true rfl) (Nat.le_of_ble_eq_true rfl) ?_
  refine ww_sti_n (lv2 := [.ref m, .int (nI i), .int (nI 0), .int (nI (((3231 * i) + 190) + 3040))]) dX11_keepsAll_31 rfl rfl (by decide) rfl ?_
  refine ww_iload_n dX11_keepsAll_32 rfl rfl ?_
  refine ww_if_eqN (tgt := 49) dX11_keepsAll_33 (by decide) (by omega) (fun c33 => ?_) (fun c33 => ?_)
  · refine ww_aload_n dX11_keepsAll_49 rfl rfl ?_
    refine ww_aload_n dX11_keepsAll_50 rfl rfl ?_
    refine ww_get 51 dX11_keepsAll_51 hM.K0 rfl (by decide) inX11 wg_1291 hM.F25 ?_
    refine ww_iload_n dX11_keepsAll_54 rfl rfl ?_
    refine ww_ialdF dX11_keepsAll_55 hM.K25 (hp_I_nx (by omega) (hp_I_nx (by omega) him)) (by omega) (by omega) ?_
    refine ww_pfI tyX11 28 dX11_keepsAll_56 hM.K0 rfl (by decide) inX11 tyX11_ok nmX11 wg_1268 rfl rfl ?_
    exact ww_vret dX11_keepsAll_59 rfl ⟨rfl, rfl⟩
  · exact absurd c33 (by decide)
set_option maxHeartbeats 4000000 in
set_option maxRecDepth 100000 in
theorem c_M_image {l : Launch} {Z : EE} (hst : l.stackTraces = false) {h : PH} {m : Nat} (hM : ModS h m) {im : Nat} (hin : hp_F h m 52 = .int (nI im)) {f pf img : Nat → Int32} (hf : hp_I h (m + 14) = f) (hpf : hp_I h (m + 16) = pf) (him : hp_I h (m + 25) = img) (hi : im < 3) {wk : Nat} (hwk : hp_F h m 28 = .int (nI wk)) : CC l Z m_X11_image 2 0 0 [.ref m] h (RT (some (.int (nI (im + 1)))) (hp_sF (hp_sI (hp_sF h m 0 (.int (nI 0))) (m + 25) (upd (toF pf (3231 * im + 190) (toF f (3231 * im) img 190) 3040) (3231 * im + 190 + 3040) (nI wk))) m 52 (.int (nI (im + 1))))) := by
  refine ee_entry hst (by decide +kernel) rfl rfl (by simp [Value.category]) (Nat.le_of_ble_eq_true rfl) ?_
  refine ww_lv (lv2 := [.ref m]) rfl ?_
  refine ww_aload_n dX11_image_0 rfl rfl ?_
  refine ww_iconst (v := nI 0) dX11_image_1 (by decide) ?_
  refine ww_pfI tyX11 0 dX11_image_2 hM.K0 rfl (by decide) inX11 tyX11_ok nmX11 wg_1240 rfl rfl ?_
  refine ww_aload_n dX11_image_5 rfl rfl ?_
  refine ww_get 52 dX11_image_6 hM.K0 rfl (by decide) inX11 wg_1292 (hp_F_nj (by decide) hin) ?_
  refine ww_iconst (v := nI 3) dX11_image_9 (by decide) ?_
  refine ww_icmp_neN (tgt := 15) dX11_image_10 (by decide) (by omega) (by omega) (fun c10 => ?_) (fun c10 => ?_)
  · refine ww_aload_n dX11_image_15 rfl rfl ?_
    refine ww_aload_n dX11_image_16 rfl rfl ?_
    refine ww_get 52 dX11_image_17 hM.K0 rfl (by decide) inX11 wg_1292 (hp_F_nj (by decide) hin) ?_
    refine ww_iconst (v := nI 1) dX11_image_20 (by decide) ?_
    refine ww_cV0 (M := m_X11_image) (pc := 21) (h1 := hp_sI (hp_sF h m 0 (.int (nI 0))) (m + 25) (upd (toF pf (3231 * im + 190) (toF f (3231 * im) img 190) 3040) (3231 * im + 190 + 3040) (nI wk))) (st := []) (d := 2) (bc := 0) (bs := 0) (c_M_keepAll1 hst (h := hp_sF h m 0 (.int (nI 0))) (hM.sF (by decide)) (i := im) (by omega) hf hpf him (hp_F_nj (by decide) hwk)) vv_X11_keepsAll dX11_image_21 wg_1780 hM.K0 rfl rfl rfl rfl (Nat.le_of_ble_eq_true rfl) (Nat.le_of_ble_eq_true rfl) (Nat.le_of_ble_eq_true rfl) (Nat.le_of_ble_eq_true rfl) ?_
    refine ww_aload_n dX11_image_24 rfl rfl ?_
    refine ww_dup dX11_image_25 rfl ?_
    refine ww_get 52 dX11_image_26 hM.K0 rfl (by decide) inX11 wg_1292 (hp_F_sI (hp_F_nj (by decide) hin)) ?_
    refine ww_iconst (v := nI 1) dX11_image_29 (by decide) ?_
    refine ww_iaddN dX11_image_30 ?_
    refine ww_pfI tyX11 52 dX11_image_31 hM.K0 rfl (by decide) inX11 tyX11_ok nmX11 wg_1292 rfl rfl ?_
    refine ww_aload_n dX11_image_34 rfl rfl ?_
    refine ww_get 52 dX11_image_35 hM.K0 rfl (by decide) inX11 wg_1292 (hp_F_eq _ _ _ _) ?_
    exact ww_iret dX11_image_38 rfl ⟨rfl, rfl⟩
  · exfalso; omega
set_option maxHeartbeats 4000000 in
set_option maxRecDepth 100000 in
theorem c_M_image_no {l : Launch} {Z : EE} (hst : l.stackTraces = false) {h : PH} {m : Nat} (hM : ModS h m) (hin : hp_F h m 52 = .int (nI 3)) : CC l Z m_X11_image 0 0 0 [.ref m] h (RT (some (.int (-1))) (hp_sF h m 0 (.int (nI 0)))) := by
  refine ee_entry hst (by decide +kernel) rfl rfl (by simp [Value.category]) (Nat.le_of_ble_eq_true rfl) ?_
  refine ww_lv (lv2 := [.ref m]) rfl ?_
  refine ww_aload_n dX11_image_0 rfl rfl ?_
  refine ww_iconst (v := nI 0) dX11_image_1 (by decide) ?_
  refine ww_pfI tyX11 0 dX11_image_2 hM.K0 rfl (by decide) inX11 tyX11_ok nmX11 wg_1240 rfl rfl ?_
  refine ww_aload_n dX11_image_5 rfl rfl ?_
  refine ww_get 52 dX11_image_6 hM.K0 rfl (by decide) inX11 wg_1292 (hp_F_nj (by decide) hin) ?_
  refine ww_iconst (v := nI 3) dX11_image_9 (by decide) ?_
  refine ww_icmp_neN (tgt := 15) dX11_image_10 (by decide) (by omega) (by omega) (fun c10 => ?_) (fun c10 => ?_)
  · exact absurd c10 (by decide)
  · refine ww_iconst (v := -1) dX11_image_13 (by decide) ?_
    exact ww_iret dX11_image_14 rfl ⟨rfl, rfl⟩
set_option maxHeartbeats 4000000 in
set_option maxRecDepth 100000 in
theorem c_M_restore {l : Launch} {Z : EE} (hst : l.stackTraces = false) {h : PH} {m : Nat} (hM : ModS h m) {im : Nat} (hin : hp_F h m 52 = .int (nI im)) {f pf img : Nat → Int32} (hf : hp_I h (m + 14) = f) (hpf : hp_I h (m + 16) = pf) (him : hp_I h (m + 25) = img) (hi0 : 0 < im) (hi : im ≤ 3) : CC l Z m_X11_restore 2 0 0 [.ref m] h (RT (some (.int (nI (im - 1)))) (hp_sF (hp_sF (hp_sI (hp_sI (hp_sF (hp_sF h m 0 (.int (nI 0))) m 52 (.int (nI (im - 1)))) (m + 14) (ofF img (3231 * (im - 1)) f 190)) (m + 16) (ofF img (3231 * (im - 1) + 190) pf 3040)) m 28 (.int (img (3231 * (im - 1) + 190 + 3040)))) m 29 (.int (nI 0)))) := by
  refine ee_entry hst (by decide +kernel) rfl rfl (by simp [Value.category]) (Nat.le_of_ble_eq_true rfl) ?_
  refine ww_lv (lv2 := [.ref m]) rfl ?_
  refine ww_aload_n dX11_restore_0 rfl rfl ?_
  refine ww_iconst (v := nI 0) dX11_restore_1 (by decide) ?_
  refine ww_pfI tyX11 0 dX11_restore_2 hM.K0 rfl (by decide) inX11 tyX11_ok nmX11 wg_1240 rfl rfl ?_
  refine ww_aload_n dX11_restore_5 rfl rfl ?_
  refine ww_get 52 dX11_restore_6 hM.K0 rfl (by decide) inX11 wg_1292 (hp_F_nj (by decide) hin) ?_
  refine ww_if_neN (tgt := 14) dX11_restore_9 (by decide) (by omega) (fun c9 => ?_) (fun c9 => ?_)
  · refine ww_aload_n dX11_restore_14 rfl rfl ?_
    refine ww_dup dX11_restore_15 rfl ?_
    refine ww_get 52 dX11_restore_16 hM.K0 rfl (by decide) inX11 wg_1292 (hp_F_nj (by decide) hin) ?_
    refine ww_iconst (v := nI 1) dX11_restore_19 (by decide) ?_
    refine ww_isubN dX11_restore_20 (by omega) ?_
    refine ww_pfI tyX11 52 dX11_restore_21 hM.K0 rfl (by decide) inX11 tyX11_ok nmX11 wg_1292 rfl rfl ?_
    refine ww_aload_n dX11_restore_24 rfl rfl ?_
    refine ww_aload_n dX11_restore_25 rfl rfl ?_
    refine ww_get 52 dX11_restore_26 hM.K0 rfl (by decide) inX11 wg_1292 (hp_F_eq _ _ _ _) ?_
    refine ww_iconst (v := nI 0) dX11_restore_29 (by decide) ?_
    refine ww_cV0 (M := m_X11_restore) (pc := 30) (h1 := hp_sF (hp_sI (hp_sI (hp_sF (hp_sF h m 0 (.int (nI 0))) m 52 (.int (nI (im - 1)))) (m + 14) (ofF img (3231 * (im - 1)) f 190)) (m + 16) (ofF img (3231 * (im - 1) + 190) pf 3040)) m 28 (.int (img (3231 * (im - 1) + 190 + 3040)))) (st := []) (d := 2) (bc := 0) (bs := 0) (c_M_keepAll0 hst (h := hp_sF (hp_sF h m 0 (.int (nI 0))) m 52 (.int (nI (im - 1)))) ((hM.sF (by decide)).sF (by decide)) (i := im - 1) (by omega) hf hpf him) vv_X11_keepsAll dX11_restore_30 wg_1780 hM.K0 rfl rfl rfl rfl (Nat.le_of_ble_eq_true rfl) (Nat.le_of_ble_eq_true rfl) (Nat.le_of_ble_eq_true rfl) (Nat.le_of_ble_eq_true rfl) ?_
    refine ww_aload_n dX11_restore_33 rfl rfl ?_
    refine ww_iconst (v := nI 0) dX11_restore_34 (by decide) ?_
    refine ww_pfI tyX11 29 dX11_restore_35 hM.K0 rfl (by decide) inX11 tyX11_ok nmX11 wg_1269 rfl rfl ?_
    refine ww_aload_n dX11_restore_38 rfl rfl ?_
    refine ww_get 52 dX11_restore_39 hM.K0 rfl (by decide) inX11 wg_1292 (hp_F_nj (by decide) (hp_F_nj (by decide) (hp_F_sI (hp_F_sI (hp_F_eq _ _ _ _))))) ?_
    exact ww_iret dX11_restore_42 rfl ⟨rfl, rfl⟩
  · exfalso; omega
set_option maxHeartbeats 4000000 in
set_option maxRecDepth 100000 in
theorem c_M_restore_no {l : Launch} {Z : EE} (hst : l.stackTraces = false) {h : PH} {m : Nat} (hM : ModS h m) (hin : hp_F h m 52 = .int (nI 0)) : CC l Z m_X11_restore 0 0 0 [.ref m] h (RT (some (.int (-1))) (hp_sF h m 0 (.int (nI 0)))) := by
  refine ee_entry hst (by decide +kernel) rfl rfl (by simp [Value.category]) (Nat.le_of_ble_eq_true rfl) ?_
  refine ww_lv (lv2 := [.ref m]) rfl ?_
  refine ww_aload_n dX11_restore_0 rfl rfl ?_
  refine ww_iconst (v := nI 0) dX11_restore_1 (by decide) ?_
  refine ww_pfI tyX11 0 dX11_restore_2 hM.K0 rfl (by decide) inX11 tyX11_ok nmX11 wg_1240 rfl rfl ?_
  refine ww_aload_n dX11_restore_5 rfl rfl ?_
  refine ww_get 52 dX11_restore_6 hM.K0 rfl (by decide) inX11 wg_1292 (hp_F_nj (by decide) hin) ?_
  refine ww_if_neN (tgt := 14) dX11_restore_9 (by decide) (by omega) (fun c9 => ?_) (fun c9 => ?_)
  · exact absurd c9 (by decide)
  · refine ww_iconst (v := -1) dX11_restore_12 (by decide) ?_
    exact ww_iret dX11_restore_13 rfl ⟨rfl, rfl⟩
