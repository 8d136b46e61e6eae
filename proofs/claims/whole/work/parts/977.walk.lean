/-! ===== ways round in the class ===== -/
def RE (Q : Nat → PH → Prop) : Res → PH → Prop := fun r h' => ∃ c, r = .inl (some (.int (nI c))) ∧ Q c h'
theorem ww_cVe {l : Launch} {Z : EE} {M : MM} {d bc bs pc : Nat} {lv st : List Value} {h : PH} {Post : Res → PH → Prop} {N : MM} {a t nn idx n d' mc' ms' : Nat} {T : u_T} {As stk : List Value} {Q : Nat → PH → Prop} (hC : CC l Z N d' mc' ms' ((.ref a) :: As) h (RE Q)) (hV : mm_V N n) (hd : decode (mm_c M) pc = .ok (.invokevirtual idx, 3)) (w1 : Cond.methodLink (mm_own M) idx (mm_y N) ∈ TG) (hk : hp_K h a = (t, nn)) (hc : vwCl[t]? = some ((mm_y N).cls, T, nn)) (hn : As.length = n) (hs : stk = As.reverse ++ (.ref a) :: st) (hh : mm_h M = []) (hdd : d' + 1 ≤ d) (hcat : (st.map fun v => v.category).sum ≤ 8) {bc0 bs0 : Nat} (hbc : bc + mc' ≤ bc0) (hbs : bs + ms' ≤ bs0)
    (kk : ∀ c h', Q c h' → WW l Z M d bc bs (pc + 3) lv ((.int (nI c)) :: st) h' Post) : WW l Z M d bc0 bs0 pc lv stk h Post :=
  ww_cV hC hV hd w1 hk hc hn hs hh hdd hcat hbc hbs (fun v9 h9 hp => by obtain ⟨c, e1, hq⟩ := hp; cases e1; exact kk c h9 hq) (fun E h9 hp => by obtain ⟨c, e1, hq⟩ := hp; cases e1)
def WkA (h : PH) (t m : Nat → Nat) : Prop := hp_K h 36 = (8, 2) ∧ hp_K h 37 = (20, 61) ∧ hp_K h 38 = (20, 61) ∧ hp_F h 36 0 = .ref 37 ∧ hp_F h 36 1 = .ref 38 ∧ (∀ i, i < 61 → hp_I h 37 i = nI (t i)) ∧ ∀ i, i < 61 → hp_I h 38 i = nI (m i)
def wkX : Nat → Prop := fun c => c = 38
theorem WkA.up {h : PH} {t m : Nat → Nat} {n x : Nat} (hA : WkA h t m) {F : Nat → Int32} (hF : F = upd (hp_I h 38) n (nI x)) : WkA (hp_sI h 38 F) t (ubN m n x) :=
  ⟨hA.1, hA.2.1, hA.2.2.1, hA.2.2.2.1, hA.2.2.2.2.1, fun i hi => by rw [hp_I_ne (by decide)]; exact hA.2.2.2.2.2.1 i hi, fun i hi => by
    rw [hp_I_eq, hF]
    by_cases e : i = n
    · rw [e, ubN_s]; simp [upd]
    · rw [ubN_n _ _ e]; simp [upd, e]; exact hA.2.2.2.2.2.2 i hi⟩
theorem mx_low (n : Nat) (hn : n ≤ 60) : mxI (nI 0) (nI n - nI 3) = nI (n - 3) := by
  rcases Nat.lt_or_ge n 3 with c | c
  · have h := nsub_neg c (by omega)
    have hz : ¬ nI 0 < nI n - nI 3 := fun e => absurd h (Int32.not_lt.mpr (Int32.le_of_lt (show (0 : Int32) < nI n - nI 3 from e)))
    unfold mxI
    rw [if_neg hz, show n - 3 = 0 by omega]
  · rw [pk_sub c, mxI_n 0 (n - 3) (by omega) (by omega), show max 0 (n - 3) = n - 3 by omega]
set_option maxHeartbeats 4000000 in
set_option maxRecDepth 100000 in
theorem c_Wk_low {l : Launch} {Z : EE} (hst : l.stackTraces = false) {h : PH} (n : Nat) (hn : n ≤ 60) : CC l Z m_X8_lowest 1 0 0 [.int (nI n)] h (RT (some (.int (nI (n - 3)))) h) := by
  refine ee_entry hst (by decide +kernel) rfl rfl (by simp [Value.category]) (Nat.le_of_ble_eq_true rfl) ?_
  refine ww_lv (lv2 := [.int (nI n)]) rfl ?_
  refine ww_iconst (v := nI 0) dX8_lowest_0 (by decide) ?_
  refine ww_iload_n dX8_lowest_1 rfl rfl ?_
  refine ww_iconst (v := nI 3) dX8_lowest_2 (by decide) ?_
  refine ww_isub dX8_lowest_3 ?_
  refine ww_cSr (M := m_X8_lowest) (pc := 4) (v := .int (mxI (nI 0) ((nI n) - (nI 3)))) (h1 := h) (st := []) (d := 1) (bc := 0) (bs := 0) (c_max hst (nI 0) ((nI n) - (nI 3)) h) vv_J9_max_7cf53 dX8_lowest_4 wg_983 rfl rfl rfl (Nat.le_of_ble_eq_true rfl) (Nat.le_of_ble_eq_true rfl) (Nat.le_of_ble_eq_true rfl) (Nat.le_of_ble_eq_true rfl) ?_
  exact ww_iret dX8_lowest_7 rfl ⟨by rw [mx_low n hn], rfl⟩
set_option maxHeartbeats 4000000 in
set_option maxRecDepth 100000 in
theorem c_Wk_high {l : Launch} {Z : EE} (hst : l.stackTraces = false) {h : PH} (n : Nat) (hn : n ≤ 60) : CC l Z m_X8_highest 1 0 0 [.int (nI n)] h (RT (some (.int (nI (min 60 (n + 3))))) h) := by
  refine ee_entry hst (by decide +kernel) rfl rfl (by simp [Value.category]) (Nat.le_of_ble_eq_true rfl) ?_
  refine ww_lv (lv2 := [.int (nI n)]) rfl ?_
  refine ww_bipush (v := nI 60) dX8_highest_0 (by decide) ?_
  refine ww_iload_n dX8_highest_2 rfl rfl ?_
  refine ww_iconst (v := nI 3) dX8_highest_3 (by decide) ?_
  refine ww_iaddN dX8_highest_4 ?_
  refine ww_cSr (M := m_X8_highest) (pc := 5) (v := .int (nI (min 60 (n + 3)))) (h1 := h) (st := []) (d := 1) (bc := 0) (bs := 0) (c_minN hst 60 (n + 3) (by omega) (by omega) _) vv_J9_min_7cf53 dX8_highest_5 wg_989 rfl rfl rfl (Nat.le_of_ble_eq_true rfl) (Nat.le_of_ble_eq_true rfl) (Nat.le_of_ble_eq_true rfl) (Nat.le_of_ble_eq_true rfl) ?_
  exact ww_iret dX8_highest_8 rfl ⟨rfl, rfl⟩
set_option maxHeartbeats 4000000 in
set_option maxRecDepth 100000 in
theorem c_Wk_by {l : Launch} {Z : EE} (hst : l.stackTraces = false) {h : PH} {t m : Nat → Nat} (hA : WkA h t m) (ht : ∀ n, n ≤ 60 → t n ≤ 99) (hm : ∀ n, n ≤ 60 → m n ≤ 1000000000) (n : Nat) (hn : n ≤ 60) : CC l Z m_X8_by 0 0 0 [.ref 36, .int (nI n)] h (RT (some (.int (nI (byN m t n)))) h) := by
  refine ee_entry hst (by decide +kernel) rfl rfl (by simp [Value.category]) (Nat.le_of_ble_eq_true rfl) ?_
  refine ww_lv (lv2 := [.ref 36, .int (nI n)]) rfl ?_
  have hm9 := hm n hn
  have ht9 := ht n hn
  refine ww_aload_n dX8_by_0 rfl rfl ?_
  refine ww_get 1 dX8_by_1 hA.1 rfl (by decide) inX8 wg_210 hA.2.2.2.2.1 ?_
  refine ww_iload_n dX8_by_4 rfl rfl ?_
  refine ww_ialdF dX8_by_5 hA.2.2.1 rfl (by omega) (by omega) ?_
  refine ww_sk (st2 := [.int (nI (m n))]) (by rw [hA.2.2.2.2.2.2 n (by omega)]) ?_
  refine ww_ldc (v := nI 1000000000) dX8_by_6 wg_975 ?_
  refine ww_icmp_neN (tgt := 16) dX8_by_8 (by decide) (by omega) (by omega) (fun c8 => ?_) (fun c8 => ?_)
  · refine ww_aload_n dX8_by_16 rfl rfl ?_
    refine ww_get 1 dX8_by_17 hA.1 rfl (by decide) inX8 wg_210 hA.2.2.2.2.1 ?_
    refine ww_iload_n dX8_by_20 rfl rfl ?_
    refine ww_ialdF dX8_by_21 hA.2.2.1 rfl (by omega) (by omega) ?_
    refine ww_sk (st2 := [.int (nI (m n))]) (by rw [hA.2.2.2.2.2.2 n (by omega)]) ?_
    refine ww_aload_n dX8_by_22 rfl rfl ?_
    refine ww_get 0 dX8_by_23 hA.1 rfl (by decide) inX8 wg_209 hA.2.2.2.1 ?_
    refine ww_iload_n dX8_by_26 rfl rfl ?_
    refine ww_ialdF dX8_by_27 hA.2.1 rfl (by omega) (by omega) ?_
    refine ww_sk (st2 := [.int (nI (t n)), .int (nI (m n))]) (by rw [hA.2.2.2.2.2.1 n (by omega)]) ?_
    refine ww_bipush (v := nI 64) dX8_by_28 (by decide) ?_
    refine ww_imulN dX8_by_30 ?_
    refine ww_iaddN dX8_by_31 ?_
    refine ww_iconst (v := nI 1) dX8_by_32 (by decide) ?_
    refine ww_iaddN dX8_by_33 ?_
    exact ww_iret dX8_by_34 rfl ⟨by unfold byN; rw [if_neg c8, Nat.mul_comm 64], rfl⟩
  · refine ww_ldc (v := nI 1000000000) dX8_by_11 wg_975 ?_
    refine ww_goto (tgt := 34) dX8_by_13 (by decide) ?_
    exact ww_iret dX8_by_34 rfl ⟨by unfold byN; rw [if_pos c8], rfl⟩
set_option maxHeartbeats 4000000 in
set_option maxRecDepth 100000 in
theorem c_Wk_coins {l : Launch} {Z : EE} (hst : l.stackTraces = false) {h : PH} {t m : Nat → Nat} (hA : WkA h t m) (n : Nat) (hn : n ≤ 60) (hm : m n ≤ 1000000000) : CC l Z m_X8_coins 0 0 0 [.ref 36, .int (nI n)] h (RT (some (.int (nI (m n / 64)))) h) := by
  refine ee_entry hst (by decide +kernel) rfl rfl (by simp [Value.category]) (Nat.le_of_ble_eq_true rfl) ?_
  refine ww_lv (lv2 := [.ref 36, .int (nI n)]) rfl ?_
  refine ww_aload_n dX8_coins_0 rfl rfl ?_
  refine ww_get 1 dX8_coins_1 hA.1 rfl (by decide) inX8 wg_210 hA.2.2.2.2.1 ?_
  refine ww_iload_n dX8_coins_4 rfl rfl ?_
  refine ww_ialdF dX8_coins_5 hA.2.2.1 rfl (by omega) (by omega) ?_
  refine ww_sk (st2 := [.int (nI (m n))]) (by rw [hA.2.2.2.2.2.2 n (by omega)]) ?_
  refine ww_bipush (v := nI 64) dX8_coins_6 (by decide) ?_
  refine ww_idivN dX8_coins_8 (by omega) (by omega) (by omega) ?_
  exact ww_iret dX8_coins_9 rfl ⟨rfl, rfl⟩
set_option maxHeartbeats 4000000 in
set_option maxRecDepth 100000 in
theorem c_Wk_steps {l : Launch} {Z : EE} (hst : l.stackTraces = false) {h : PH} {t m : Nat → Nat} (hA : WkA h t m) (n : Nat) (hn : n ≤ 60) (hm : m n ≤ 1000000000) : CC l Z m_X8_steps 0 0 0 [.ref 36, .int (nI n)] h (RT (some (.int (nI (m n % 64)))) h) := by
  refine ee_entry hst (by decide +kernel) rfl rfl (by simp [Value.category]) (Nat.le_of_ble_eq_true rfl) ?_
  refine ww_lv (lv2 := [.ref 36, .int (nI n)]) rfl ?_
  refine ww_aload_n dX8_steps_0 rfl rfl ?_
  refine ww_get 1 dX8_steps_1 hA.1 rfl (by decide) inX8 wg_210 hA.2.2.2.2.1 ?_
  refine ww_iload_n dX8_steps_4 rfl rfl ?_
  refine ww_ialdF dX8_steps_5 hA.2.2.1 rfl (by omega) (by omega) ?_
  refine ww_sk (st2 := [.int (nI (m n))]) (by rw [hA.2.2.2.2.2.2 n (by omega)]) ?_
  refine ww_bipush (v := nI 64) dX8_steps_6 (by decide) ?_
  refine ww_iremN dX8_steps_8 (by omega) (by omega) (by omega) ?_
  exact ww_iret dX8_steps_9 rfl ⟨rfl, rfl⟩
set_option maxHeartbeats 4000000 in
set_option maxRecDepth 100000 in
theorem l_Wk_in {l : Launch} {Z : EE} (hst : l.stackTraces = false) {h : PH} {t : Nat → Nat} {e : Nat} (ht : ∀ n, n ≤ 60 → t n ≤ 99) (he : e ≤ 60) (i : Nat) (a : Nat) (ha6 : a ≤ 60) {Post : Res → PH → Prop} : ∀ (j b c : Nat) (m : Nat → Nat) (hq : PH), b + j = min 60 (a + 3) + 1 → a ≤ b + 3 → WkA hq t m → rQ t e i a b c m → Same wkX (fun _ _ => False) h hq → (∀ c m h9, WkA h9 t m → rQ t e i a (min 60 (a + 3) + 1) c m → Same wkX (fun _ _ => False) h h9 → WW l Z m_X8_shorten 2 0 0 61 [.ref 36, .int (nI c), .int (nI a), .int (nI (min 60 (a + 3) + 1))] [] h9 Post) → WW l Z m_X8_shorten 2 0 0 15 [.ref 36, .int (nI c), .int (nI a), .int (nI b)] [] hq Post := by
  intro j
  induction j with
  | zero =>
    intro b c m hq hj hlo hA hR hS hex
    have hb9 : b = min 60 (a + 3) + 1 := by omega
    subst hb9
    refine ww_iload_n dX8_shorten_15 rfl rfl ?_
    refine ww_iload_n dX8_shorten_16 rfl rfl ?_
    refine ww_cSr (M := m_X8_shorten) (pc := 17) (v := .int (nI (min 60 (a + 3)))) (h1 := hq) (st := [.int (nI (min 60 (a + 3) + 1))]) (d := 2) (bc := 0) (bs := 0) (c_Wk_high hst a (by omega)) vv_X8_highest dX8_shorten_17 wg_986 rfl rfl rfl (Nat.le_of_ble_eq_true rfl) (Nat.le_of_ble_eq_true rfl) (Nat.le_of_ble_eq_true rfl) (Nat.le_of_ble_eq_true rfl) ?_
    refine ww_icmp_gtN (tgt := 61) dX8_shorten_20 (by decide) (by omega) (by omega) (fun c20 => ?_) (fun c20 => ?_)
    · exact hex c m hq hA hR hS
    · exfalso; omega
  | succ j ih =>
    intro b c m hq hj hlo hA hR hS hex
    have hm9 : ∀ n, n ≤ 60 → m n ≤ 1000000000 := fun n hn => (hR.1 n hn).2
    have hma := hm9 a ha6
    have hmb := hm9 b (by omega)
    have htb := ht b (by omega)
    have hby : byN m t b ≤ 1000007000 := by unfold byN; split <;> omega
    refine ww_iload_n dX8_shorten_15 rfl rfl ?_
    refine ww_iload_n dX8_shorten_16 rfl rfl ?_
    refine ww_cSr (M := m_X8_shorten) (pc := 17) (v := .int (nI (min 60 (a + 3)))) (h1 := hq) (st := [.int (nI b)]) (d := 2) (bc := 0) (bs := 0) (c_Wk_high hst a (by omega)) vv_X8_highest dX8_shorten_17 wg_986 rfl rfl rfl (Nat.le_of_ble_eq_true rfl) (Nat.le_of_ble_eq_true rfl) (Nat.le_of_ble_eq_true rfl) (Nat.le_of_ble_eq_true rfl) ?_
    refine ww_icmp_gtN (tgt := 61) dX8_shorten_20 (by decide) (by omega) (by omega) (fun c20 => ?_) (fun c20 => ?_)
    · exfalso; omega
    · refine ww_iload_n dX8_shorten_23 rfl rfl ?_
      refine ww_iload_n dX8_shorten_24 rfl rfl ?_
      refine ww_icmp_eqN (tgt := 55) dX8_shorten_25 (by decide) (by omega) (by omega) (fun c25 => ?_) (fun c25 => ?_)
      · refine ww_incN (c := 1) (lv2 := [.ref 36, .int (nI c), .int (nI a), .int (nI (b + 1))]) dX8_shorten_55 rfl rfl rfl (by decide) rfl ?_
        refine ww_goto (tgt := 15) dX8_shorten_58 (by decide) ?_
        refine ih (b + 1) c m hq (by omega) (by omega) hA (rQ_keep ht he hR (fun q => ?_)) hS hex
        first | omega | exact absurd c25 (fun e => q.2.1 e)
      · refine ww_aload_n dX8_shorten_28 rfl rfl ?_
        refine ww_iload_n dX8_shorten_29 rfl rfl ?_
        refine ww_cVr (M := m_X8_shorten) (pc := 30) (v := .int (nI (byN m t b))) (h1 := hq) (st := []) (d := 2) (bc := 0) (bs := 0) (c_Wk_by hst hA ht hm9 b (by omega)) vv_X8_by dX8_shorten_30 wg_990 hA.1 rfl rfl rfl rfl (Nat.le_of_ble_eq_true rfl) (Nat.le_of_ble_eq_true rfl) (Nat.le_of_ble_eq_true rfl) (Nat.le_of_ble_eq_true rfl) ?_
        refine ww_aload_n dX8_shorten_33 rfl rfl ?_
        refine ww_get 1 dX8_shorten_34 hA.1 rfl (by decide) inX8 wg_210 hA.2.2.2.2.1 ?_
        refine ww_iload_n dX8_shorten_37 rfl rfl ?_
        refine ww_ialdF dX8_shorten_38 hA.2.2.1 rfl (by omega) (by omega) ?_
        refine ww_sk (st2 := [.int (nI (m a)), .int (nI (byN m t b))]) (by rw [hA.2.2.2.2.2.2 a (by omega)]) ?_
        refine ww_icmp_geN (tgt := 55) dX8_shorten_39 (by decide) (by omega) (by omega) (fun c39 => ?_) (fun c39 => ?_)
        · refine ww_incN (c := 1) (lv2 := [.ref 36, .int (nI c), .int (nI a), .int (nI (b + 1))]) dX8_shorten_55 rfl rfl rfl (by decide) rfl ?_
          refine ww_goto (tgt := 15) dX8_shorten_58 (by decide) ?_
          refine ih (b + 1) c m hq (by omega) (by omega) hA (rQ_keep ht he hR (fun q => ?_)) hS hex
          first | omega | exact absurd c25 (fun e => q.2.1 e)
        · refine ww_aload_n dX8_shorten_42 rfl rfl ?_
          refine ww_get 1 dX8_shorten_43 hA.1 rfl (by decide) inX8 wg_210 hA.2.2.2.2.1 ?_
          refine ww_iload_n dX8_shorten_46 rfl rfl ?_
          refine ww_aload_n dX8_shorten_47 rfl rfl ?_
          refine ww_iload_n dX8_shorten_48 rfl rfl ?_
          refine ww_cVr (M := m_X8_shorten) (pc := 49) (v := .int (nI (byN m t b))) (h1 := hq) (st := [.int (nI a), .ref 38]) (d := 2) (bc := 0) (bs := 0) (c_Wk_by hst hA ht hm9 b (by omega)) vv_X8_by dX8_shorten_49 wg_990 hA.1 rfl rfl rfl rfl (Nat.le_of_ble_eq_true rfl) (Nat.le_of_ble_eq_true rfl) (Nat.le_of_ble_eq_true rfl) (Nat.le_of_ble_eq_true rfl) ?_
          refine ww_iastF dX8_shorten_52 hA.2.2.1 rfl (by omega) (by omega) ?_
          refine ww_iconst (v := nI 1) dX8_shorten_53 (by decide) ?_
          refine ww_sti_n (lv2 := [.ref 36, .int (nI 1), .int (nI a), .int (nI b)]) dX8_shorten_54 rfl rfl (by decide) rfl ?_
          refine ww_incN (c := 1) (lv2 := [.ref 36, .int (nI 1), .int (nI a), .int (nI (b + 1))]) dX8_shorten_55 rfl rfl rfl (by decide) rfl ?_
          refine ww_goto (tgt := 15) dX8_shorten_58 (by decide) ?_
          exact ih (b + 1) 1 _ _ (by omega) (by omega) (hA.up rfl) (rQ_new ht he hR (by unfold adj; omega) ha6 rfl (by omega)) (hS.sI rfl) hex
set_option maxHeartbeats 4000000 in
set_option maxRecDepth 100000 in
theorem l_Wk_out {l : Launch} {Z : EE} (hst : l.stackTraces = false) {h : PH} {t : Nat → Nat} {e : Nat} (ht : ∀ n, n ≤ 60 → t n ≤ 99) (he : e ≤ 60) (i : Nat) : ∀ (j a c : Nat) (m : Nat → Nat) (hq : PH), a + j = 61 → WkA hq t m → rQ t e i a (a - 3) c m → Same wkX (fun _ _ => False) h hq → WW l Z m_X8_shorten 2 0 0 4 [.ref 36, .int (nI c), .int (nI a), UU] [] hq (RE (fun c h9 => ∃ m9, WkA h9 t m9 ∧ rP t e (i + 1) c m9 ∧ Same wkX (fun _ _ => False) h h9)) := by
  intro j
  induction j with
  | zero =>
    intro a c m hq hj hA hR hS
    have hb9 : a = 61 := by omega
    subst hb9
    have hc9 := (rQ_end ht he hR).2.2.1
    rcases (show c = 0 ∨ c = 1 by omega) with q9 | q9
    · subst q9
      refine ww_iload_n dX8_shorten_4 rfl rfl ?_
      refine ww_bipush (v := nI 60) dX8_shorten_5 (by decide) ?_
      refine ww_icmp_gtN (tgt := 67) dX8_shorten_7 (by decide) (by omega) (by omega) (fun c7 => ?_) (fun c7 => ?_)
      · refine ww_iload_n dX8_shorten_67 rfl rfl ?_
        exact ww_zret dX8_shorten_68 rfl (by first | rfl | exact nar_bI _) ⟨0, rfl, m, hA, rQ_end ht he hR, hS⟩
      · exfalso; omega
    · subst q9
      refine ww_iload_n dX8_shorten_4 rfl rfl ?_
      refine ww_bipush (v := nI 60) dX8_shorten_5 (by decide) ?_
      refine ww_icmp_gtN (tgt := 67) dX8_shorten_7 (by decide) (by omega) (by omega) (fun c7 => ?_) (fun c7 => ?_)
      · refine ww_iload_n dX8_shorten_67 rfl rfl ?_
        exact ww_zret dX8_shorten_68 rfl (by first | rfl | exact nar_bI _) ⟨1, rfl, m, hA, rQ_end ht he hR, hS⟩
      · exfalso; omega
  | succ j ih =>
    intro a c m hq hj hA hR hS
    refine ww_iload_n dX8_shorten_4 rfl rfl ?_
    refine ww_bipush (v := nI 60) dX8_shorten_5 (by decide) ?_
    refine ww_icmp_gtN (tgt := 67) dX8_shorten_7 (by decide) (by omega) (by omega) (fun c7 => ?_) (fun c7 => ?_)
    · exfalso; omega
    · refine ww_iload_n dX8_shorten_10 rfl rfl ?_
      refine ww_cSr (M := m_X8_shorten) (pc := 11) (v := .int (nI (a - 3))) (h1 := hq) (st := []) (d := 2) (bc := 0) (bs := 0) (c_Wk_low hst a (by omega)) vv_X8_lowest dX8_shorten_11 wg_980 rfl rfl rfl (Nat.le_of_ble_eq_true rfl) (Nat.le_of_ble_eq_true rfl) (Nat.le_of_ble_eq_true rfl) (Nat.le_of_ble_eq_true rfl) ?_
      refine ww_sti_n (lv2 := [.ref 36, .int (nI c), .int (nI a), .int (nI (a - 3))]) dX8_shorten_14 rfl rfl (by decide) rfl ?_
      refine l_Wk_in hst ht he i a (by omega) ((min 60 (a + 3) + 1) - (a - 3)) (a - 3) c m hq (by omega) (by omega) hA hR hS (fun c9 m9 h9 a9 r9 s9 => ?_)
      refine ww_incN (c := 1) (lv2 := [.ref 36, .int (nI c9), .int (nI (a + 1)), .int (nI (min 60 (a + 3) + 1))]) dX8_shorten_61 rfl rfl rfl (by decide) rfl ?_
      refine ww_goto (tgt := 4) dX8_shorten_64 (by decide) ?_
      refine ww_fg (lv2 := [.ref 36, .int (nI c9), .int (nI (a + 1)), UU]) ⟨Or.inr rfl, Or.inr rfl, Or.inr rfl, Or.inl rfl, trivial⟩ ?_
      exact ih (a + 1) c9 m9 h9 (by omega) a9 (rQ_row ht he (by omega) r9 (by omega) (by omega)) s9
set_option maxHeartbeats 4000000 in
set_option maxRecDepth 100000 in
theorem c_Wk_shorten {l : Launch} {Z : EE} (hst : l.stackTraces = false) {h : PH} {t m : Nat → Nat} {e : Nat} (ht : ∀ n, n ≤ 60 → t n ≤ 99) (he : e ≤ 60) (i : Nat) (hA : WkA h t m) {c0 : Nat} (hP : rP t e i c0 m) : CC l Z m_X8_shorten 2 0 0 [.ref 36] h (RE (fun c h9 => ∃ m9, WkA h9 t m9 ∧ rP t e (i + 1) c m9 ∧ Same wkX (fun _ _ => False) h h9)) := by
  refine ee_entry hst (by decide +kernel) rfl rfl (by simp [Value.category]) (Nat.le_of_ble_eq_true rfl) ?_
  refine ww_lv (lv2 := [.ref 36, UU, UU, UU]) rfl ?_
  refine ww_iconst (v := nI 0) dX8_shorten_0 (by decide) ?_
  refine ww_sti_n (lv2 := [.ref 36, .int (nI 0), UU, UU]) dX8_shorten_1 rfl rfl (by decide) rfl ?_
  refine ww_iconst (v := nI 0) dX8_shorten_2 (by decide) ?_
  refine ww_sti_n (lv2 := [.ref 36, .int (nI 0), .int (nI 0), UU]) dX8_shorten_3 rfl rfl (by decide) rfl ?_
  exact l_Wk_out hst ht he i 61 0 0 m h rfl hA (rQ_0 hP) Same.rf
def tlN (f : Nat → Int32) (sz : Nat) (kf vf : Nat → Int32) (e n : Nat) : Nat := if n = e then fareTn f sz kf vf n 1 else fareTn f sz kf vf n 2
theorem tlN_le (f : Nat → Int32) (sz : Nat) (kf vf : Nat → Int32) (e : Nat) : ∀ n, n ≤ 60 → tlN f sz kf vf e n ≤ 99 := fun n _ => by
  unfold tlN; split
  · exact (fareTn_ok f sz kf vf n 1).2
  · exact (fareTn_ok f sz kf vf n 2).2
theorem fareC_n {f : Nat → Int32} {sz : Nat} {kf vf : Nat → Int32} {n w : Nat} (hn : n ≤ 60) : fareC f sz kf vf n w = nI (fareTn f sz kf vf n w) := by
  rw [← fareT_in hn]; exact (fareTn_ok f sz kf vf n w).1
theorem WkA.cg {h : PH} {t m m2 : Nat → Nat} (hA : WkA h t m) (hm : ∀ n, n ≤ 60 → m n = m2 n) : WkA h t m2 := ⟨hA.1, hA.2.1, hA.2.2.1, hA.2.2.2.1, hA.2.2.2.2.1, hA.2.2.2.2.2.1, fun i hi => by rw [hA.2.2.2.2.2.2 i hi, hm i (by omega)]⟩
theorem fsI_none {q : Nat → Bool} : ∀ j k, (∀ i, k ≤ i → i < k + j → q i = false) → fsI q k j = -1
  | 0, _, _ => rfl
  | j + 1, k, h => by
    show (if q k = true then nI k else fsI q (k + 1) j) = -1
    rw [if_neg (by rw [h k (Nat.le_refl _) (by omega)]; decide)]
    exact fsI_none j (k + 1) (fun i h1 h2 => h i (by omega) (by omega))
theorem fsI_skip {q : Nat → Bool} {r : Nat} : ∀ j k, (∀ i, k ≤ i → i < k + j → q i = false) → fsI q k (j + r) = fsI q (k + j) r
  | 0, k, _ => by rw [Nat.zero_add, Nat.add_zero]
  | j + 1, k, h => by
    rw [show j + 1 + r = (j + r) + 1 by omega]
    show (if q k = true then nI k else fsI q (k + 1) (j + r)) = _
    rw [if_neg (by rw [h k (Nat.le_refl _) (by omega)]; decide), fsI_skip j (k + 1) (fun i h1 h2 => h i (by omega) (by omega)), show k + 1 + j = k + (j + 1) by omega]
theorem fsI_at {q : Nat → Bool} {b : Nat} (hb : b < 61) (h : q b = true) : fsI q b (61 - b) = nI b := by
  rw [show 61 - b = (60 - b) + 1 by omega]; exact if_pos h
theorem fsI_nx {q : Nat → Bool} {b : Nat} (hb : b < 61) (h : q b = false) : fsI q b (61 - b) = fsI q (b + 1) (61 - (b + 1)) := by
  rw [show 61 - b = (60 - b) + 1 by omega, show 61 - (b + 1) = 60 - b by omega]; exact if_neg (by rw [h]; decide)
theorem rdW_f {t : Nat → Nat} {e n to : Nat} (h : to = n ∨ to + 3 < n ∨ n + 3 < to ∨ ¬ rdD t e to + 64 * t to + 1 = rdD t e n) : rdW t e n to = false := by
  unfold rdW; rw [decide_eq_false_iff_not]; omega
theorem rdW_t {t : Nat → Nat} {e n to : Nat} (h1 : to ≠ n) (h2 : n ≤ to + 3) (h3 : to ≤ n + 3) (h4 : rdD t e to + 64 * t to + 1 = rdD t e n) : rdW t e n to = true := by
  unfold rdW; rw [decide_eq_true_eq]; exact ⟨h1, h2, h3, h4⟩
set_option maxHeartbeats 4000000 in
set_option maxRecDepth 100000 in
theorem l_Wk_ms {l : Launch} {Z : EE} (hst : l.stackTraces = false) {h : PH} {t : Nat → Nat} {e : Nat} (ht : ∀ n, n ≤ 60 → t n ≤ 99) (he : e ≤ 60) (la lw : Nat) : ∀ (j i c : Nat) (m : Nat → Nat) (hq : PH), i + j = 61 → WkA hq t m → rP t e i c m → Same wkX (fun _ _ => False) h hq → WW l Z m_X8_measure 5 0 0 61 [.ref 36, .ref la, .ref lw, .int (nI e), .int (nI c), .int (nI i)] [] hq (RQ none (fun h9 => WkA h9 t (rdD t e) ∧ Same wkX (fun _ _ => False) h h9)) := by
  intro j
  induction j with
  | zero =>
    intro i c m hq hj hA hP hS
    have hb9 : i = 61 := by omega
    subst hb9
    refine ww_iload dX8_measure_61 rfl ?_
    refine ww_bipush (v := nI 61) dX8_measure_63 (by decide) ?_
    refine ww_icmp_geN (tgt := 85) dX8_measure_65 (by decide) (by omega) (by omega) (fun c65 => ?_) (fun c65 => ?_)
    · exact ww_vret dX8_measure_85 rfl ⟨rfl, hA.cg (fun n hn => rP_end ht he hP (Or.inr (by omega)) hn), hS⟩
    · exfalso; omega
  | succ j ih =>
    intro i c m hq hj hA hP hS
    have hc9 := hP.2.2.1
    refine ww_iload dX8_measure_61 rfl ?_
    refine ww_bipush (v := nI 61) dX8_measure_63 (by decide) ?_
    refine ww_icmp_geN (tgt := 85) dX8_measure_65 (by decide) (by omega) (by omega) (fun c65 => ?_) (fun c65 => ?_)
    · exfalso; omega
    · refine ww_iload dX8_measure_68 rfl ?_
      refine ww_if_eqN (tgt := 85) dX8_measure_70 (by decide) (by omega) (fun c70 => ?_) (fun c70 => ?_)
      · exact ww_vret dX8_measure_85 rfl ⟨rfl, hA.cg (fun n hn => rP_end ht he hP (Or.inl (by omega)) hn), hS⟩
      · refine ww_aload_n dX8_measure_73 rfl rfl ?_
        refine ww_cVe (M := m_X8_measure) (pc := 74) (st := []) (d := 5) (bc := 0) (bs := 0) (c_Wk_shorten hst ht he i hA hP) vv_X8_shorten dX8_measure_74 wg_976 hA.1 rfl rfl rfl rfl (Nat.le_of_ble_eq_true rfl) (Nat.le_of_ble_eq_true rfl) (Nat.le_of_ble_eq_true rfl) (Nat.le_of_ble_eq_true rfl) (fun c9 h9 qq9 => ?_)
        obtain ⟨m9, a9, r9, s9⟩ := qq9
        refine ww_sti (lv2 := [.ref 36, .ref la, .ref lw, .int (nI e), .int (nI c9), .int (nI i)]) dX8_measure_77 rfl (by decide) rfl ?_
        refine ww_incN (c := 1) (lv2 := [.ref 36, .ref la, .ref lw, .int (nI e), .int (nI c9), .int (nI (i + 1))]) dX8_measure_79 rfl rfl rfl (by decide) rfl ?_
        refine ww_goto (tgt := 61) dX8_measure_82 (by decide) ?_
        exact ih (i + 1) c9 m9 h9 (by omega) a9 r9 (hS.tr s9)
set_option maxHeartbeats 4000000 in
set_option maxRecDepth 100000 in
theorem l_Wk_mi {l : Launch} {Z : EE} (hst : l.stackTraces = false) {h : PH} {t : Nat → Nat} {e : Nat} (ht : ∀ n, n ≤ 60 → t n ≤ 99) (he : e ≤ 60) (la lw : Nat) : ∀ (j k : Nat) (hq : PH), k + j = 61 → (hp_K hq 36 = (8, 2) ∧ hp_K hq 37 = (20, 61) ∧ hp_K hq 38 = (20, 61) ∧ hp_F hq 36 0 = .ref 37 ∧ hp_F hq 36 1 = .ref 38 ∧ ∀ i, i < 61 → hp_I hq 37 i = nI (t i)) → (∀ i, i < k → hp_I hq 38 i = nI 1000000000) → Same wkX (fun _ _ => False) h hq → WW l Z m_X8_measure 5 0 0 26 [.ref 36, .ref la, .ref lw, .int (nI e), .int (nI k), UU] [] hq (RQ none (fun h9 => WkA h9 t (rdD t e) ∧ Same wkX (fun _ _ => False) h h9)) := by
  intro j
  induction j with
  | zero =>
    intro k hq hj hA hr hS
    have hb9 : k = 61 := by omega
    subst hb9
    refine ww_iload dX8_measure_26 rfl ?_
    refine ww_bipush (v := nI 60) dX8_measure_28 (by decide) ?_
    refine ww_icmp_gtN (tgt := 48) dX8_measure_30 (by decide) (by omega) (by omega) (fun c30 => ?_) (fun c30 => ?_)
    · refine ww_aload_n dX8_measure_48 rfl rfl ?_
      refine ww_get 1 dX8_measure_49 hA.1 rfl (by decide) inX8 wg_210 hA.2.2.2.2.1 ?_
      refine ww_iload_n dX8_measure_52 rfl rfl ?_
      refine ww_iconst (v := nI 0) dX8_measure_53 (by decide) ?_
      refine ww_iastF dX8_measure_54 hA.2.2.1 rfl (by omega) (by omega) ?_
      refine ww_iconst (v := nI 1) dX8_measure_55 (by decide) ?_
      refine ww_sti (lv2 := [.ref 36, .ref la, .ref lw, .int (nI e), .int (nI 1), UU]) dX8_measure_56 rfl (by decide) rfl ?_
      refine ww_iconst (v := nI 0) dX8_measure_58 (by decide) ?_
      refine ww_sti (lv2 := [.ref 36, .ref la, .ref lw, .int (nI e), .int (nI 1), .int (nI 0)]) dX8_measure_59 rfl (by decide) rfl ?_
      have hA2 : WkA (hp_sI hq 38 (upd (hp_I hq 38) e (nI 0))) t (fun n => if n = e then 0 else 1000000000) := ⟨hA.1, hA.2.1, hA.2.2.1, hA.2.2.2.1, hA.2.2.2.2.1, fun i hi => by rw [hp_I_ne (by decide)]; exact hA.2.2.2.2.2 i hi, fun i hi => by
        rw [hp_I_eq]
        show _ = nI (if i = e then 0 else 1000000000)
        by_cases e1 : i = e
        · rw [e1, pk_us, if_pos rfl]
        · rw [pk_un e1, if_neg e1]; exact hr i hi⟩
      exact l_Wk_ms hst ht he la lw 61 0 1 _ _ rfl hA2 (rP_0 ht he) (hS.sI rfl)
    · exfalso; omega
  | succ j ih =>
    intro k hq hj hA hr hS
    refine ww_iload dX8_measure_26 rfl ?_
    refine ww_bipush (v := nI 60) dX8_measure_28 (by decide) ?_
    refine ww_icmp_gtN (tgt := 48) dX8_measure_30 (by decide) (by omega) (by omega) (fun c30 => ?_) (fun c30 => ?_)
    · exfalso; omega
    · refine ww_aload_n dX8_measure_33 rfl rfl ?_
      refine ww_get 1 dX8_measure_34 hA.1 rfl (by decide) inX8 wg_210 hA.2.2.2.2.1 ?_
      refine ww_iload dX8_measure_37 rfl ?_
      refine ww_ldc (v := nI 1000000000) dX8_measure_39 wg_975 ?_
      refine ww_iastF dX8_measure_41 hA.2.2.1 rfl (by omega) (by omega) ?_
      refine ww_incN (c := 1) (lv2 := [.ref 36, .ref la, .ref lw, .int (nI e), .int (nI (k + 1)), UU]) dX8_measure_42 rfl rfl rfl (by decide) rfl ?_
      refine ww_goto (tgt := 26) dX8_measure_45 (by decide) ?_
      refine ih (k + 1) _ (by omega) ⟨hA.1, hA.2.1, hA.2.2.1, hA.2.2.2.1, hA.2.2.2.2.1, fun i hi => by rw [hp_I_ne (by decide)]; exact hA.2.2.2.2.2 i hi⟩ (fun i hi => ?_) (hS.sI rfl)
      rw [hp_I_eq]
      by_cases e1 : i = k
      · rw [e1, pk_us]
      · rw [pk_un e1]; exact hr i (by omega)
set_option maxHeartbeats 4000000 in
set_option maxRecDepth 100000 in
theorem c_Wk_measure {l : Launch} {Z : EE} (hst : l.stackTraces = false) {h : PH} {la lw bk : Nat} (hC : CL h la lw bk) {np du : Nat} {f : Nat → Int32} (hL : LandAt h la np du f) {sz : Nat} {kf vf : Nat → Int32} (hW : LawAt h lw sz kf vf) (hok : LawOK kf vf sz) (e : Nat) (he : e ≤ 60) : CC l Z m_X8_measure 5 0 0 [.ref 36, .ref la, .ref lw, .int (nI e)] h (RQ none (fun h9 => Same CX CY h h9 ∧ WkA h9 (tlN f sz kf vf e) (rdD (tlN f sz kf vf e) e))) := by
  refine ee_entry hst (by decide +kernel) rfl rfl (by simp [Value.category]) (Nat.le_of_ble_eq_true rfl) ?_
  refine ww_lv (lv2 := [.ref 36, .ref la, .ref lw, .int (nI e), UU, UU]) rfl ?_
  have hla := hC.la
  have hlw := hC.lw
  have hbk := hC.bk
  refine ww_aload_n dX8_measure_0 rfl rfl ?_
  refine ww_aload_n dX8_measure_1 rfl rfl ?_
  refine ww_iconst (v := nI 2) dX8_measure_2 (by decide) ?_
  refine ww_aload_n dX8_measure_3 rfl rfl ?_
  refine ww_get 0 dX8_measure_4 (hC.K36) rfl (by decide) inX8 wg_209 (hC.R36_0) ?_
  refine ww_cVq0 (M := m_X8_measure) (pc := 7) (st := []) (d := 5) (bc := 0) (bs := 0) (c_Land_faresBy hst hL hW hok (by omega) hC.K37 (by omega) 2 (by omega)) vv_X2_faresBy dX8_measure_7 wg_973 hL.1 rfl rfl rfl rfl (Nat.le_of_ble_eq_true rfl) (Nat.le_of_ble_eq_true rfl) (Nat.le_of_ble_eq_true rfl) (Nat.le_of_ble_eq_true rfl) (fun hq1 qq1 => ?_)
  have s1 : Same CX CY h hq1 := qq1.1.mono (fun c hc => by rcases hC.lw with rfl | rfl <;> rcases hc with rfl | rfl | rfl <;> decide) (fun _ _ e => e.elim)
  have hC1 := hC.scr s1
  have hL1 := hL.scr hC s1
  have hW1 := hW.scr hC s1
  refine ww_aload_n dX8_measure_10 rfl rfl ?_
  refine ww_get 0 dX8_measure_11 (hC1.K36) rfl (by decide) inX8 wg_209 (hC1.R36_0) ?_
  refine ww_iload_n dX8_measure_14 rfl rfl ?_
  refine ww_aload_n dX8_measure_15 rfl rfl ?_
  refine ww_aload_n dX8_measure_16 rfl rfl ?_
  refine ww_iload_n dX8_measure_17 rfl rfl ?_
  refine ww_iconst (v := nI 1) dX8_measure_18 (by decide) ?_
  refine ww_cVq (M := m_X8_measure) (pc := 19) (v := .int (fareC f sz kf vf e 1)) (st := [.int (nI e), .ref 37]) (d := 5) (bc := 0) (bs := 0) (c_Land_fareBy hst hL1 hW1 hok (by omega) e he 1 (by omega)) vv_X2_fareBy dX8_measure_19 wg_974 hL1.1 rfl rfl rfl rfl (Nat.le_of_ble_eq_true rfl) (Nat.le_of_ble_eq_true rfl) (Nat.le_of_ble_eq_true rfl) (Nat.le_of_ble_eq_true rfl) (fun hq2 qq2 => ?_)
  have s2 : Same CX CY h hq2 := s1.tr (qq2.law hC.lw)
  have hC2 := hC.scr s2
  have hL2 := hL.scr hC s2
  have hW2 := hW.scr hC s2
  refine ww_iastF dX8_measure_22 (hC2.K37) rfl (by omega) (by omega) ?_
  refine ww_iconst (v := nI 0) dX8_measure_23 (by decide) ?_
  refine ww_sti (lv2 := [.ref 36, .ref la, .ref lw, .int (nI e), .int (nI 0), UU]) dX8_measure_24 rfl (by decide) rfl ?_
  have s3 : Same CX CY h (hp_sI hq2 37 (upd (hp_I hq2 37) e (fareC f sz kf vf e 1))) := s2.sI (show CX 37 by decide)
  have r3 : ∀ i, i < 61 → hp_I (hp_sI hq2 37 (upd (hp_I hq2 37) e (fareC f sz kf vf e 1))) 37 i = nI (tlN f sz kf vf e i) := fun i hi => by
    rw [hp_I_eq]
    unfold tlN
    by_cases e1 : i = e
    · rw [e1, pk_us, if_pos rfl, fareC_n he]
    · rw [pk_un e1, if_neg e1, qq2.2.2.2.1 _ (by omega), qq1.2 i hi, fareC_n (by omega)]
  generalize hp_sI hq2 37 (upd (hp_I hq2 37) e (fareC f sz kf vf e 1)) = h3 at s3 r3 ⊢
  have hC3 := hC.scr s3
  refine ww_post (fun r h9 hp => ⟨hp.1, s3.tr (hp.2.2.mono (fun c hc => by rw [show c = 38 from hc]; decide) (fun _ _ e => e.elim)), hp.2.1⟩) (l_Wk_mi (h := h3) (t := tlN f sz kf vf e) hst (tlN_le f sz kf vf e) he la lw 61 0 h3 rfl ⟨hC3.K36, hC3.K37, hC3.K38, hC3.R36_0, hC3.R36_1, r3⟩ (fun i hi => absurd hi (Nat.not_lt_zero i)) Same.rf)
set_option maxHeartbeats 4000000 in
set_option maxRecDepth 100000 in
theorem l_Wk_ff {l : Launch} {Z : EE} (hst : l.stackTraces = false) {h : PH} {t : Nat → Nat} {e : Nat} (hA : WkA h t (rdD t e)) (ht : ∀ n, n ≤ 60 → t n ≤ 99) (he : e ≤ 60) (n : Nat) (hn : n ≤ 60) : ∀ (j b : Nat), b + j = min 60 (n + 3) + 1 → n ≤ b + 3 → WW l Z m_X8_firstFrom 2 0 0 12 [.ref 36, .int (nI n), .int (nI e), .int (nI b)] [] h (RT (some (.int (fsI (rdW t e n) b (61 - b)))) h) := by
  intro j
  induction j with
  | zero =>
    intro b hj hlo
    have hb9 : b = min 60 (n + 3) + 1 := by omega
    subst hb9
    refine ww_iload_n dX8_firstFrom_12 rfl rfl ?_
    refine ww_iload_n dX8_firstFrom_13 rfl rfl ?_
    refine ww_cSr (M := m_X8_firstFrom) (pc := 14) (v := .int (nI (min 60 (n + 3)))) (h1 := h) (st := [.int (nI (min 60 (n + 3) + 1))]) (d := 2) (bc := 0) (bs := 0) (c_Wk_high hst n (by omega)) vv_X8_highest dX8_firstFrom_14 wg_986 rfl rfl rfl (Nat.le_of_ble_eq_true rfl) (Nat.le_of_ble_eq_true rfl) (Nat.le_of_ble_eq_true rfl) (Nat.le_of_ble_eq_true rfl) ?_
    refine ww_icmp_gtN (tgt := 47) dX8_firstFrom_17 (by decide) (by omega) (by omega) (fun c17 => ?_) (fun c17 => ?_)
    · refine ww_iconst (v := -1) dX8_firstFrom_47 (by decide) ?_
      exact ww_iret dX8_firstFrom_48 rfl ⟨by rw [fsI_none _ _ (fun i h1 h2 => rdW_f (by omega))], rfl⟩
    · exfalso; omega
  | succ j ih =>
    intro b hj hlo
    have hDb := rdD_b ht he (n := b) (by omega)
    have hDn := rdD_b ht he hn
    have htb := ht b (by omega)
    refine ww_iload_n dX8_firstFrom_12 rfl rfl ?_
    refine ww_iload_n dX8_firstFrom_13 rfl rfl ?_
    refine ww_cSr (M := m_X8_firstFrom) (pc := 14) (v := .int (nI (min 60 (n + 3)))) (h1 := h) (st := [.int (nI b)]) (d := 2) (bc := 0) (bs := 0) (c_Wk_high hst n (by omega)) vv_X8_highest dX8_firstFrom_14 wg_986 rfl rfl rfl (Nat.le_of_ble_eq_true rfl) (Nat.le_of_ble_eq_true rfl) (Nat.le_of_ble_eq_true rfl) (Nat.le_of_ble_eq_true rfl) ?_
    refine ww_icmp_gtN (tgt := 47) dX8_firstFrom_17 (by decide) (by omega) (by omega) (fun c17 => ?_) (fun c17 => ?_)
    · exfalso; omega
    · refine ww_iload_n dX8_firstFrom_20 rfl rfl ?_
      refine ww_iload_n dX8_firstFrom_21 rfl rfl ?_
      refine ww_icmp_eqN (tgt := 41) dX8_firstFrom_22 (by decide) (by omega) (by omega) (fun c22 => ?_) (fun c22 => ?_)
      · refine ww_incN (c := 1) (lv2 := [.ref 36, .int (nI n), .int (nI e), .int (nI (b + 1))]) dX8_firstFrom_41 rfl rfl rfl (by decide) rfl ?_
        refine ww_goto (tgt := 12) dX8_firstFrom_44 (by decide) ?_
        rw [fsI_nx (by omega) (rdW_f (by omega))]
        exact ih (b + 1) (by omega) (by omega)
      · refine ww_aload_n dX8_firstFrom_25 rfl rfl ?_
        refine ww_iload_n dX8_firstFrom_26 rfl rfl ?_
        have hbD : byN (rdD t e) t b = rdD t e b + 64 * t b + 1 := by unfold byN; rw [if_neg (by omega)]
        refine ww_cVr (M := m_X8_firstFrom) (pc := 27) (v := .int (nI (byN (rdD t e) t b))) (h1 := h) (st := []) (d := 2) (bc := 0) (bs := 0) (c_Wk_by hst hA ht (fun n hn => Nat.le_trans (rdD_b ht he hn) (by omega)) b (by omega)) vv_X8_by dX8_firstFrom_27 wg_990 hA.1 rfl rfl rfl rfl (Nat.le_of_ble_eq_true rfl) (Nat.le_of_ble_eq_true rfl) (Nat.le_of_ble_eq_true rfl) (Nat.le_of_ble_eq_true rfl) ?_
        refine ww_aload_n dX8_firstFrom_30 rfl rfl ?_
        refine ww_get 1 dX8_firstFrom_31 hA.1 rfl (by decide) inX8 wg_210 hA.2.2.2.2.1 ?_
        refine ww_iload_n dX8_firstFrom_34 rfl rfl ?_
        refine ww_ialdF dX8_firstFrom_35 hA.2.2.1 rfl (by omega) (by omega) ?_
        refine ww_sk (st2 := [.int (nI (rdD t e n)), .int (nI (byN (rdD t e) t b))]) (by rw [hA.2.2.2.2.2.2 n (by omega)]) ?_
        refine ww_icmp_neN (tgt := 41) dX8_firstFrom_36 (by decide) (by omega) (by omega) (fun c36 => ?_) (fun c36 => ?_)
        · refine ww_incN (c := 1) (lv2 := [.ref 36, .int (nI n), .int (nI e), .int (nI (b + 1))]) dX8_firstFrom_41 rfl rfl rfl (by decide) rfl ?_
          refine ww_goto (tgt := 12) dX8_firstFrom_44 (by decide) ?_
          rw [fsI_nx (by omega) (rdW_f (by omega))]
          exact ih (b + 1) (by omega) (by omega)
        · refine ww_iload_n dX8_firstFrom_39 rfl rfl ?_
          exact ww_iret dX8_firstFrom_40 rfl ⟨by rw [fsI_at (by omega) (rdW_t (by omega) (by omega) (by omega) (by omega))], rfl⟩
set_option maxHeartbeats 4000000 in
set_option maxRecDepth 100000 in
theorem c_Wk_first {l : Launch} {Z : EE} (hst : l.stackTraces = false) {h : PH} {t : Nat → Nat} {e : Nat} (hA : WkA h t (rdD t e)) (ht : ∀ n, n ≤ 60 → t n ≤ 99) (he : e ≤ 60) (n : Nat) (hn : n ≤ 60) : CC l Z m_X8_firstFrom 2 0 0 [.ref 36, .int (nI n), .int (nI e)] h (RT (some (.int (if n = e then -1 else fsI (rdW t e n) 0 61))) h) := by
  refine ee_entry hst (by decide +kernel) rfl rfl (by simp [Value.category]) (Nat.le_of_ble_eq_true rfl) ?_
  refine ww_lv (lv2 := [.ref 36, .int (nI n), .int (nI e), UU]) rfl ?_
  refine ww_iload_n dX8_firstFrom_0 rfl rfl ?_
  refine ww_iload_n dX8_firstFrom_1 rfl rfl ?_
  refine ww_icmp_neN (tgt := 7) dX8_firstFrom_2 (by decide) (by omega) (by omega) (fun c2 => ?_) (fun c2 => ?_)
  · refine ww_iload_n dX8_firstFrom_7 rfl rfl ?_
    refine ww_cSr (M := m_X8_firstFrom) (pc := 8) (v := .int (nI (n - 3))) (h1 := h) (st := []) (d := 2) (bc := 0) (bs := 0) (c_Wk_low hst n (by omega)) vv_X8_lowest dX8_firstFrom_8 wg_980 rfl rfl rfl (Nat.le_of_ble_eq_true rfl) (Nat.le_of_ble_eq_true rfl) (Nat.le_of_ble_eq_true rfl) (Nat.le_of_ble_eq_true rfl) ?_
    refine ww_sti_n (lv2 := [.ref 36, .int (nI n), .int (nI e), .int (nI (n - 3))]) dX8_firstFrom_11 rfl rfl (by decide) rfl ?_
    have hk9 : fsI (rdW t e n) 0 61 = fsI (rdW t e n) (n - 3) (61 - (n - 3)) := by
      have h9 := fsI_skip (q := rdW t e n) (r := 61 - (n - 3)) (n - 3) 0 (fun i _ h2 => rdW_f (by omega))
      rw [show n - 3 + (61 - (n - 3)) = 61 by omega, Nat.zero_add] at h9; exact h9
    rw [if_neg c2, hk9]
    exact l_Wk_ff hst hA ht he n hn (min 60 (n + 3) + 1 - (n - 3)) (n - 3) (by omega) (by omega)
  · refine ww_iconst (v := -1) dX8_firstFrom_5 (by decide) ?_
    exact ww_iret dX8_firstFrom_6 rfl ⟨by rw [if_pos c2], rfl⟩
set_option maxHeartbeats 4000000 in
set_option maxRecDepth 100000 in
theorem c_K_round0 {l : Launch} {Z : EE} (hst : l.stackTraces = false) {h : PH} {la lw bk : Nat} (hC : CL h la lw bk) {np du : Nat} {f : Nat → Int32} (hL : LandAt h la np du f) {sz : Nat} {kf vf : Nat → Int32} (hW : LawAt h lw sz kf vf) (hok : LawOK kf vf sz) (n : Nat) (hn : n ≤ 60) (e : Nat) (he : e ≤ 60) : CC l Z m_X10_round 6 0 0 [.ref 0, .int (nI n), .int (nI e), .int (nI 0)] h (COk (nI (rdD (tlN f sz kf vf e) e n / 64)) h) := by
  refine ee_entry hst (by decide +kernel) rfl rfl (by simp [Value.category]) (Nat.le_of_ble_eq_true rfl) ?_
  refine ww_lv (lv2 := [.ref 0, .int (nI n), .int (nI e), .int (nI 0)]) rfl ?_
  have hla := hC.la
  have hlw := hC.lw
  have hbk := hC.bk
  refine ww_aload_n dX10_round_0 rfl rfl ?_
  refine ww_iload_n dX10_round_1 rfl rfl ?_
  refine ww_cV0 (M := m_X10_round) (pc := 2) (h1 := h) (st := []) (d := 6) (bc := 0) (bs := 0) (c_needNumber_t hst hC.K0 n hn) vv_X10_needNumber dX10_round_2 wg_847 (hC.K0) rfl rfl rfl rfl (Nat.le_of_ble_eq_true rfl) (Nat.le_of_ble_eq_true rfl) (Nat.le_of_ble_eq_true rfl) (Nat.le_of_ble_eq_true rfl) ?_
  refine ww_aload_n dX10_round_5 rfl rfl ?_
  refine ww_iload_n dX10_round_6 rfl rfl ?_
  refine ww_cV0 (M := m_X10_round) (pc := 7) (h1 := h) (st := []) (d := 6) (bc := 0) (bs := 0) (c_needNumber_t hst hC.K0 e he) vv_X10_needNumber dX10_round_7 wg_847 (hC.K0) rfl rfl rfl rfl (Nat.le_of_ble_eq_true rfl) (Nat.le_of_ble_eq_true rfl) (Nat.le_of_ble_eq_true rfl) (Nat.le_of_ble_eq_true rfl) ?_
  refine ww_aload_n dX10_round_10 rfl rfl ?_
  refine ww_iload_n dX10_round_11 rfl rfl ?_
  refine ww_iconst (v := nI 0) dX10_round_12 (by decide) ?_
  refine ww_iconst (v := nI 2) dX10_round_13 (by decide) ?_
  refine ww_cV0 (M := m_X10_round) (pc := 14) (h1 := h) (st := []) (d := 6) (bc := 0) (bs := 0) (c_within_t hst (nI 0) (nI 0) (nI 2) (by decide) (by decide) _) vv_X10_within dX10_round_14 wg_410 (hC.K0) rfl rfl rfl rfl (Nat.le_of_ble_eq_true rfl) (Nat.le_of_ble_eq_true rfl) (Nat.le_of_ble_eq_true rfl) (Nat.le_of_ble_eq_true rfl) ?_
  refine ww_aload_n dX10_round_17 rfl rfl ?_
  refine ww_get 16 dX10_round_18 (hC.K0) rfl (by decide) inX10 wg_280 (hC.R0_16) ?_
  refine ww_aload_n dX10_round_21 rfl rfl ?_
  refine ww_get 1 dX10_round_22 (hC.K0) rfl (by decide) inX10 wg_265 hC.D1 ?_
  refine ww_aload_n dX10_round_25 rfl rfl ?_
  refine ww_get 3 dX10_round_26 (hC.K0) rfl (by decide) inX10 wg_267 hC.D3 ?_
  refine ww_iload_n dX10_round_29 rfl rfl ?_
  refine ww_cVq0 (M := m_X10_round) (pc := 30) (st := []) (d := 6) (bc := 0) (bs := 0) (c_Wk_measure hst hC hL hW hok e he) vv_X8_measure dX10_round_30 wg_969 (hC.K36) rfl rfl rfl rfl (Nat.le_of_ble_eq_true rfl) (Nat.le_of_ble_eq_true rfl) (Nat.le_of_ble_eq_true rfl) (Nat.le_of_ble_eq_true rfl) (fun hq1 qq1 => ?_)
  have s1 : Same CX CY h hq1 := qq1.1
  have hC1 := hC.scr s1
  have hL1 := hL.scr hC s1
  have hW1 := hW.scr hC s1
  have hA1 := qq1.2
  have hD1 := rdD_b (tlN_le f sz kf vf e) he hn
  refine ww_iload_n dX10_round_33 rfl rfl ?_
  refine ww_lookup (off := 26) (tgt := 60) dX10_round_34 (by decide) (by decide) (by decide) ?_
  refine ww_aload_n dX10_round_60 rfl rfl ?_
  refine ww_get 16 dX10_round_61 (hC1.K0) rfl (by decide) inX10 wg_280 (hC1.R0_16) ?_
  refine ww_iload_n dX10_round_64 rfl rfl ?_
  refine ww_cVr (M := m_X10_round) (pc := 65) (v := .int (nI (rdD (tlN f sz kf vf e) e n / 64))) (h1 := hq1) (st := []) (d := 6) (bc := 0) (bs := 0) (c_Wk_coins hst hA1 n hn (by omega)) vv_X8_coins dX10_round_65 wg_994 (hC1.K36) rfl rfl rfl rfl (Nat.le_of_ble_eq_true rfl) (Nat.le_of_ble_eq_true rfl) (Nat.le_of_ble_eq_true rfl) (Nat.le_of_ble_eq_true rfl) ?_
  exact ww_iret dX10_round_68 rfl ⟨rfl, s1⟩
set_option maxHeartbeats 4000000 in
set_option maxRecDepth 100000 in
theorem c_K_round_no0 {l : Launch} {Z : EE} (hst : l.stackTraces = false) {h : PH} {la lw bk : Nat} (hC : CL h la lw bk) {np du : Nat} {f : Nat → Int32} (hL : LandAt h la np du f) {sz : Nat} {kf vf : Nat → Int32} (hW : LawAt h lw sz kf vf) (hok : LawOK kf vf sz) {mi : Int32} (hmi : hp_F h 0 12 = .int mi) (n : Int32) (e : Int32) (w : Int32) (hout : outR 0 60 n) : CC l Z m_X10_round 7 1 6 [.ref 0, .int n, .int e, .int w] h (TH nsX (hp_sF h 0 12 (.int (mi + nI 1)))) := by
  refine ee_entry hst (by decide +kernel) rfl rfl (by simp [Value.category]) (Nat.le_of_ble_eq_true rfl) ?_
  refine ww_lv (lv2 := [.ref 0, .int n, .int e, .int w]) rfl ?_
  have hla := hC.la
  have hlw := hC.lw
  have hbk := hC.bk
  refine ww_aload_n dX10_round_0 rfl rfl ?_
  refine ww_iload_n dX10_round_1 rfl rfl ?_
  exact ww_cVt (M := m_X10_round) (pc := 2) (st := []) (d := 7) (bc := 0) (bs := 0) (c_needNumber_f hst hC.K0 hmi n hout) vv_X10_needNumber dX10_round_2 wg_847 (hC.K0) rfl rfl rfl rfl (Nat.le_of_ble_eq_true rfl) (Nat.le_of_ble_eq_true rfl) (Nat.le_of_ble_eq_true rfl) (Nat.le_of_ble_eq_true rfl) ⟨rfl, rfl⟩
set_option maxHeartbeats 4000000 in
set_option maxRecDepth 100000 in
theorem c_K_round_no1 {l : Launch} {Z : EE} (hst : l.stackTraces = false) {h : PH} {la lw bk : Nat} (hC : CL h la lw bk) {np du : Nat} {f : Nat → Int32} (hL : LandAt h la np du f) {sz : Nat} {kf vf : Nat → Int32} (hW : LawAt h lw sz kf vf) (hok : LawOK kf vf sz) {mi : Int32} (hmi : hp_F h 0 12 = .int mi) (n : Nat) (hn : n ≤ 60) (e : Int32) (w : Int32) (hout : outR 0 60 e) : CC l Z m_X10_round 7 1 6 [.ref 0, .int (nI n), .int e, .int w] h (TH nsX (hp_sF h 0 12 (.int (mi + nI 1)))) := by
  refine ee_entry hst (by decide +kernel) rfl rfl (by simp [Value.category]) (Nat.le_of_ble_eq_true rfl) ?_
  refine ww_lv (lv2 := [.ref 0, .int (nI n), .int e, .int w]) rfl ?_
  have hla := hC.la
  have hlw := hC.lw
  have hbk := hC.bk
  refine ww_aload_n dX10_round_0 rfl rfl ?_
  refine ww_iload_n dX10_round_1 rfl rfl ?_
  refine ww_cV0 (M := m_X10_round) (pc := 2) (h1 := h) (st := []) (d := 7) (bc := 1) (bs := 6) (c_needNumber_t hst hC.K0 n hn) vv_X10_needNumber dX10_round_2 wg_847 (hC.K0) rfl rfl rfl rfl (Nat.le_of_ble_eq_true rfl) (Nat.le_of_ble_eq_true rfl) (Nat.le_of_ble_eq_true rfl) (Nat.le_of_ble_eq_true rfl) ?_
  refine ww_aload_n dX10_round_5 rfl rfl ?_
  refine ww_iload_n dX10_round_6 rfl rfl ?_
  exact ww_cVt (M := m_X10_round) (pc := 7) (st := []) (d := 7) (bc := 0) (bs := 0) (c_needNumber_f hst hC.K0 hmi e hout) vv_X10_needNumber dX10_round_7 wg_847 (hC.K0) rfl rfl rfl rfl (Nat.le_of_ble_eq_true rfl) (Nat.le_of_ble_eq_true rfl) (Nat.le_of_ble_eq_true rfl) (Nat.le_of_ble_eq_true rfl) ⟨rfl, rfl⟩
set_option maxHeartbeats 4000000 in
set_option maxRecDepth 100000 in
theorem c_K_round_no2 {l : Launch} {Z : EE} (hst : l.stackTraces = false) {h : PH} {la lw bk : Nat} (hC : CL h la lw bk) {np du : Nat} {f : Nat → Int32} (hL : LandAt h la np du f) {sz : Nat} {kf vf : Nat → Int32} (hW : LawAt h lw sz kf vf) (hok : LawOK kf vf sz) {wr : Int32} (hwr : hp_F h 0 13 = .int wr) (n : Nat) (hn : n ≤ 60) (e : Nat) (he : e ≤ 60) (w : Int32) (hout : ¬ (nI 0 ≤ w ∧ w ≤ nI 2)) : CC l Z m_X10_round 7 1 6 [.ref 0, .int (nI n), .int (nI e), .int w] h (TH iaX (hp_sF h 0 13 (.int (wr + nI 1)))) := by
  refine ee_entry hst (by decide +kernel) rfl rfl (by simp [Value.category]) (Nat.le_of_ble_eq_true rfl) ?_
  refine ww_lv (lv2 := [.ref 0, .int (nI n), .int (nI e), .int w]) rfl ?_
  have hla := hC.la
  have hlw := hC.lw
  have hbk := hC.bk
  refine ww_aload_n dX10_round_0 rfl rfl ?_
  refine ww_iload_n dX10_round_1 rfl rfl ?_
  refine ww_cV0 (M := m_X10_round) (pc := 2) (h1 := h) (st := []) (d := 7) (bc := 1) (bs := 6) (c_needNumber_t hst hC.K0 n hn) vv_X10_needNumber dX10_round_2 wg_847 (hC.K0) rfl rfl rfl rfl (Nat.le_of_ble_eq_true rfl) (Nat.le_of_ble_eq_true rfl) (Nat.le_of_ble_eq_true rfl) (Nat.le_of_ble_eq_true rfl) ?_
  refine ww_aload_n dX10_round_5 rfl rfl ?_
  refine ww_iload_n dX10_round_6 rfl rfl ?_
  refine ww_cV0 (M := m_X10_round) (pc := 7) (h1 := h) (st := []) (d := 7) (bc := 1) (bs := 6) (c_needNumber_t hst hC.K0 e he) vv_X10_needNumber dX10_round_7 wg_847 (hC.K0) rfl rfl rfl rfl (Nat.le_of_ble_eq_true rfl) (Nat.le_of_ble_eq_true rfl) (Nat.le_of_ble_eq_true rfl) (Nat.le_of_ble_eq_true rfl) ?_
  refine ww_aload_n dX10_round_10 rfl rfl ?_
  refine ww_iload_n dX10_round_11 rfl rfl ?_
  refine ww_iconst (v := nI 0) dX10_round_12 (by decide) ?_
  refine ww_iconst (v := nI 2) dX10_round_13 (by decide) ?_
  exact ww_cVt (M := m_X10_round) (pc := 14) (st := []) (d := 7) (bc := 0) (bs := 0) (c_within_f hst hC.K0 hwr w (nI 0) (nI 2) hout) vv_X10_within dX10_round_14 wg_410 (hC.K0) rfl rfl rfl rfl (Nat.le_of_ble_eq_true rfl) (Nat.le_of_ble_eq_true rfl) (Nat.le_of_ble_eq_true rfl) (Nat.le_of_ble_eq_true rfl) ⟨rfl, rfl⟩
set_option maxHeartbeats 4000000 in
set_option maxRecDepth 100000 in
theorem c_K_round1 {l : Launch} {Z : EE} (hst : l.stackTraces = false) {h : PH} {la lw bk : Nat} (hC : CL h la lw bk) {np du : Nat} {f : Nat → Int32} (hL : LandAt h la np du f) {sz : Nat} {kf vf : Nat → Int32} (hW : LawAt h lw sz kf vf) (hok : LawOK kf vf sz) (n : Nat) (hn : n ≤ 60) (e : Nat) (he : e ≤ 60) : CC l Z m_X10_round 6 0 0 [.ref 0, .int (nI n), .int (nI e), .int (nI 1)] h (COk (nI (rdD (tlN f sz kf vf e) e n % 64)) h) := by
  refine ee_entry hst (by decide +kernel) rfl rfl (by simp [Value.category]) (Nat.le_of_ble_eq_true rfl) ?_
  refine ww_lv (lv2 := [.ref 0, .int (nI n), .int (nI e), .int (nI 1)]) rfl ?_
  have hla := hC.la
  have hlw := hC.lw
  have hbk := hC.bk
  refine ww_aload_n dX10_round_0 rfl rfl ?_
  refine ww_iload_n dX10_round_1 rfl rfl ?_
  refine ww_cV0 (M := m_X10_round) (pc := 2) (h1 := h) (st := []) (d := 6) (bc := 0) (bs := 0) (c_needNumber_t hst hC.K0 n hn) vv_X10_needNumber dX10_round_2 wg_847 (hC.K0) rfl rfl rfl rfl (Nat.le_of_ble_eq_true rfl) (Nat.le_of_ble_eq_true rfl) (Nat.le_of_ble_eq_true rfl) (Nat.le_of_ble_eq_true rfl) ?_
  refine ww_aload_n dX10_round_5 rfl rfl ?_
  refine ww_iload_n dX10_round_6 rfl rfl ?_
  refine ww_cV0 (M := m_X10_round) (pc := 7) (h1 := h) (st := []) (d := 6) (bc := 0) (bs := 0) (c_needNumber_t hst hC.K0 e he) vv_X10_needNumber dX10_round_7 wg_847 (hC.K0) rfl rfl rfl rfl (Nat.le_of_ble_eq_true rfl) (Nat.le_of_ble_eq_true rfl) (Nat.le_of_ble_eq_true rfl) (Nat.le_of_ble_eq_true rfl) ?_
  refine ww_aload_n dX10_round_10 rfl rfl ?_
  refine ww_iload_n dX10_round_11 rfl rfl ?_
  refine ww_iconst (v := nI 0) dX10_round_12 (by decide) ?_
  refine ww_iconst (v := nI 2) dX10_round_13 (by decide) ?_
  refine ww_cV0 (M := m_X10_round) (pc := 14) (h1 := h) (st := []) (d := 6) (bc := 0) (bs := 0) (c_within_t hst (nI 1) (nI 0) (nI 2) (by decide) (by decide) _) vv_X10_within dX10_round_14 wg_410 (hC.K0) rfl rfl rfl rfl (Nat.le_of_ble_eq_true rfl) (Nat.le_of_ble_eq_true rfl) (Nat.le_of_ble_eq_true rfl) (Nat.le_of_ble_eq_true rfl) ?_
  refine ww_aload_n dX10_round_17 rfl rfl ?_
  refine ww_get 16 dX10_round_18 (hC.K0) rfl (by decide) inX10 wg_280 (hC.R0_16) ?_
  refine ww_aload_n dX10_round_21 rfl rfl ?_
  refine ww_get 1 dX10_round_22 (hC.K0) rfl (by decide) inX10 wg_265 hC.D1 ?_
  refine ww_aload_n dX10_round_25 rfl rfl ?_
  refine ww_get 3 dX10_round_26 (hC.K0) rfl (by decide) inX10 wg_267 hC.D3 ?_
  refine ww_iload_n dX10_round_29 rfl rfl ?_
  refine ww_cVq0 (M := m_X10_round) (pc := 30) (st := []) (d := 6) (bc := 0) (bs := 0) (c_Wk_measure hst hC hL hW hok e he) vv_X8_measure dX10_round_30 wg_969 (hC.K36) rfl rfl rfl rfl (Nat.le_of_ble_eq_true rfl) (Nat.le_of_ble_eq_true rfl) (Nat.le_of_ble_eq_true rfl) (Nat.le_of_ble_eq_true rfl) (fun hq1 qq1 => ?_)
  have s1 : Same CX CY h hq1 := qq1.1
  have hC1 := hC.scr s1
  have hL1 := hL.scr hC s1
  have hW1 := hW.scr hC s1
  have hA1 := qq1.2
  have hD1 := rdD_b (tlN_le f sz kf vf e) he hn
  refine ww_iload_n dX10_round_33 rfl rfl ?_
  refine ww_lookup (off := 35) (tgt := 69) dX10_round_34 (by decide) (by decide) (by decide) ?_
  refine ww_aload_n dX10_round_69 rfl rfl ?_
  refine ww_get 16 dX10_round_70 (hC1.K0) rfl (by decide) inX10 wg_280 (hC1.R0_16) ?_
  refine ww_iload_n dX10_round_73 rfl rfl ?_
  refine ww_cVr (M := m_X10_round) (pc := 74) (v := .int (nI (rdD (tlN f sz kf vf e) e n % 64))) (h1 := hq1) (st := []) (d := 6) (bc := 0) (bs := 0) (c_Wk_steps hst hA1 n hn (by omega)) vv_X8_steps dX10_round_74 wg_998 (hC1.K36) rfl rfl rfl rfl (Nat.le_of_ble_eq_true rfl) (Nat.le_of_ble_eq_true rfl) (Nat.le_of_ble_eq_true rfl) (Nat.le_of_ble_eq_true rfl) ?_
  exact ww_iret dX10_round_77 rfl ⟨rfl, s1⟩
set_option maxHeartbeats 4000000 in
set_option maxRecDepth 100000 in
theorem c_K_round2 {l : Launch} {Z : EE} (hst : l.stackTraces = false) {h : PH} {la lw bk : Nat} (hC : CL h la lw bk) {np du : Nat} {f : Nat → Int32} (hL : LandAt h la np du f) {sz : Nat} {kf vf : Nat → Int32} (hW : LawAt h lw sz kf vf) (hok : LawOK kf vf sz) (n : Nat) (hn : n ≤ 60) (e : Nat) (he : e ≤ 60) : CC l Z m_X10_round 6 0 0 [.ref 0, .int (nI n), .int (nI e), .int (nI 2)] h (COk (if n = e then -1 else fsI (rdW (tlN f sz kf vf e) e n) 0 61) h) := by
  refine ee_entry hst (by decide +kernel) rfl rfl (by simp [Value.category]) (Nat.le_of_ble_eq_true rfl) ?_
  refine ww_lv (lv2 := [.ref 0, .int (nI n), .int (nI e), .int (nI 2)]) rfl ?_
  have hla := hC.la
  have hlw := hC.lw
  have hbk := hC.bk
  refine ww_aload_n dX10_round_0 rfl rfl ?_
  refine ww_iload_n dX10_round_1 rfl rfl ?_
  refine ww_cV0 (M := m_X10_round) (pc := 2) (h1 := h) (st := []) (d := 6) (bc := 0) (bs := 0) (c_needNumber_t hst hC.K0 n hn) vv_X10_needNumber dX10_round_2 wg_847 (hC.K0) rfl rfl rfl rfl (Nat.le_of_ble_eq_true rfl) (Nat.le_of_ble_eq_true rfl) (Nat.le_of_ble_eq_true rfl) (Nat.le_of_ble_eq_true rfl) ?_
  refine ww_aload_n dX10_round_5 rfl rfl ?_
  refine ww_iload_n dX10_round_6 rfl rfl ?_
  refine ww_cV0 (M := m_X10_round) (pc := 7) (h1 := h) (st := []) (d := 6) (bc := 0) (bs := 0) (c_needNumber_t hst hC.K0 e he) vv_X10_needNumber dX10_round_7 wg_847 (hC.K0) rfl rfl rfl rfl (Nat.le_of_ble_eq_true rfl) (Nat.le_of_ble_eq_true rfl) (Nat.le_of_ble_eq_true rfl) (Nat.le_of_ble_eq_true rfl) ?_
  refine ww_aload_n dX10_round_10 rfl rfl ?_
  refine ww_iload_n dX10_round_11 rfl rfl ?_
  refine ww_iconst (v := nI 0) dX10_round_12 (by decide) ?_
  refine ww_iconst (v := nI 2) dX10_round_13 (by decide) ?_
  refine ww_cV0 (M := m_X10_round) (pc := 14) (h1 := h) (st := []) (d := 6) (bc := 0) (bs := 0) (c_within_t hst (nI 2) (nI 0) (nI 2) (by decide) (by decide) _) vv_X10_within dX10_round_14 wg_410 (hC.K0) rfl rfl rfl rfl (Nat.le_of_ble_eq_true rfl) (Nat.le_of_ble_eq_true rfl) (Nat.le_of_ble_eq_true rfl) (Nat.le_of_ble_eq_true rfl) ?_
  refine ww_aload_n dX10_round_17 rfl rfl ?_
  refine ww_get 16 dX10_round_18 (hC.K0) rfl (by decide) inX10 wg_280 (hC.R0_16) ?_
  refine ww_aload_n dX10_round_21 rfl rfl ?_
  refine ww_get 1 dX10_round_22 (hC.K0) rfl (by decide) inX10 wg_265 hC.D1 ?_
  refine ww_aload_n dX10_round_25 rfl rfl ?_
  refine ww_get 3 dX10_round_26 (hC.K0) rfl (by decide) inX10 wg_267 hC.D3 ?_
  refine ww_iload_n dX10_round_29 rfl rfl ?_
  refine ww_cVq0 (M := m_X10_round) (pc := 30) (st := []) (d := 6) (bc := 0) (bs := 0) (c_Wk_measure hst hC hL hW hok e he) vv_X8_measure dX10_round_30 wg_969 (hC.K36) rfl rfl rfl rfl (Nat.le_of_ble_eq_true rfl) (Nat.le_of_ble_eq_true rfl) (Nat.le_of_ble_eq_true rfl) (Nat.le_of_ble_eq_true rfl) (fun hq1 qq1 => ?_)
  have s1 : Same CX CY h hq1 := qq1.1
  have hC1 := hC.scr s1
  have hL1 := hL.scr hC s1
  have hW1 := hW.scr hC s1
  have hA1 := qq1.2
  have hD1 := rdD_b (tlN_le f sz kf vf e) he hn
  refine ww_iload_n dX10_round_33 rfl rfl ?_
  refine ww_lookup (off := 44) (tgt := 78) dX10_round_34 (by decide) (by decide) (by decide) ?_
  refine ww_aload_n dX10_round_78 rfl rfl ?_
  refine ww_get 16 dX10_round_79 (hC1.K0) rfl (by decide) inX10 wg_280 (hC1.R0_16) ?_
  refine ww_iload_n dX10_round_82 rfl rfl ?_
  refine ww_iload_n dX10_round_83 rfl rfl ?_
  refine ww_cVr (M := m_X10_round) (pc := 84) (v := .int (if n = e then -1 else fsI (rdW (tlN f sz kf vf e) e n) 0 61)) (h1 := hq1) (st := []) (d := 6) (bc := 0) (bs := 0) (c_Wk_first hst hA1 (tlN_le f sz kf vf e) he n hn) vv_X8_firstFrom dX10_round_84 wg_1002 (hC1.K36) rfl rfl rfl rfl (Nat.le_of_ble_eq_true rfl) (Nat.le_of_ble_eq_true rfl) (Nat.le_of_ble_eq_true rfl) (Nat.le_of_ble_eq_true rfl) ?_
  exact ww_iret dX10_round_87 rfl ⟨rfl, s1⟩
