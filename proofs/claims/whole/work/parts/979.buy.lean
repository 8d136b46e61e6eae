/-! ===== which to buy: what is reckoned, and the class ===== -/
def bkN (s : BKt) (i : Nat) : Nat := (s.2.1 i).toNatClampNeg
def bkM (s : BKt) (i : Nat) : Nat := (s.2.2 i).toNatClampNeg
def rtN (f : Nat → Int32) (n : Nat) : Nat := (f (61 + n)).toNatClampNeg
theorem bk_n {s : BKt} (h : BkG s) {i : Nat} (hi : i < s.1) : s.2.1 i = nI (bkN s i) ∧ bkN s i ≤ 60 := by
  obtain ⟨⟨v, hv, e⟩, -⟩ := h.2 i hi
  unfold bkN; rw [e, nI_clamp (by omega)]; exact ⟨rfl, hv⟩
theorem bk_m {s : BKt} (h : BkG s) {i : Nat} (hi : i < s.1) : s.2.2 i = nI (bkM s i) ∧ bkM s i ≤ 30 := by
  obtain ⟨-, v, hv, e⟩ := h.2 i hi
  unfold bkM; rw [e, nI_clamp (by omega)]; exact ⟨rfl, hv⟩
theorem rt_n {f : Nat → Int32} {np : Nat} (h : RowOK f np) {n : Nat} (hn : n ≤ 60) : f (61 + n) = nI (rtN f n) ∧ rtN f n ≤ 40 := by
  obtain ⟨v, hv, e⟩ := h.2.1 n hn
  unfold rtN; rw [e, nI_clamp (by omega)]; exact ⟨rfl, hv⟩
def bkB (set i : Nat) : Nat := set / 2 ^ i % 2
theorem bkB_le (set i : Nat) : bkB set i ≤ 1 := by unfold bkB; omega
theorem sh_bit {set i : Nat} (hi : i ≤ 7) (hs : set < 2 ^ 31) : (nI set >>> (nI i &&& 31)) &&& nI 1 = nI (bkB set i) := by
  have key : ∀ k, ((nI i &&& 31).toBitVec.smod 32).toNat = k → (nI set >>> (nI i &&& 31)) &&& nI 1 = nI (set / 2 ^ k % 2) := fun k hk => by
    rw [pk_shrN hs _ k hk, pk_andN (Nat.lt_of_le_of_lt (Nat.div_le_self _ _) (Nat.lt_trans hs (by decide))) 1 (by decide)]
  unfold bkB
  rcases (show i = 0 ∨ i = 1 ∨ i = 2 ∨ i = 3 ∨ i = 4 ∨ i = 5 ∨ i = 6 ∨ i = 7 by omega) with rfl | rfl | rfl | rfl | rfl | rfl | rfl | rfl <;> exact key _ (by decide)
theorem sh_one {k : Nat} (hk : k ≤ 8) : nI 1 <<< (nI k &&& 31) = nI (2 ^ k) := by
  rcases (show k = 0 ∨ k = 1 ∨ k = 2 ∨ k = 3 ∨ k = 4 ∨ k = 5 ∨ k = 6 ∨ k = 7 ∨ k = 8 by omega) with rfl | rfl | rfl | rfl | rfl | rfl | rfl | rfl | rfl <;> decide
theorem p2_le {k : Nat} (hk : k ≤ 8) : 2 ^ k ≤ 256 := Nat.pow_le_pow_right (by decide) hk
theorem p2_pos (k : Nat) : 1 ≤ 2 ^ k := Nat.one_le_two_pow
def prB (f : Nat → Int32) (s : BKt) (set : Nat) : Nat → Nat := smN (fun i => if bkB set i = 1 then 10 * rtN f (bkN s i) + 1 else 0)
def svB (fr : Nat → Nat) (s : BKt) (set : Nat) : Nat → Nat := smN (fun i => if bkB set i = 1 then bkM s i * fr (bkN s i) else 0)
def frB (f : Nat → Int32) (s : BKt) (set : Nat) : Nat → Bool
  | 0 => true
  | k + 1 => frB f s set k && (bkB set k != 1 || f (bkN s k) != -1)
theorem frB_f {f : Nat → Int32} {s : BKt} {set k : Nat} (h : frB f s set k = false) : ∀ n, k ≤ n → frB f s set n = false := by
  intro n
  induction n with
  | zero => intro hk; rw [show k = 0 by omega] at h; exact h
  | succ n ih =>
    intro hk
    by_cases e : k = n + 1
    · rw [e] at h; exact h
    · show (frB f s set n && _) = false
      rw [ih (by omega)]; rfl
theorem frB_s0 {f : Nat → Int32} {s : BKt} {set k : Nat} (h : ¬ bkB set k = 1) : frB f s set (k + 1) = frB f s set k := by
  show (frB f s set k && (bkB set k != 1 || f (bkN s k) != -1)) = _
  rw [show (bkB set k != 1) = true from bne_iff_ne.mpr h]; simp
theorem frB_s1 {f : Nat → Int32} {s : BKt} {set k : Nat} (h : ¬ f (bkN s k) = -1) : frB f s set (k + 1) = frB f s set k := by
  show (frB f s set k && (bkB set k != 1 || f (bkN s k) != -1)) = _
  rw [show (f (bkN s k) != -1) = true from bne_iff_ne.mpr h]; simp
theorem frB_s2 {f : Nat → Int32} {s : BKt} {set k : Nat} (h : bkB set k = 1) (h2 : f (bkN s k) = -1) : frB f s set (k + 1) = false := by
  show (frB f s set k && (bkB set k != 1 || f (bkN s k) != -1)) = _
  rw [h, h2]; simp
theorem prB_s {f : Nat → Int32} {s : BKt} {set k : Nat} : prB f s set (k + 1) = prB f s set k + if bkB set k = 1 then 10 * rtN f (bkN s k) + 1 else 0 := rfl
theorem svB_s {fr : Nat → Nat} {s : BKt} {set k : Nat} : svB fr s set (k + 1) = svB fr s set k + if bkB set k = 1 then bkM s k * fr (bkN s k) else 0 := rfl
theorem prB_le {f : Nat → Int32} {np : Nat} (hu : RowOK f np) {s : BKt} (hg : BkG s) (set : Nat) {k : Nat} (hk : k ≤ s.1) : prB f s set k ≤ 401 * k := by
  refine smN_le k (fun i hi => ?_)
  have h1 := (rt_n hu (bk_n hg (show i < s.1 by omega)).2).2
  show (if bkB set i = 1 then 10 * rtN f (bkN s i) + 1 else 0) ≤ 401
  split <;> omega
theorem mu_le {a b : Nat} (ha : a ≤ 30) (hb : b ≤ 99) : a * b ≤ 2970 := Nat.mul_le_mul ha hb
theorem svB_le {fr : Nat → Nat} (hf : ∀ n, n ≤ 60 → fr n ≤ 99) {s : BKt} (hg : BkG s) (set : Nat) {k : Nat} (hk : k ≤ s.1) : svB fr s set k ≤ 2970 * k := by
  refine smN_le k (fun i hi => ?_)
  have h1 := bk_n hg (show i < s.1 by omega)
  have h2 := bk_m hg (show i < s.1 by omega)
  have h3 := mu_le h2.2 (hf _ h1.2)
  show (if bkB set i = 1 then bkM s i * fr (bkN s i) else 0) ≤ 2970
  split <;> omega
def buO (f : Nat → Int32) (s : BKt) (c set : Nat) : Bool := frB f s set s.1 && decide (prB f s set s.1 ≤ c)
def buS (f : Nat → Int32) (fr : Nat → Nat) (s : BKt) (c : Nat) : Nat → Nat × Nat
  | 0 => (0, 0)
  | k + 1 => if buO f s c k = true ∧ (buS f fr s c k).2 < svB fr s k s.1 then (k, svB fr s k s.1) else buS f fr s c k
theorem buS_t {f : Nat → Int32} {fr : Nat → Nat} {s : BKt} {c k : Nat} (h1 : buO f s c k = true) (h2 : (buS f fr s c k).2 < svB fr s k s.1) : buS f fr s c (k + 1) = (k, svB fr s k s.1) := if_pos ⟨h1, h2⟩
theorem buS_f {f : Nat → Int32} {fr : Nat → Nat} {s : BKt} {c k : Nat} (h : buO f s c k = false ∨ svB fr s k s.1 ≤ (buS f fr s c k).2) : buS f fr s c (k + 1) = buS f fr s c k := if_neg (fun q => by
  rcases h with e | e
  · rw [e] at q; exact absurd q.1 (by decide)
  · omega)
theorem bkB_0 (i : Nat) : bkB 0 i = 0 := by unfold bkB; rw [Nat.zero_div]
theorem sv_0 (fr : Nat → Nat) (s : BKt) : ∀ k, svB fr s 0 k = 0
  | 0 => rfl
  | k + 1 => by rw [svB_s, sv_0 fr s k, bkB_0]; rfl
theorem pr_0 (f : Nat → Int32) (s : BKt) : ∀ k, prB f s 0 k = 0
  | 0 => rfl
  | k + 1 => by rw [prB_s, pr_0 f s k, bkB_0]; rfl
theorem fr_0 (f : Nat → Int32) (s : BKt) : ∀ k, frB f s 0 k = true
  | 0 => rfl
  | k + 1 => by rw [frB_s0 (by rw [bkB_0]; decide), fr_0 f s k]
theorem buS_1 (f : Nat → Int32) (fr : Nat → Nat) (s : BKt) (c : Nat) : buS f fr s c 1 = (0, 0) := buS_f (k := 0) (Or.inr (by rw [sv_0]; exact Nat.zero_le _))
theorem buS_le {f : Nat → Int32} {fr : Nat → Nat} (hf : ∀ n, n ≤ 60 → fr n ≤ 99) {s : BKt} (hg : BkG s) (c : Nat) : ∀ k, (buS f fr s c k).1 ≤ k ∧ (buS f fr s c k).2 ≤ 2970 * s.1
  | 0 => ⟨Nat.le_refl _, Nat.zero_le _⟩
  | k + 1 => by
    have h1 := buS_le (f := f) hf hg c k
    have h2 := svB_le hf hg k (Nat.le_refl s.1)
    show (if _ then _ else _ : Nat × Nat).1 ≤ _ ∧ (if _ then _ else _ : Nat × Nat).2 ≤ _
    split
    · exact ⟨Nat.le_succ _, h2⟩
    · exact ⟨by omega, h1.2⟩
def frN (f : Nat → Int32) (sz : Nat) (kf vf : Nat → Int32) (n : Nat) : Nat := fareTn f sz kf vf n 1
theorem frN_le (f : Nat → Int32) (sz : Nat) (kf vf : Nat → Int32) : ∀ n, n ≤ 60 → frN f sz kf vf n ≤ 99 := fun n _ => (fareTn_ok f sz kf vf n 1).2
theorem BookAt.scr {h h' : PH} {la lw bk : Nat} {s : BKt} (hB : BookAt h bk s) (hC : CL h la lw bk) (hS : Same CX CY h h') : BookAt h' bk s := by
  have e : ¬ CX (bk + 1) ∧ ¬ CX (bk + 2) ∧ ∀ j, j ≤ 2 → ¬ CY bk j := by
    rcases hC.bk with rfl | rfl <;> exact ⟨by decide, by decide, fun j _ => by simp [CY]⟩
  exact ⟨(hS.2.1 _).trans hB.1, (hS.2.1 _).trans hB.2.1, (hS.2.1 _).trans hB.2.2.1, (hS.2.2.1 _ _ (e.2.2 0 (by omega))).trans hB.2.2.2.1, (hS.2.2.1 _ _ (e.2.2 1 (by omega))).trans hB.2.2.2.2.1, (hS.2.2.1 _ _ (e.2.2 2 (by omega))).trans hB.2.2.2.2.2.1, (hS.2.2.2.1 _ e.1).trans hB.2.2.2.2.2.2.1, (hS.2.2.2.1 _ e.2.1).trans hB.2.2.2.2.2.2.2.1, hB.2.2.2.2.2.2.2.2⟩
set_option maxHeartbeats 4000000 in
set_option maxRecDepth 100000 in
theorem l_Bk_can {l : Launch} {Z : EE} (hst : l.stackTraces = false) {h : PH} {la np du : Nat} {f : Nat → Int32} (hL : LandAt h la np du f) (hu : RowOK f np) {bk : Nat} {s : BKt} (hB : BookAt h bk s) (hg : BkG s) (set c : Nat) (hset : set ≤ 256) (hc : c ≤ 9999) : ∀ (j k : Nat), k + j = s.1 → frB f s set k = true → WW l Z m_X1_canBuy 2 0 0 6 [.ref bk, .int (nI set), .ref la, .int (nI c), .int (nI (prB f s set k)), .int (nI k)] [] h (RT (some (.int (bI (buO f s c set)))) h) := by
  have hs8 := hg.1
  have hnp := hL.2.2.2.2.2.2.1
  intro j
  induction j with
  | zero =>
    intro k hk hf
    have hb9 : k = s.1 := by omega
    subst hb9
    have hp9 := prB_le hu hg set (Nat.le_refl s.1)
    refine ww_iload dX1_canBuy_6 rfl ?_
    refine ww_aload_n dX1_canBuy_8 rfl rfl ?_
    refine ww_get 2 dX1_canBuy_9 hB.1 rfl (by decide) inX1 wg_118 hB.2.2.2.2.2.1 ?_
    refine ww_icmp_geN (tgt := 64) dX1_canBuy_12 (by decide) (by omega) (by omega) (fun c12 => ?_) (fun c12 => ?_)
    · refine ww_iload dX1_canBuy_64 rfl ?_
      refine ww_iload_n dX1_canBuy_66 rfl rfl ?_
      refine ww_icmp_gtN (tgt := 74) dX1_canBuy_67 (by decide) (by omega) (by omega) (fun c67 => ?_) (fun c67 => ?_)
      · refine ww_iconst (v := nI 0) dX1_canBuy_74 (by decide) ?_
        exact ww_zret dX1_canBuy_75 rfl (by first | rfl | exact nar_bI _) ⟨by unfold buO; rw [hf]; simp only [Bool.true_and]; rw [decide_eq_false (show ¬ prB f s set s.1 ≤ c by omega)]; rfl, rfl⟩
      · refine ww_iconst (v := nI 1) dX1_canBuy_70 (by decide) ?_
        refine ww_goto (tgt := 75) dX1_canBuy_71 (by decide) ?_
        exact ww_zret dX1_canBuy_75 rfl (by first | rfl | exact nar_bI _) ⟨by unfold buO; rw [hf]; simp only [Bool.true_and]; rw [decide_eq_true (show prB f s set s.1 ≤ c by omega)]; rfl, rfl⟩
    · exfalso; omega
  | succ j ih =>
    intro k hk hf
    have hp9 := prB_le hu hg set (show k ≤ s.1 by omega)
    have hn9 := bk_n hg (show k < s.1 by omega)
    have hr9 := rt_n hu hn9.2
    have hb9 := bkB_le set k
    refine ww_iload dX1_canBuy_6 rfl ?_
    refine ww_aload_n dX1_canBuy_8 rfl rfl ?_
    refine ww_get 2 dX1_canBuy_9 hB.1 rfl (by decide) inX1 wg_118 hB.2.2.2.2.2.1 ?_
    refine ww_icmp_geN (tgt := 64) dX1_canBuy_12 (by decide) (by omega) (by omega) (fun c12 => ?_) (fun c12 => ?_)
    · exfalso; omega
    · refine ww_iload_n dX1_canBuy_15 rfl rfl ?_
      refine ww_iload dX1_canBuy_16 rfl ?_
      refine ww_ishr dX1_canBuy_18 ?_
      refine ww_iconst (v := nI 1) dX1_canBuy_19 (by decide) ?_
      refine ww_iand dX1_canBuy_20 ?_
      refine ww_sk (st2 := [.int (nI (bkB set k))]) (by rw [sh_bit (by omega) (by omega)]) ?_
      refine ww_iconst (v := nI 1) dX1_canBuy_21 (by decide) ?_
      refine ww_icmp_neN (tgt := 58) dX1_canBuy_22 (by decide) (by omega) (by omega) (fun c22 => ?_) (fun c22 => ?_)
      · refine ww_incN (c := 1) (lv2 := [.ref bk, .int (nI set), .ref la, .int (nI c), .int (nI (prB f s set k)), .int (nI (k + 1))]) dX1_canBuy_58 rfl rfl rfl (by decide) rfl ?_
        refine ww_goto (tgt := 6) dX1_canBuy_61 (by decide) ?_
        refine ww_lv (lv2 := [.ref bk, .int (nI set), .ref la, .int (nI c), .int (nI (prB f s set (k + 1))), .int (nI (k + 1))]) (by rw [prB_s, if_neg (by omega)]; rfl) ?_
        exact ih (k + 1) (by omega) (by rw [frB_s0 (by omega)]; exact hf)
      · refine ww_aload_n dX1_canBuy_25 rfl rfl ?_
        refine ww_aload_n dX1_canBuy_26 rfl rfl ?_
        refine ww_get 0 dX1_canBuy_27 hB.1 rfl (by decide) inX1 wg_116 hB.2.2.2.1 ?_
        refine ww_iload dX1_canBuy_30 rfl ?_
        refine ww_ialdF dX1_canBuy_32 hB.2.1 hB.2.2.2.2.2.2.1 (by omega) (by omega) ?_
        refine ww_sk (st2 := [.int (nI (bkN s k)), .ref la]) (by rw [hn9.1]) ?_
        refine ww_cVr (M := m_X1_canBuy) (pc := 33) (v := .int (f (bkN s k))) (h1 := h) (st := []) (d := 2) (bc := 0) (bs := 0) (c_Land_owner hst hL (bkN s k) (by omega)) vv_X2_owner dX1_canBuy_33 wg_1018 hL.1 rfl rfl rfl rfl (Nat.le_of_ble_eq_true rfl) (Nat.le_of_ble_eq_true rfl) (Nat.le_of_ble_eq_true rfl) (Nat.le_of_ble_eq_true rfl) ?_
        refine ww_iconst (v := -1) dX1_canBuy_36 (by decide) ?_
        refine ww_icmp_ne (tgt := 42) dX1_canBuy_37 (by decide) (fun c37 => ?_) (fun c37 => ?_)
        · refine ww_iload dX1_canBuy_42 rfl ?_
          refine ww_aload_n dX1_canBuy_44 rfl rfl ?_
          refine ww_aload_n dX1_canBuy_45 rfl rfl ?_
          refine ww_get 0 dX1_canBuy_46 hB.1 rfl (by decide) inX1 wg_116 hB.2.2.2.1 ?_
          refine ww_iload dX1_canBuy_49 rfl ?_
          refine ww_ialdF dX1_canBuy_51 hB.2.1 hB.2.2.2.2.2.2.1 (by omega) (by omega) ?_
          refine ww_sk (st2 := [.int (nI (bkN s k)), .ref la, .int (nI (prB f s set k))]) (by rw [hn9.1]) ?_
          refine ww_cVr (M := m_X1_canBuy) (pc := 52) (v := .int (nI 10 * f (61 + (bkN s k)) + nI 1)) (h1 := h) (st := [.int (nI (prB f s set k))]) (d := 2) (bc := 0) (bs := 0) (c_Land_price hst hL (bkN s k) (by omega)) vv_X2_price dX1_canBuy_52 wg_1019 hL.1 rfl rfl rfl rfl (Nat.le_of_ble_eq_true rfl) (Nat.le_of_ble_eq_true rfl) (Nat.le_of_ble_eq_true rfl) (Nat.le_of_ble_eq_true rfl) ?_
          refine ww_sk (st2 := [.int (nI (10 * rtN f (bkN s k) + 1)), .int (nI (prB f s set k))]) (by rw [hr9.1, pk_mul, nI_add]) ?_
          refine ww_iaddN dX1_canBuy_55 ?_
          refine ww_sti (lv2 := [.ref bk, .int (nI set), .ref la, .int (nI c), .int (nI ((prB f s set k) + (10 * rtN f (bkN s k) + 1))), .int (nI k)]) dX1_canBuy_56 rfl (by decide) rfl ?_
          refine ww_incN (c := 1) (lv2 := [.ref bk, .int (nI set), .ref la, .int (nI c), .int (nI ((prB f s set k) + (10 * rtN f (bkN s k) + 1))), .int (nI (k + 1))]) dX1_canBuy_58 rfl rfl rfl (by decide) rfl ?_
          refine ww_goto (tgt := 6) dX1_canBuy_61 (by decide) ?_
          refine ww_lv (lv2 := [.ref bk, .int (nI set), .ref la, .int (nI c), .int (nI (prB f s set (k + 1))), .int (nI (k + 1))]) (by rw [prB_s, if_pos (by omega)]) ?_
          exact ih (k + 1) (by omega) (by rw [frB_s1 c37]; exact hf)
        · refine ww_iconst (v := nI 0) dX1_canBuy_40 (by decide) ?_
          exact ww_zret dX1_canBuy_41 rfl (by first | rfl | exact nar_bI _) ⟨by unfold buO; rw [frB_f (frB_s2 (by omega) c37) s.1 (by omega)]; rfl, rfl⟩
set_option maxHeartbeats 4000000 in
set_option maxRecDepth 100000 in
theorem c_Bk_can {l : Launch} {Z : EE} (hst : l.stackTraces = false) {h : PH} {la np du : Nat} {f : Nat → Int32} (hL : LandAt h la np du f) (hu : RowOK f np) {bk : Nat} {s : BKt} (hB : BookAt h bk s) (hg : BkG s) (set c : Nat) (hset : set ≤ 256) (hc : c ≤ 9999) : CC l Z m_X1_canBuy 2 0 0 [.ref bk, .int (nI set), .ref la, .int (nI c)] h (RT (some (.int (bI (buO f s c set)))) h) := by
  refine ee_entry hst (by decide +kernel) rfl rfl (by simp [Value.category]) (Nat.le_of_ble_eq_true rfl) ?_
  refine ww_lv (lv2 := [.ref bk, .int (nI set), .ref la, .int (nI c), UU, UU]) rfl ?_
  refine ww_iconst (v := nI 0) dX1_canBuy_0 (by decide) ?_
  refine ww_sti (lv2 := [.ref bk, .int (nI set), .ref la, .int (nI c), .int (nI 0), UU]) dX1_canBuy_1 rfl (by decide) rfl ?_
  refine ww_iconst (v := nI 0) dX1_canBuy_3 (by decide) ?_
  refine ww_sti (lv2 := [.ref bk, .int (nI set), .ref la, .int (nI c), .int (nI 0), .int (nI 0)]) dX1_canBuy_4 rfl (by decide) rfl ?_
  exact l_Bk_can hst hL hu hB hg set c hset hc s.1 0 (by omega) rfl
set_option maxHeartbeats 4000000 in
set_option maxRecDepth 100000 in
theorem l_Bk_sav {l : Launch} {Z : EE} (hst : l.stackTraces = false) {h : PH} {bk : Nat} {s : BKt} (hB : BookAt h bk s) (hg : BkG s) (k29 : hp_K h 29 = (20, 61)) {fr : Nat → Nat} (hfr : ∀ i, i < 61 → hp_I h 29 i = nI (fr i)) (hf9 : ∀ n, n ≤ 60 → fr n ≤ 99) (set : Nat) (hset : set ≤ 256) : ∀ (j k : Nat), k + j = s.1 → WW l Z m_X1_saved 0 0 0 5 [.ref bk, .int (nI set), .ref 29, .int (nI (svB fr s set k)), .int (nI k)] [] h (RT (some (.int (nI (svB fr s set s.1)))) h) := by
  have hs8 := hg.1
  intro j
  induction j with
  | zero =>
    intro k hk
    have hb9 : k = s.1 := by omega
    subst hb9
    refine ww_iload dX1_saved_5 rfl ?_
    refine ww_aload_n dX1_saved_7 rfl rfl ?_
    refine ww_get 2 dX1_saved_8 hB.1 rfl (by decide) inX1 wg_118 hB.2.2.2.2.2.1 ?_
    refine ww_icmp_geN (tgt := 62) dX1_saved_11 (by decide) (by omega) (by omega) (fun c11 => ?_) (fun c11 => ?_)
    · refine ww_iload_n dX1_saved_62 rfl rfl ?_
      exact ww_iret dX1_saved_63 rfl ⟨rfl, rfl⟩
    · exfalso; omega
  | succ j ih =>
    intro k hk
    have hn9 := bk_n hg (show k < s.1 by omega)
    have hm9 := bk_m hg (show k < s.1 by omega)
    have hb9 := bkB_le set k
    refine ww_iload dX1_saved_5 rfl ?_
    refine ww_aload_n dX1_saved_7 rfl rfl ?_
    refine ww_get 2 dX1_saved_8 hB.1 rfl (by decide) inX1 wg_118 hB.2.2.2.2.2.1 ?_
    refine ww_icmp_geN (tgt := 62) dX1_saved_11 (by decide) (by omega) (by omega) (fun c11 => ?_) (fun c11 => ?_)
    · exfalso; omega
    · refine ww_iload_n dX1_saved_14 rfl rfl ?_
      refine ww_iload dX1_saved_15 rfl ?_
      refine ww_ishr dX1_saved_17 ?_
      refine ww_iconst (v := nI 1) dX1_saved_18 (by decide) ?_
      refine ww_iand dX1_saved_19 ?_
      refine ww_sk (st2 := [.int (nI (bkB set k))]) (by rw [sh_bit (by omega) (by omega)]) ?_
      refine ww_iconst (v := nI 1) dX1_saved_20 (by decide) ?_
      refine ww_icmp_neN (tgt := 56) dX1_saved_21 (by decide) (by omega) (by omega) (fun c21 => ?_) (fun c21 => ?_)
      · refine ww_incN (c := 1) (lv2 := [.ref bk, .int (nI set), .ref 29, .int (nI (svB fr s set k)), .int (nI (k + 1))]) dX1_saved_56 rfl rfl rfl (by decide) rfl ?_
        refine ww_goto (tgt := 5) dX1_saved_59 (by decide) ?_
        refine ww_lv (lv2 := [.ref bk, .int (nI set), .ref 29, .int (nI (svB fr s set (k + 1))), .int (nI (k + 1))]) (by rw [svB_s, if_neg (by omega)]; rfl) ?_
        exact ih (k + 1) (by omega)
      · refine ww_aload_n dX1_saved_24 rfl rfl ?_
        refine ww_get 0 dX1_saved_25 hB.1 rfl (by decide) inX1 wg_116 hB.2.2.2.1 ?_
        refine ww_iload dX1_saved_28 rfl ?_
        refine ww_ialdF dX1_saved_30 hB.2.1 hB.2.2.2.2.2.2.1 (by omega) (by omega) ?_
        refine ww_sk (st2 := [.int (nI (bkN s k))]) (by rw [hn9.1]) ?_
        refine ww_aload_n dX1_saved_31 rfl rfl ?_
        refine ww_alenI dX1_saved_32 k29 ?_
        refine ww_icmp_geN (tgt := 56) dX1_saved_33 (by decide) (by omega) (by omega) (fun c33 => ?_) (fun c33 => ?_)
        · exfalso; omega
        · refine ww_iload_n dX1_saved_36 rfl rfl ?_
          refine ww_aload_n dX1_saved_37 rfl rfl ?_
          refine ww_get 1 dX1_saved_38 hB.1 rfl (by decide) inX1 wg_117 hB.2.2.2.2.1 ?_
          refine ww_iload dX1_saved_41 rfl ?_
          refine ww_ialdF dX1_saved_43 hB.2.2.1 hB.2.2.2.2.2.2.2.1 (by omega) (by omega) ?_
          refine ww_sk (st2 := [.int (nI (bkM s k)), .int (nI (svB fr s set k))]) (by rw [hm9.1]) ?_
          refine ww_aload_n dX1_saved_44 rfl rfl ?_
          refine ww_aload_n dX1_saved_45 rfl rfl ?_
          refine ww_get 0 dX1_saved_46 hB.1 rfl (by decide) inX1 wg_116 hB.2.2.2.1 ?_
          refine ww_iload dX1_saved_49 rfl ?_
          refine ww_ialdF dX1_saved_51 hB.2.1 hB.2.2.2.2.2.2.1 (by omega) (by omega) ?_
          refine ww_sk (st2 := [.int (nI (bkN s k)), .ref 29, .int (nI (bkM s k)), .int (nI (svB fr s set k))]) (by rw [hn9.1]) ?_
          refine ww_ialdF dX1_saved_52 k29 rfl (by omega) (by omega) ?_
          refine ww_sk (st2 := [.int (nI (fr (bkN s k))), .int (nI (bkM s k)), .int (nI (svB fr s set k))]) (by rw [hfr (bkN s k) (by omega)]) ?_
          refine ww_imulN dX1_saved_53 ?_
          refine ww_iaddN dX1_saved_54 ?_
          refine ww_sti_n (lv2 := [.ref bk, .int (nI set), .ref 29, .int (nI ((svB fr s set k) + ((bkM s k) * (fr (bkN s k))))), .int (nI k)]) dX1_saved_55 rfl rfl (by decide) rfl ?_
          refine ww_incN (c := 1) (lv2 := [.ref bk, .int (nI set), .ref 29, .int (nI ((svB fr s set k) + ((bkM s k) * (fr (bkN s k))))), .int (nI (k + 1))]) dX1_saved_56 rfl rfl rfl (by decide) rfl ?_
          refine ww_goto (tgt := 5) dX1_saved_59 (by decide) ?_
          refine ww_lv (lv2 := [.ref bk, .int (nI set), .ref 29, .int (nI (svB fr s set (k + 1))), .int (nI (k + 1))]) (by rw [svB_s, if_pos (by omega)]) ?_
          exact ih (k + 1) (by omega)
set_option maxHeartbeats 4000000 in
set_option maxRecDepth 100000 in
theorem c_Bk_sav {l : Launch} {Z : EE} (hst : l.stackTraces = false) {h : PH} {bk : Nat} {s : BKt} (hB : BookAt h bk s) (hg : BkG s) (k29 : hp_K h 29 = (20, 61)) {fr : Nat → Nat} (hfr : ∀ i, i < 61 → hp_I h 29 i = nI (fr i)) (hf9 : ∀ n, n ≤ 60 → fr n ≤ 99) (set : Nat) (hset : set ≤ 256) : CC l Z m_X1_saved 0 0 0 [.ref bk, .int (nI set), .ref 29] h (RT (some (.int (nI (svB fr s set s.1)))) h) := by
  refine ee_entry hst (by decide +kernel) rfl rfl (by simp [Value.category]) (Nat.le_of_ble_eq_true rfl) ?_
  refine ww_lv (lv2 := [.ref bk, .int (nI set), .ref 29, UU, UU]) rfl ?_
  refine ww_iconst (v := nI 0) dX1_saved_0 (by decide) ?_
  refine ww_sti_n (lv2 := [.ref bk, .int (nI set), .ref 29, .int (nI 0), UU]) dX1_saved_1 rfl rfl (by decide) rfl ?_
  refine ww_iconst (v := nI 0) dX1_saved_2 (by decide) ?_
  refine ww_sti (lv2 := [.ref bk, .int (nI set), .ref 29, .int (nI 0), .int (nI 0)]) dX1_saved_3 rfl (by decide) rfl ?_
  exact l_Bk_sav hst hB hg k29 hfr hf9 set hset s.1 0 (by omega)
set_option maxHeartbeats 4000000 in
set_option maxRecDepth 100000 in
theorem l_K_buy {l : Launch} {Z : EE} (hst : l.stackTraces = false) {h : PH} {la lw bk : Nat} (hC : CL h la lw bk) {np du : Nat} {f : Nat → Int32} (hL : LandAt h la np du f) (hu : RowOK f np) {s : BKt} (hB : BookAt h bk s) (hg : BkG s) {sz : Nat} {kf vf : Nat → Int32} (hfr : ∀ i, i < 61 → hp_I h 29 i = nI (frN f sz kf vf i)) (c : Nat) (hc : c ≤ 9999) (w : Int32) {Post : Res → PH → Prop} : ∀ (j k : Nat), k + j = 2 ^ s.1 → WW l Z m_X10_buy 5 0 0 106 [.ref 0, .int (nI c), .int w, .int (nI ((buS f (frN f sz kf vf) s c (2 ^ s.1)).1)), .int (nI ((buS f (frN f sz kf vf) s c (2 ^ s.1)).2)), .int (nI (2 ^ s.1)), UU] [] h Post → WW l Z m_X10_buy 5 0 0 40 [.ref 0, .int (nI c), .int w, .int (nI ((buS f (frN f sz kf vf) s c k).1)), .int (nI ((buS f (frN f sz kf vf) s c k).2)), .int (nI k), UU] [] h Post := by
  have hs8 := hg.1
  have hp8 := p2_le hs8
  have hla := hC.la
  have hlw := hC.lw
  have hbk := hC.bk
  intro j
  induction j with
  | zero =>
    intro k hk hex
    have hb9 : k = 2 ^ s.1 := by omega
    subst hb9
    refine ww_iload dX10_buy_40 rfl ?_
    refine ww_iconst (v := nI 1) dX10_buy_42 (by decide) ?_
    refine ww_aload_n dX10_buy_43 rfl rfl ?_
    refine ww_get 5 dX10_buy_44 (hC.K0) rfl (by decide) inX10 wg_269 hC.D5 ?_
    refine ww_getN 2 dX10_buy_47 hB.1 rfl (by decide) inX1 wn_119 hB.2.2.2.2.2.1 ?_
    refine ww_ishl dX10_buy_50 ?_
    refine ww_sk (st2 := [.int (nI (2 ^ s.1)), .int (nI (2 ^ s.1))]) (by rw [sh_one (by omega)]) ?_
    refine ww_icmp_geN (tgt := 106) dX10_buy_51 (by decide) (by omega) (by omega) (fun c51 => ?_) (fun c51 => ?_)
    · exact hex
    · exfalso; omega
  | succ j ih =>
    intro k hk hex
    have hl9 := buS_le (f := f) (frN_le f sz kf vf) hg c k
    have hv9 := svB_le (frN_le f sz kf vf) hg k (Nat.le_refl s.1)
    refine ww_iload dX10_buy_40 rfl ?_
    refine ww_iconst (v := nI 1) dX10_buy_42 (by decide) ?_
    refine ww_aload_n dX10_buy_43 rfl rfl ?_
    refine ww_get 5 dX10_buy_44 (hC.K0) rfl (by decide) inX10 wg_269 hC.D5 ?_
    refine ww_getN 2 dX10_buy_47 hB.1 rfl (by decide) inX1 wn_119 hB.2.2.2.2.2.1 ?_
    refine ww_ishl dX10_buy_50 ?_
    refine ww_sk (st2 := [.int (nI (2 ^ s.1)), .int (nI k)]) (by rw [sh_one (by omega)]) ?_
    refine ww_icmp_geN (tgt := 106) dX10_buy_51 (by decide) (by omega) (by omega) (fun c51 => ?_) (fun c51 => ?_)
    · exfalso; omega
    · refine ww_aload_n dX10_buy_54 rfl rfl ?_
      refine ww_get 5 dX10_buy_55 (hC.K0) rfl (by decide) inX10 wg_269 hC.D5 ?_
      refine ww_iload dX10_buy_58 rfl ?_
      refine ww_aload_n dX10_buy_60 rfl rfl ?_
      refine ww_get 1 dX10_buy_61 (hC.K0) rfl (by decide) inX10 wg_265 hC.D1 ?_
      refine ww_iload_n dX10_buy_64 rfl rfl ?_
      refine ww_cVr (M := m_X10_buy) (pc := 65) (v := .int (bI (buO f s c k))) (h1 := h) (st := []) (d := 5) (bc := 0) (bs := 0) (c_Bk_can hst hL hu hB hg k c (by omega) hc) vv_X1_canBuy dX10_buy_65 wg_1014 hB.1 rfl rfl rfl rfl (Nat.le_of_ble_eq_true rfl) (Nat.le_of_ble_eq_true rfl) (Nat.le_of_ble_eq_true rfl) (Nat.le_of_ble_eq_true rfl) ?_
      refine ww_if_eqB (tgt := 100) dX10_buy_68 (by decide) (fun c68 => ?_) (fun c68 => ?_)
      · refine ww_incN (c := 1) (lv2 := [.ref 0, .int (nI c), .int w, .int (nI ((buS f (frN f sz kf vf) s c k).1)), .int (nI ((buS f (frN f sz kf vf) s c k).2)), .int (nI (k + 1)), UU]) dX10_buy_100 rfl rfl rfl (by decide) rfl ?_
        refine ww_goto (tgt := 40) dX10_buy_103 (by decide) ?_
        refine ww_lv (lv2 := [.ref 0, .int (nI c), .int w, .int (nI ((buS f (frN f sz kf vf) s c (k + 1)).1)), .int (nI ((buS f (frN f sz kf vf) s c (k + 1)).2)), .int (nI (k + 1)), UU]) (by rw [buS_f (by first | exact Or.inl c68 | exact Or.inr (by omega))]) ?_
        exact ih (k + 1) (by omega) hex
      · refine ww_aload_n dX10_buy_71 rfl rfl ?_
        refine ww_get 5 dX10_buy_72 (hC.K0) rfl (by decide) inX10 wg_269 hC.D5 ?_
        refine ww_iload dX10_buy_75 rfl ?_
        refine ww_aload_n dX10_buy_77 rfl rfl ?_
        refine ww_get 14 dX10_buy_78 (hC.K0) rfl (by decide) inX10 wg_278 (hC.R0_14) ?_
        refine ww_cVr (M := m_X10_buy) (pc := 81) (v := .int (nI (svB (frN f sz kf vf) s k s.1))) (h1 := h) (st := []) (d := 5) (bc := 0) (bs := 0) (c_Bk_sav hst hB hg hC.K29 hfr (frN_le f sz kf vf) k (by omega)) vv_X1_saved dX10_buy_81 wg_1023 hB.1 rfl rfl rfl rfl (Nat.le_of_ble_eq_true rfl) (Nat.le_of_ble_eq_true rfl) (Nat.le_of_ble_eq_true rfl) (Nat.le_of_ble_eq_true rfl) ?_
        refine ww_sti (lv2 := [.ref 0, .int (nI c), .int w, .int (nI ((buS f (frN f sz kf vf) s c k).1)), .int (nI ((buS f (frN f sz kf vf) s c k).2)), .int (nI k), .int (nI (svB (frN f sz kf vf) s k s.1))]) dX10_buy_84 rfl (by decide) rfl ?_
        refine ww_iload dX10_buy_86 rfl ?_
        refine ww_iload dX10_buy_88 rfl ?_
        refine ww_icmp_leN (tgt := 100) dX10_buy_90 (by decide) (by omega) (by omega) (fun c90 => ?_) (fun c90 => ?_)
        · refine ww_incN (c := 1) (lv2 := [.ref 0, .int (nI c), .int w, .int (nI ((buS f (frN f sz kf vf) s c k).1)), .int (nI ((buS f (frN f sz kf vf) s c k).2)), .int (nI (k + 1)), .int (nI (svB (frN f sz kf vf) s k s.1))]) dX10_buy_100 rfl rfl rfl (by decide) rfl ?_
          refine ww_goto (tgt := 40) dX10_buy_103 (by decide) ?_
          refine ww_fg (lv2 := [.ref 0, .int (nI c), .int w, .int (nI ((buS f (frN f sz kf vf) s c k).1)), .int (nI ((buS f (frN f sz kf vf) s c k).2)), .int (nI (k + 1)), UU]) ⟨Or.inr rfl, Or.inr rfl, Or.inr rfl, Or.inr rfl, Or.inr rfl, Or.inr rfl, Or.inl rfl, trivial⟩ ?_
          refine ww_lv (lv2 := [.ref 0, .int (nI c), .int w, .int (nI ((buS f (frN f sz kf vf) s c (k + 1)).1)), .int (nI ((buS f (frN f sz kf vf) s c (k + 1)).2)), .int (nI (k + 1)), UU]) (by rw [buS_f (by first | exact Or.inl c68 | exact Or.inr (by omega))]) ?_
          exact ih (k + 1) (by omega) hex
        · refine ww_iload dX10_buy_93 rfl ?_
          refine ww_sti (lv2 := [.ref 0, .int (nI c), .int w, .int (nI ((buS f (frN f sz kf vf) s c k).1)), .int (nI (svB (frN f sz kf vf) s k s.1)), .int (nI k), .int (nI (svB (frN f sz kf vf) s k s.1))]) dX10_buy_95 rfl (by decide) rfl ?_
          refine ww_iload dX10_buy_97 rfl ?_
          refine ww_sti_n (lv2 := [.ref 0, .int (nI c), .int w, .int (nI k), .int (nI (svB (frN f sz kf vf) s k s.1)), .int (nI k), .int (nI (svB (frN f sz kf vf) s k s.1))]) dX10_buy_99 rfl rfl (by decide) rfl ?_
          refine ww_incN (c := 1) (lv2 := [.ref 0, .int (nI c), .int w, .int (nI k), .int (nI (svB (frN f sz kf vf) s k s.1)), .int (nI (k + 1)), .int (nI (svB (frN f sz kf vf) s k s.1))]) dX10_buy_100 rfl rfl rfl (by decide) rfl ?_
          refine ww_goto (tgt := 40) dX10_buy_103 (by decide) ?_
          refine ww_fg (lv2 := [.ref 0, .int (nI c), .int w, .int (nI k), .int (nI (svB (frN f sz kf vf) s k s.1)), .int (nI (k + 1)), UU]) ⟨Or.inr rfl, Or.inr rfl, Or.inr rfl, Or.inr rfl, Or.inr rfl, Or.inr rfl, Or.inl rfl, trivial⟩ ?_
          refine ww_lv (lv2 := [.ref 0, .int (nI c), .int w, .int (nI ((buS f (frN f sz kf vf) s c (k + 1)).1)), .int (nI ((buS f (frN f sz kf vf) s c (k + 1)).2)), .int (nI (k + 1)), UU]) (by rw [buS_t c68 (by omega)]) ?_
          exact ih (k + 1) (by omega) hex
set_option maxHeartbeats 4000000 in
set_option maxRecDepth 100000 in
theorem c_K_buy0 {l : Launch} {Z : EE} (hst : l.stackTraces = false) {h : PH} {la lw bk : Nat} (hC : CL h la lw bk) {np du : Nat} {f : Nat → Int32} (hL : LandAt h la np du f) {sz : Nat} {kf vf : Nat → Int32} (hW : LawAt h lw sz kf vf) (hok : LawOK kf vf sz) (hu : RowOK f np) {s : BKt} (hB : BookAt h bk s) (hg : BkG s) (c : Nat) (lc : 0 ≤ c) (hc : c ≤ 9999) : CC l Z m_X10_buy 5 0 0 [.ref 0, .int (nI c), .int (nI 0)] h (COk (nI (buS f (frN f sz kf vf) s c (2 ^ s.1)).2) h) := by
  refine ee_entry hst (by decide +kernel) rfl rfl (by simp [Value.category]) (Nat.le_of_ble_eq_true rfl) ?_
  refine ww_lv (lv2 := [.ref 0, .int (nI c), .int (nI 0), UU, UU, UU, UU]) rfl ?_
  have hla := hC.la
  have hlw := hC.lw
  have hbk := hC.bk
  refine ww_aload_n dX10_buy_0 rfl rfl ?_
  refine ww_iload_n dX10_buy_1 rfl rfl ?_
  refine ww_iconst (v := nI 0) dX10_buy_2 (by decide) ?_
  refine ww_sipush (v := nI 9999) dX10_buy_3 (by decide) ?_
  refine ww_cV0 (M := m_X10_buy) (pc := 6) (h1 := h) (st := []) (d := 5) (bc := 0) (bs := 0) (c_within_t hst (nI c) (nI 0) (nI 9999) (nI_le (by omega) (by omega)) (nI_le (by omega) (by omega)) _) vv_X10_within dX10_buy_6 wg_410 (hC.K0) rfl rfl rfl rfl (Nat.le_of_ble_eq_true rfl) (Nat.le_of_ble_eq_true rfl) (Nat.le_of_ble_eq_true rfl) (Nat.le_of_ble_eq_true rfl) ?_
  refine ww_aload_n dX10_buy_9 rfl rfl ?_
  refine ww_iload_n dX10_buy_10 rfl rfl ?_
  refine ww_iconst (v := nI 0) dX10_buy_11 (by decide) ?_
  refine ww_iconst (v := nI 1) dX10_buy_12 (by decide) ?_
  refine ww_cV0 (M := m_X10_buy) (pc := 13) (h1 := h) (st := []) (d := 5) (bc := 0) (bs := 0) (c_within_t hst (nI 0) (nI 0) (nI 1) (by decide) (by decide) _) vv_X10_within dX10_buy_13 wg_410 (hC.K0) rfl rfl rfl rfl (Nat.le_of_ble_eq_true rfl) (Nat.le_of_ble_eq_true rfl) (Nat.le_of_ble_eq_true rfl) (Nat.le_of_ble_eq_true rfl) ?_
  refine ww_aload_n dX10_buy_16 rfl rfl ?_
  refine ww_get 1 dX10_buy_17 (hC.K0) rfl (by decide) inX10 wg_265 hC.D1 ?_
  refine ww_aload_n dX10_buy_20 rfl rfl ?_
  refine ww_get 3 dX10_buy_21 (hC.K0) rfl (by decide) inX10 wg_267 hC.D3 ?_
  refine ww_iconst (v := nI 1) dX10_buy_24 (by decide) ?_
  refine ww_aload_n dX10_buy_25 rfl rfl ?_
  refine ww_get 14 dX10_buy_26 (hC.K0) rfl (by decide) inX10 wg_278 (hC.R0_14) ?_
  refine ww_cVq0 (M := m_X10_buy) (pc := 29) (st := []) (d := 5) (bc := 0) (bs := 0) (c_Land_faresBy hst hL hW hok (by omega) hC.K29 (by omega) 1 (by omega)) vv_X2_faresBy dX10_buy_29 wg_1013 hL.1 rfl rfl rfl rfl (Nat.le_of_ble_eq_true rfl) (Nat.le_of_ble_eq_true rfl) (Nat.le_of_ble_eq_true rfl) (Nat.le_of_ble_eq_true rfl) (fun hq1 qq1 => ?_)
  have s1 : Same CX CY h hq1 := qq1.1.mono (fun c hc => by rcases hC.lw with rfl | rfl <;> rcases hc with rfl | rfl | rfl <;> decide) (fun _ _ e => e.elim)
  have hC1 := hC.scr s1
  have hL1 := hL.scr hC s1
  have hW1 := hW.scr hC s1
  have hB1 := hB.scr hC s1
  have hfr1 : ∀ i, i < 61 → hp_I hq1 29 i = nI (frN f sz kf vf i) := fun i hi => by rw [qq1.2 i hi, fareC_n (by omega)]; rfl
  refine ww_iconst (v := nI 0) dX10_buy_32 (by decide) ?_
  refine ww_sti_n (lv2 := [.ref 0, .int (nI c), .int (nI 0), .int (nI 0), UU, UU, UU]) dX10_buy_33 rfl rfl (by decide) rfl ?_
  refine ww_iconst (v := nI 0) dX10_buy_34 (by decide) ?_
  refine ww_sti (lv2 := [.ref 0, .int (nI c), .int (nI 0), .int (nI 0), .int (nI 0), UU, UU]) dX10_buy_35 rfl (by decide) rfl ?_
  refine ww_iconst (v := nI 1) dX10_buy_37 (by decide) ?_
  refine ww_sti (lv2 := [.ref 0, .int (nI c), .int (nI 0), .int (nI 0), .int (nI 0), .int (nI 1), UU]) dX10_buy_38 rfl (by decide) rfl ?_
  refine ww_lv (lv2 := [.ref 0, .int (nI c), .int (nI 0), .int (nI ((buS f (frN f sz kf vf) s c 1).1)), .int (nI ((buS f (frN f sz kf vf) s c 1).2)), .int (nI 1), UU]) (by rw [buS_1]) ?_
  have hp1 := p2_pos s.1
  refine l_K_buy hst hC1 hL1 hu hB1 hg hfr1 c hc (nI 0) (2 ^ s.1 - 1) 1 (by omega) ?_
  refine ww_iload_n dX10_buy_106 rfl rfl ?_
  refine ww_if_neN (tgt := 115) dX10_buy_107 (by decide) (by omega) (fun c107 => ?_) (fun c107 => ?_)
  · exact absurd c107 (by decide)
  · refine ww_iload dX10_buy_110 rfl ?_
    refine ww_goto (tgt := 116) dX10_buy_112 (by decide) ?_
    exact ww_iret dX10_buy_116 rfl ⟨rfl, s1⟩
set_option maxHeartbeats 4000000 in
set_option maxRecDepth 100000 in
theorem c_K_buy_no0 {l : Launch} {Z : EE} (hst : l.stackTraces = false) {h : PH} {la lw bk : Nat} (hC : CL h la lw bk) {np du : Nat} {f : Nat → Int32} (hL : LandAt h la np du f) {wr : Int32} (hwr : hp_F h 0 13 = .int wr) (c : Int32) (w : Int32) (hout : ¬ (nI 0 ≤ c ∧ c ≤ nI 9999)) : CC l Z m_X10_buy 7 1 6 [.ref 0, .int c, .int w] h (TH iaX (hp_sF h 0 13 (.int (wr + nI 1)))) := by
  refine ee_entry hst (by decide +kernel) rfl rfl (by simp [Value.category]) (Nat.le_of_ble_eq_true rfl) ?_
  refine ww_lv (lv2 := [.ref 0, .int c, .int w, UU, UU, UU, UU]) rfl ?_
  have hla := hC.la
  have hlw := hC.lw
  have hbk := hC.bk
  refine ww_aload_n dX10_buy_0 rfl rfl ?_
  refine ww_iload_n dX10_buy_1 rfl rfl ?_
  refine ww_iconst (v := nI 0) dX10_buy_2 (by decide) ?_
  refine ww_sipush (v := nI 9999) dX10_buy_3 (by decide) ?_
  exact ww_cVt (M := m_X10_buy) (pc := 6) (st := []) (d := 7) (bc := 0) (bs := 0) (c_within_f hst hC.K0 hwr c (nI 0) (nI 9999) hout) vv_X10_within dX10_buy_6 wg_410 (hC.K0) rfl rfl rfl rfl (Nat.le_of_ble_eq_true rfl) (Nat.le_of_ble_eq_true rfl) (Nat.le_of_ble_eq_true rfl) (Nat.le_of_ble_eq_true rfl) ⟨rfl, rfl⟩
set_option maxHeartbeats 4000000 in
set_option maxRecDepth 100000 in
theorem c_K_buy_no1 {l : Launch} {Z : EE} (hst : l.stackTraces = false) {h : PH} {la lw bk : Nat} (hC : CL h la lw bk) {np du : Nat} {f : Nat → Int32} (hL : LandAt h la np du f) {wr : Int32} (hwr : hp_F h 0 13 = .int wr) (c : Nat) (lc : 0 ≤ c) (hc : c ≤ 9999) (w : Int32) (hout : ¬ (nI 0 ≤ w ∧ w ≤ nI 1)) : CC l Z m_X10_buy 7 1 6 [.ref 0, .int (nI c), .int w] h (TH iaX (hp_sF h 0 13 (.int (wr + nI 1)))) := by
  refine ee_entry hst (by decide +kernel) rfl rfl (by simp [Value.category]) (Nat.le_of_ble_eq_true rfl) ?_
  refine ww_lv (lv2 := [.ref 0, .int (nI c), .int w, UU, UU, UU, UU]) rfl ?_
  have hla := hC.la
  have hlw := hC.lw
  have hbk := hC.bk
  refine ww_aload_n dX10_buy_0 rfl rfl ?_
  refine ww_iload_n dX10_buy_1 rfl rfl ?_
  refine ww_iconst (v := nI 0) dX10_buy_2 (by decide) ?_
  refine ww_sipush (v := nI 9999) dX10_buy_3 (by decide) ?_
  refine ww_cV0 (M := m_X10_buy) (pc := 6) (h1 := h) (st := []) (d := 7) (bc := 1) (bs := 6) (c_within_t hst (nI c) (nI 0) (nI 9999) (nI_le (by omega) (by omega)) (nI_le (by omega) (by omega)) _) vv_X10_within dX10_buy_6 wg_410 (hC.K0) rfl rfl rfl rfl (Nat.le_of_ble_eq_true rfl) (Nat.le_of_ble_eq_true rfl) (Nat.le_of_ble_eq_true rfl) (Nat.le_of_ble_eq_true rfl) ?_
  refine ww_aload_n dX10_buy_9 rfl rfl ?_
  refine ww_iload_n dX10_buy_10 rfl rfl ?_
  refine ww_iconst (v := nI 0) dX10_buy_11 (by decide) ?_
  refine ww_iconst (v := nI 1) dX10_buy_12 (by decide) ?_
  exact ww_cVt (M := m_X10_buy) (pc := 13) (st := []) (d := 7) (bc := 0) (bs := 0) (c_within_f hst hC.K0 hwr w (nI 0) (nI 1) hout) vv_X10_within dX10_buy_13 wg_410 (hC.K0) rfl rfl rfl rfl (Nat.le_of_ble_eq_true rfl) (Nat.le_of_ble_eq_true rfl) (Nat.le_of_ble_eq_true rfl) (Nat.le_of_ble_eq_true rfl) ⟨rfl, rfl⟩
set_option maxHeartbeats 4000000 in
set_option maxRecDepth 100000 in
theorem c_K_buy1 {l : Launch} {Z : EE} (hst : l.stackTraces = false) {h : PH} {la lw bk : Nat} (hC : CL h la lw bk) {np du : Nat} {f : Nat → Int32} (hL : LandAt h la np du f) {sz : Nat} {kf vf : Nat → Int32} (hW : LawAt h lw sz kf vf) (hok : LawOK kf vf sz) (hu : RowOK f np) {s : BKt} (hB : BookAt h bk s) (hg : BkG s) (c : Nat) (lc : 0 ≤ c) (hc : c ≤ 9999) : CC l Z m_X10_buy 5 0 0 [.ref 0, .int (nI c), .int (nI 1)] h (COk (nI (buS f (frN f sz kf vf) s c (2 ^ s.1)).1) h) := by
  refine ee_entry hst (by decide +kernel) rfl rfl (by simp [Value.category]) (Nat.le_of_ble_eq_true rfl) ?_
  refine ww_lv (lv2 := [.ref 0, .int (nI c), .int (nI 1), UU, UU, UU, UU]) rfl ?_
  have hla := hC.la
  have hlw := hC.lw
  have hbk := hC.bk
  refine ww_aload_n dX10_buy_0 rfl rfl ?_
  refine ww_iload_n dX10_buy_1 rfl rfl ?_
  refine ww_iconst (v := nI 0) dX10_buy_2 (by decide) ?_
  refine ww_sipush (v := nI 9999) dX10_buy_3 (by decide) ?_
  refine ww_cV0 (M := m_X10_buy) (pc := 6) (h1 := h) (st := []) (d := 5) (bc := 0) (bs := 0) (c_within_t hst (nI c) (nI 0) (nI 9999) (nI_le (by omega) (by omega)) (nI_le (by omega) (by omega)) _) vv_X10_within dX10_buy_6 wg_410 (hC.K0) rfl rfl rfl rfl (Nat.le_of_ble_eq_true rfl) (Nat.le_of_ble_eq_true rfl) (Nat.le_of_ble_eq_true rfl) (Nat.le_of_ble_eq_true rfl) ?_
  refine ww_aload_n dX10_buy_9 rfl rfl ?_
  refine ww_iload_n dX10_buy_10 rfl rfl ?_
  refine ww_iconst (v := nI 0) dX10_buy_11 (by decide) ?_
  refine ww_iconst (v := nI 1) dX10_buy_12 (by decide) ?_
  refine ww_cV0 (M := m_X10_buy) (pc := 13) (h1 := h) (st := []) (d := 5) (bc := 0) (bs := 0) (c_within_t hst (nI 1) (nI 0) (nI 1) (by decide) (by decide) _) vv_X10_within dX10_buy_13 wg_410 (hC.K0) rfl rfl rfl rfl (Nat.le_of_ble_eq_true rfl) (Nat.le_of_ble_eq_true rfl) (Nat.le_of_ble_eq_true rfl) (Nat.le_of_ble_eq_true rfl) ?_
  refine ww_aload_n dX10_buy_16 rfl rfl ?_
  refine ww_get 1 dX10_buy_17 (hC.K0) rfl (by decide) inX10 wg_265 hC.D1 ?_
  refine ww_aload_n dX10_buy_20 rfl rfl ?_
  refine ww_get 3 dX10_buy_21 (hC.K0) rfl (by decide) inX10 wg_267 hC.D3 ?_
  refine ww_iconst (v := nI 1) dX10_buy_24 (by decide) ?_
  refine ww_aload_n dX10_buy_25 rfl rfl ?_
  refine ww_get 14 dX10_buy_26 (hC.K0) rfl (by decide) inX10 wg_278 (hC.R0_14) ?_
  refine ww_cVq0 (M := m_X10_buy) (pc := 29) (st := []) (d := 5) (bc := 0) (bs := 0) (c_Land_faresBy hst hL hW hok (by omega) hC.K29 (by omega) 1 (by omega)) vv_X2_faresBy dX10_buy_29 wg_1013 hL.1 rfl rfl rfl rfl (Nat.le_of_ble_eq_true rfl) (Nat.le_of_ble_eq_true rfl) (Nat.le_of_ble_eq_true rfl) (Nat.le_of_ble_eq_true rfl) (fun hq1 qq1 => ?_)
  have s1 : Same CX CY h hq1 := qq1.1.mono (fun c hc => by rcases hC.lw with rfl | rfl <;> rcases hc with rfl | rfl | rfl <;> decide) (fun _ _ e => e.elim)
  have hC1 := hC.scr s1
  have hL1 := hL.scr hC s1
  have hW1 := hW.scr hC s1
  have hB1 := hB.scr hC s1
  have hfr1 : ∀ i, i < 61 → hp_I hq1 29 i = nI (frN f sz kf vf i) := fun i hi => by rw [qq1.2 i hi, fareC_n (by omega)]; rfl
  refine ww_iconst (v := nI 0) dX10_buy_32 (by decide) ?_
  refine ww_sti_n (lv2 := [.ref 0, .int (nI c), .int (nI 1), .int (nI 0), UU, UU, UU]) dX10_buy_33 rfl rfl (by decide) rfl ?_
  refine ww_iconst (v := nI 0) dX10_buy_34 (by decide) ?_
  refine ww_sti (lv2 := [.ref 0, .int (nI c), .int (nI 1), .int (nI 0), .int (nI 0), UU, UU]) dX10_buy_35 rfl (by decide) rfl ?_
  refine ww_iconst (v := nI 1) dX10_buy_37 (by decide) ?_
  refine ww_sti (lv2 := [.ref 0, .int (nI c), .int (nI 1), .int (nI 0), .int (nI 0), .int (nI 1), UU]) dX10_buy_38 rfl (by decide) rfl ?_
  refine ww_lv (lv2 := [.ref 0, .int (nI c), .int (nI 1), .int (nI ((buS f (frN f sz kf vf) s c 1).1)), .int (nI ((buS f (frN f sz kf vf) s c 1).2)), .int (nI 1), UU]) (by rw [buS_1]) ?_
  have hp1 := p2_pos s.1
  refine l_K_buy hst hC1 hL1 hu hB1 hg hfr1 c hc (nI 1) (2 ^ s.1 - 1) 1 (by omega) ?_
  refine ww_iload_n dX10_buy_106 rfl rfl ?_
  refine ww_if_neN (tgt := 115) dX10_buy_107 (by decide) (by omega) (fun c107 => ?_) (fun c107 => ?_)
  · refine ww_iload_n dX10_buy_115 rfl rfl ?_
    exact ww_iret dX10_buy_116 rfl ⟨rfl, s1⟩
  · exact absurd c107 (by decide)
