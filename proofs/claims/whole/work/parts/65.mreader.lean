/-! ===== the reference reads ===== -/
def mrS (h : PH) (m n a : Nat) (bd bk : Int32) (op : Nat) : PH := hp_sF (hp_sF (hp_sF (hp_sF (hp_sF h m 3 (.int (nI n))) m 4 (.int (nI a))) m 5 (.int bd)) m 6 (.int bk)) m 7 (.int (nI op))
theorem mrS_F (h : PH) (m n a : Nat) (bd bk : Int32) (op : Nat) (b j : Nat) : hp_F (mrS h m n a bd bk op) b j = if b = m ∧ j = 7 then .int (nI op) else if b = m ∧ j = 6 then .int bk else if b = m ∧ j = 5 then .int bd else if b = m ∧ j = 4 then .int (nI a) else if b = m ∧ j = 3 then .int (nI n) else hp_F h b j := rfl
theorem mrS_3 (h : PH) (m n a : Nat) (bd bk : Int32) (op : Nat) : hp_F (mrS h m n a bd bk op) m 3 = .int (nI n) := by rw [mrS_F, if_neg (by omega), if_neg (by omega), if_neg (by omega), if_neg (by omega), if_pos ⟨rfl, rfl⟩]
theorem mrS_4 (h : PH) (m n a : Nat) (bd bk : Int32) (op : Nat) : hp_F (mrS h m n a bd bk op) m 4 = .int (nI a) := by rw [mrS_F, if_neg (by omega), if_neg (by omega), if_neg (by omega), if_pos ⟨rfl, rfl⟩]
theorem mrS_5 (h : PH) (m n a : Nat) (bd bk : Int32) (op : Nat) : hp_F (mrS h m n a bd bk op) m 5 = .int bd := by rw [mrS_F, if_neg (by omega), if_neg (by omega), if_pos ⟨rfl, rfl⟩]
theorem mrS_6 (h : PH) (m n a : Nat) (bd bk : Int32) (op : Nat) : hp_F (mrS h m n a bd bk op) m 6 = .int bk := by rw [mrS_F, if_neg (by omega), if_pos ⟨rfl, rfl⟩]
theorem mrS_7 (h : PH) (m n a : Nat) (bd bk : Int32) (op : Nat) : hp_F (mrS h m n a bd bk op) m 7 = .int (nI op) := by rw [mrS_F, if_pos ⟨rfl, rfl⟩]
theorem mrS_j {h : PH} {m j : Nat} {v : Value} (n a : Nat) (bd bk : Int32) (op : Nat) (hj : j < 3 ∨ 7 < j) (e : hp_F h m j = v) : hp_F (mrS h m n a bd bk op) m j = v := by
  rw [mrS_F, if_neg (by omega), if_neg (by omega), if_neg (by omega), if_neg (by omega), if_neg (by omega)]; exact e
theorem mrS_o {h : PH} {m b j : Nat} {v : Value} (n a : Nat) (bd bk : Int32) (op : Nat) (hb : b ≠ m) (e : hp_F h b j = v) : hp_F (mrS h m n a bd bk op) b j = v := by
  rw [mrS_F, if_neg (by omega), if_neg (by omega), if_neg (by omega), if_neg (by omega), if_neg (by omega)]; exact e
theorem mrS_s4 (h : PH) (m n a : Nat) (bd bk : Int32) (op a2 : Nat) : hp_sF (mrS h m n a bd bk op) m 4 (.int (nI a2)) = mrS h m n a2 bd bk op := by
  refine hp_ext rfl (fun _ => rfl) (fun b j => ?_) (fun _ => rfl) (fun _ => rfl)
  show (if b = m ∧ j = 4 then _ else hp_F (mrS h m n a bd bk op) b j) = _
  rw [mrS_F, mrS_F]
  by_cases e : b = m ∧ j = 4
  · rw [if_pos e, if_neg (by omega), if_neg (by omega), if_neg (by omega), if_pos e]
  · rw [if_neg e, if_neg e, if_neg e]
theorem mrS_s7 (h : PH) (m n a : Nat) (bd bk : Int32) (op o2 : Nat) : hp_sF (mrS h m n a bd bk op) m 7 (.int (nI o2)) = mrS h m n a bd bk o2 := by
  refine hp_ext rfl (fun _ => rfl) (fun b j => ?_) (fun _ => rfl) (fun _ => rfl)
  show (if b = m ∧ j = 7 then _ else hp_F (mrS h m n a bd bk op) b j) = _
  rw [mrS_F, mrS_F]
  by_cases e : b = m ∧ j = 7
  · rw [if_pos e, if_pos e]
  · rw [if_neg e, if_neg e, if_neg e]
theorem mrS_s56 (h : PH) (m n a : Nat) (bd bk : Int32) (op : Nat) (b2 k2 : Int32) : hp_sF (hp_sF (mrS h m n a bd bk op) m 5 (.int b2)) m 6 (.int k2) = mrS h m n a b2 k2 op := by
  refine hp_ext rfl (fun _ => rfl) (fun b j => ?_) (fun _ => rfl) (fun _ => rfl)
  show (if b = m ∧ j = 6 then _ else if b = m ∧ j = 5 then _ else hp_F (mrS h m n a bd bk op) b j) = _
  rw [mrS_F, mrS_F]
  by_cases e6 : b = m ∧ j = 6
  · rw [if_pos e6, if_neg (by omega), if_pos e6]
  · rw [if_neg e6, if_neg e6, if_neg e6]
    by_cases e5 : b = m ∧ j = 5
    · rw [if_pos e5, if_neg (by omega), if_pos e5]
    · rw [if_neg e5, if_neg e5, if_neg e5]
theorem mrS_s4567 (h : PH) (m n a : Nat) (bd bk : Int32) (op a2 : Nat) (b2 k2 : Int32) (o2 : Nat) : mrS (mrS h m n a bd bk op) m n a2 b2 k2 o2 = mrS h m n a2 b2 k2 o2 := by
  refine hp_ext rfl (fun _ => rfl) (fun b j => ?_) (fun _ => rfl) (fun _ => rfl)
  rw [mrS_F, mrS_F, mrS_F]
  by_cases e7 : b = m ∧ j = 7
  · rw [if_pos e7, if_pos e7]
  · rw [if_neg e7, if_neg e7, if_neg e7]
    by_cases e6 : b = m ∧ j = 6
    · rw [if_pos e6, if_pos e6]
    · rw [if_neg e6, if_neg e6, if_neg e6]
      by_cases e5 : b = m ∧ j = 5
      · rw [if_pos e5, if_pos e5]
      · rw [if_neg e5, if_neg e5, if_neg e5]
        by_cases e4 : b = m ∧ j = 4
        · rw [if_pos e4, if_pos e4]
        · rw [if_neg e4, if_neg e4, if_neg e4]
          by_cases e3 : b = m ∧ j = 3
          · rw [if_pos e3, if_pos e3]
          · rw [if_neg e3, if_neg e3]
theorem mrS_M {h : PH} {m : Nat} (hM : ModS h m) (n a : Nat) (bd bk : Int32) (op : Nat) : ModS (mrS h m n a bd bk op) m := by
  unfold mrS
  exact ((((hM.sF (by decide)).sF (by decide)).sF (by decide)).sF (by decide)).sF (by decide)
def heI (T : Nat → Nat) (n a : Nat) : Nat := if a < n then T a else 0
theorem heI_in {T : Nat → Nat} {n a : Nat} (h : a < n) : heI T n a = T a := if_pos h
theorem heI_out {T : Nat → Nat} {n a : Nat} (h : ¬ a < n) : heI T n a = 0 := if_neg h
theorem heI_lt {T : Nat → Nat} {n a : Nat} (h : T a < 256) : heI T n a < 256 := by unfold heI; split <;> omega
theorem heI_ne {T : Nat → Nat} {n a c : Nat} (hc : 0 < c) (h : ¬ (a < n ∧ T a = c)) : ¬ heI T n a = c := by
  unfold heI
  split
  · rename_i hl; exact fun e => h ⟨hl, e⟩
  · omega
theorem heI_eq {T : Nat → Nat} {n a c : Nat} (hc : 0 < c) : heI T n a = c ↔ (a < n ∧ T a = c) := by
  unfold heI
  split
  · rename_i hl; exact ⟨fun e => ⟨hl, e⟩, fun e => e.2⟩
  · rename_i hl; exact ⟨fun e => by omega, fun e => absurd e.1 hl⟩
def mvV (T : Nat → Nat) (a : Nat) : Nat → Nat
  | 0 => 0
  | j + 1 => if 9999 < mvV T a j then 10000 else 10 * mvV T a j + (T (a + j) - 48)
theorem mvV_s1 {T : Nat → Nat} {a j : Nat} (h : 9999 < mvV T a j) : mvV T a (j + 1) = 10000 := if_pos h
theorem mvV_s2 {T : Nat → Nat} {a j : Nat} (h : mvV T a j ≤ 9999) : mvV T a (j + 1) = 10 * mvV T a j + (T (a + j) - 48) := if_neg (by omega)
theorem mvV_ok {T : Nat → Nat} (hT : ∀ i, T i < 256) (a : Nat) : ∀ j, (nmV T a j ≤ 9999 → mvV T a j = nmV T a j) ∧ (9999 < nmV T a j → 9999 < mvV T a j) ∧ mvV T a j < 200000
  | 0 => ⟨fun _ => rfl, fun h => absurd h (by show ¬ 9999 < 0; omega), by show (0 : Nat) < 200000; omega⟩
  | j + 1 => by
    obtain ⟨h1, h2, h3⟩ := mvV_ok hT a j
    have h4 := hT (a + j)
    have h5 : nmV T a (j + 1) = 10 * nmV T a j + (T (a + j) - 48) := rfl
    by_cases hc : 9999 < mvV T a j
    · rw [mvV_s1 hc]
      refine ⟨fun h => ?_, fun _ => by omega, by omega⟩
      by_cases h6 : nmV T a j ≤ 9999
      · have h7 := h1 h6; omega
      · omega
    · rw [mvV_s2 (by omega)]
      have h6 : nmV T a j ≤ 9999 := by
        rcases Nat.lt_or_ge 9999 (nmV T a j) with e | e
        · have h7 := h2 e; omega
        · exact e
      have h7 := h1 h6
      exact ⟨fun h => by omega, fun h => by omega, by omega⟩
/-! words as numbers -/
def pkW (T : Nat → Nat) (a : Nat) : Nat → Nat
  | 0 => 0
  | j + 1 => 32 * pkW T a j + (T (a + j) - 96)
def pkL : List Nat → Nat → Nat
  | [], v => v
  | c :: w, v => pkL w (32 * v + (c - 96))
def wdM (T : Nat → Nat) (a e : Nat) : Nat := if 6 < e - a then 0 else pkW T a (e - a)
def pkX (i : Nat) : Nat → Nat
  | 0 => 0
  | j + 1 => 32 * pkX i j + (tcN i j - 96)
def ofN (i : Nat) : Nat := pkX i (tcL i)
theorem pkW_lt {T : Nat → Nat} {a : Nat} : ∀ j, (∀ i, i < j → T (a + i) ≤ 122) → pkW T a j < 32 ^ j
  | 0, _ => by show (0 : Nat) < 32 ^ 0; decide
  | j + 1, h => by
    have h1 := pkW_lt j (fun i hi => h i (by omega))
    have h2 := h j (by omega)
    show 32 * pkW T a j + (T (a + j) - 96) < 32 ^ (j + 1)
    rw [Nat.pow_succ]; omega
theorem pow32 {j : Nat} (h : j ≤ 6) : (32 : Nat) ^ j ≤ 1073741824 := Nat.le_trans (Nat.pow_le_pow_right (by decide) h) (by decide)
theorem pkW_sm {T : Nat → Nat} {a j : Nat} (h : ∀ i, i < j → T (a + i) ≤ 122) (hj : j ≤ 6) : pkW T a j < 1073741824 := Nat.lt_of_lt_of_le (pkW_lt j h) (pow32 hj)
theorem shor {v c : Nat} (hv : v < 33554432) (hc : c < 32) : (nI v <<< (nI 5 &&& 31)) ||| nI c = nI (32 * v + c) := by
  rw [pk_shlN _ 5 (by decide) (by omega)]
  apply Int32.toBitVec_inj.mp
  rw [Int32.toBitVec_or]
  apply BitVec.eq_of_toNat_eq
  rw [BitVec.toNat_or, pk_tn (by omega), pk_tn (by omega), pk_tn (by omega)]
  have h9 := Nat.two_pow_add_eq_or_of_lt (i := 5) (b := c) (by omega) v
  rw [show v * 2 ^ 5 = 2 ^ 5 * v by omega, ← h9]
theorem pkW_inj {T U : Nat → Nat} {a b : Nat} : ∀ (j k : Nat), (∀ i, i < j → 97 ≤ T (a + i) ∧ T (a + i) ≤ 122) → (∀ i, i < k → 97 ≤ U (b + i) ∧ U (b + i) ≤ 122) → pkW T a j = pkW U b k → j = k ∧ ∀ i, i < j → T (a + i) = U (b + i)
  | 0, 0, _, _, _ => ⟨rfl, fun i hi => absurd hi (by omega)⟩
  | 0, k + 1, _, h2, e => by
    have h3 := h2 k (by omega)
    have e2 : 0 = 32 * pkW U b k + (U (b + k) - 96) := e
    omega
  | j + 1, 0, h1, _, e => by
    have h3 := h1 j (by omega)
    have e2 : 32 * pkW T a j + (T (a + j) - 96) = 0 := e
    omega
  | j + 1, k + 1, h1, h2, e => by
    have h3 := h1 j (by omega)
    have h4 := h2 k (by omega)
    have e2 : 32 * pkW T a j + (T (a + j) - 96) = 32 * pkW U b k + (U (b + k) - 96) := e
    obtain ⟨g1, g2⟩ := pkW_inj j k (fun i hi => h1 i (by omega)) (fun i hi => h2 i (by omega)) (by omega)
    subst g1
    refine ⟨rfl, fun i hi => ?_⟩
    rcases Nat.lt_or_ge i j with q | q
    · exact g2 i q
    · have : i = j := by omega
      subst this
      omega
theorem pkX_W (i : Nat) : ∀ j, pkX i j = pkW (fun k => tcN i k) 0 j
  | 0 => rfl
  | j + 1 => by
    show 32 * pkX i j + _ = 32 * pkW (fun k => tcN i k) 0 j + (tcN i (0 + j) - 96)
    rw [pkX_W i j, Nat.zero_add]
theorem maB_iff {T : Nat → Nat} : ∀ (i f c a : Nat), maB (txw i f c) T a = true ↔ ∀ k, k < c → T (a + k) = tcN i (f + k)
  | i, f, 0, a => ⟨fun _ k hk => absurd hk (by omega), fun _ => rfl⟩
  | i, f, c + 1, a => by
    show (T a == tcN i f && maB (txw i (f + 1) c) T (a + 1)) = true ↔ _
    rw [Bool.and_eq_true, beq_iff_eq, maB_iff i (f + 1) c (a + 1)]
    constructor
    · rintro ⟨h1, h2⟩ k hk
      cases k with
      | zero => exact h1
      | succ k =>
        have h3 := h2 k (by omega)
        rw [show a + (k + 1) = a + 1 + k by omega, show f + (k + 1) = f + 1 + k by omega]; exact h3
    · intro h
      refine ⟨h 0 (by omega), fun k hk => ?_⟩
      have h3 := h (k + 1) (by omega)
      rw [show a + 1 + k = a + (k + 1) by omega, show f + 1 + k = f + (k + 1) by omega]; exact h3
theorem txw_len (i : Nat) : ∀ c f, (txw i f c).length = c
  | 0, _ => rfl
  | c + 1, f => by show (txw i (f + 1) c).length + 1 = c + 1; rw [txw_len i c (f + 1)]
theorem tx_let : ∀ (i : Fin 21) (j : Fin 48), 6 ≤ i.val → j.val < tcL i.val → 97 ≤ tcN i.val j.val ∧ tcN i.val j.val ≤ 122 := by decide +kernel
theorem tx_six : ∀ (i : Fin 21), 6 ≤ i.val → tcL i.val ≤ 6 ∧ 0 < tcL i.val := by decide +kernel
/-- the word of text i -/
def wx (i : Nat) : List Nat := txw i 0 (tcL i)
theorem wd_eq {T : Nat → Nat} {a e i : Nat} (h6 : 6 ≤ i) (h21 : i < 21) (hae : a ≤ e) (hl : ∀ k, a ≤ k → k < e → 97 ≤ T k ∧ T k ≤ 122) : wdM T a e = ofN i ↔ eqW (wx i) T a e = true := by
  have ht := tx_six ⟨i, h21⟩ h6
  have ht1 : tcL i ≤ 6 := ht.1
  have ht2 : 0 < tcL i := ht.2
  have hx : ∀ k, k < tcL i → 97 ≤ tcN i (0 + k) ∧ tcN i (0 + k) ≤ 122 := fun k hk => by rw [Nat.zero_add]; exact tx_let ⟨i, h21⟩ ⟨k, by omega⟩ h6 hk
  have hT : ∀ k, k < e - a → 97 ≤ T (a + k) ∧ T (a + k) ≤ 122 := fun k hk => hl (a + k) (by omega) (by omega)
  have hpos : 0 < ofN i := by
    unfold ofN
    obtain ⟨q, hq⟩ : ∃ q, tcL i = q + 1 := ⟨tcL i - 1, by omega⟩
    rw [hq]
    have h9 := hx q (by omega)
    rw [Nat.zero_add] at h9
    show 0 < 32 * pkX i q + (tcN i q - 96)
    omega
  unfold eqW wx
  rw [Bool.and_eq_true, beq_iff_eq, txw_len, maB_iff]
  constructor
  · intro h
    unfold wdM at h
    split at h
    · omega
    · unfold ofN at h
      rw [pkX_W] at h
      obtain ⟨g1, g2⟩ := pkW_inj (e - a) (tcL i) hT hx h
      exact ⟨by omega, fun k hk => g2 k (by omega)⟩
  · rintro ⟨h1, h2⟩
    have h3 : e - a = tcL i := by omega
    unfold wdM
    rw [if_neg (by omega), h3]
    unfold ofN
    rw [pkX_W]
    have : ∀ j, j ≤ tcL i → pkW T a j = pkW (fun k => tcN i k) 0 j := by
      intro j
      induction j with
      | zero => intro _; rfl
      | succ j ih =>
        intro hj
        show 32 * pkW T a j + (T (a + j) - 96) = 32 * pkW (fun k => tcN i k) 0 j + (tcN i (0 + j) - 96)
        rw [ih (by omega), h2 j (by omega)]
    exact this _ (Nat.le_refl _)
def fdM (w : Nat) : List Nat → Nat → Option Nat
  | [], _ => none
  | i :: is, k => if w = ofN i then some k else fdM w is (k + 1)
theorem fdW_M {T : Nat → Nat} {a e : Nat} (hae : a ≤ e) (hl : ∀ k, a ≤ k → k < e → 97 ≤ T k ∧ T k ≤ 122) : ∀ (is : List Nat) (k : Nat), (∀ i ∈ is, 6 ≤ i ∧ i < 21) → fdW T a e (is.map wx) k = fdM (wdM T a e) is k
  | [], k, _ => rfl
  | i :: is, k, h => by
    have hi := h i List.mem_cons_self
    show (if eqW (wx i) T a e = true then some k else fdW T a e (is.map wx) (k + 1)) = if wdM T a e = ofN i then some k else fdM (wdM T a e) is (k + 1)
    rw [fdW_M hae hl is (k + 1) (fun j hj => h j (List.mem_cons_of_mem _ hj))]
    by_cases hc : wdM T a e = ofN i
    · rw [if_pos hc, if_pos ((wd_eq hi.1 hi.2 hae hl).mp hc)]
    · rw [if_neg hc, if_neg (fun q => hc ((wd_eq hi.1 hi.2 hae hl).mpr q))]
theorem wLand_x : wLand = [6, 7, 8].map wx := by decide +kernel
theorem wLaw_x : wLaw = [11, 12, 13, 14, 15, 16, 17, 9, 10].map wx := by decide +kernel
theorem wWork_x : wWork = [18, 19, 12, 17, 20].map wx := by decide +kernel
theorem sc_let {T : Nat → Nat} {n a : Nat} (ha : a ≤ n) : ∀ k, a ≤ k → k < sc (leB T) n a → 97 ≤ T k ∧ T k ≤ 122 := fun k h1 h2 => leB_t.mp (sc_in ha h1 h2)
/-- the word that stands behind a's blanks -/
def wdA (T : Nat → Nat) (n a : Nat) : Nat := wdM T (sk T n a) (sc (leB T) n (sk T n a))
theorem wrdS_M {T : Nat → Nat} {n a : Nat} (ha : a ≤ n) {W : List (List Nat)} {is : List Nat} (hW : W = is.map wx) (his : ∀ i ∈ is, 6 ≤ i ∧ i < 21) : wrdS W T n a = match fdM (wdA T n a) is 0 with
  | none => .inl (1, sk T n a)
  | some k => .inr (sc (leB T) n (sk T n a), k) := by
  have hs := sk_le (T := T) ha
  unfold wrdS wdA
  rw [hW, fdW_M (sc_ge hs) (sc_let hs) is 0 his]
  cases fdM (wdM T (sk T n a) (sc (leB T) n (sk T n a))) is 0 <;> rfl
set_option maxHeartbeats 4000000 in
set_option maxRecDepth 100000 in
theorem c_MR_fine_t {l : Launch} {Z : EE} (hst : l.stackTraces = false) {h : PH} {m : Nat} (hM : ModS h m) {tf : Nat → Int32} (htf : hp_I h (m + 2) = tf) {T : Nat → Nat} (hB : BT tf T) {n : Nat} (hn : n ≤ 600) (a : Nat) (bk : Int32) (op : Nat) : CC l Z m_X11_fine 0 0 0 [.ref m] (mrS h m n a (-1) bk op) (RT (some (.int (nI 1))) (mrS h m n a (-1) bk op)) := by
  refine ee_entry hst (by decide +kernel) rfl rfl (by simp [Value.category]) (Nat.le_of_ble_eq_true rfl) ?_
  refine ww_lv (lv2 := [.ref m]) rfl ?_
  refine ww_aload_n dX11_fine_0 rfl rfl ?_
  refine ww_get 5 dX11_fine_1 hM.K0 rfl (by decide) inX11 wg_1245 (mrS_5 _ _ _ _ _ _ _) ?_
  refine ww_iconst (v := -1) dX11_fine_4 (by decide) ?_
  refine ww_icmp_ne (tgt := 12) dX11_fine_5 (by decide) (fun c5 => ?_) (fun c5 => ?_)
  · exact absurd rfl c5
  · refine ww_iconst (v := nI 1) dX11_fine_8 (by decide) ?_
    refine ww_goto (tgt := 13) dX11_fine_9 (by decide) ?_
    exact ww_zret dX11_fine_13 rfl (by first | rfl | exact nar_bI _) ⟨rfl, rfl⟩
set_option maxHeartbeats 4000000 in
set_option maxRecDepth 100000 in
theorem c_MR_fine_f {l : Launch} {Z : EE} (hst : l.stackTraces = false) {h : PH} {m : Nat} (hM : ModS h m) {tf : Nat → Int32} (htf : hp_I h (m + 2) = tf) {T : Nat → Nat} (hB : BT tf T) {n : Nat} (hn : n ≤ 600) (a : Nat) (bk : Int32) (op : Nat) (q : Nat) (hq : q < 2 ^ 31) : CC l Z m_X11_fine 0 0 0 [.ref m] (mrS h m n a (nI q) bk op) (RT (some (.int (nI 0))) (mrS h m n a (nI q) bk op)) := by
  refine ee_entry hst (by decide +kernel) rfl rfl (by simp [Value.category]) (Nat.le_of_ble_eq_true rfl) ?_
  refine ww_lv (lv2 := [.ref m]) rfl ?_
  refine ww_aload_n dX11_fine_0 rfl rfl ?_
  refine ww_get 5 dX11_fine_1 hM.K0 rfl (by decide) inX11 wg_1245 (mrS_5 _ _ _ _ _ _ _) ?_
  refine ww_iconst (v := -1) dX11_fine_4 (by decide) ?_
  refine ww_icmp_ne (tgt := 12) dX11_fine_5 (by decide) (fun c5 => ?_) (fun c5 => ?_)
  · refine ww_iconst (v := nI 0) dX11_fine_12 (by decide) ?_
    exact ww_zret dX11_fine_13 rfl (by first | rfl | exact nar_bI _) ⟨rfl, rfl⟩
  · exact absurd c5 (nI_m1 hq)
set_option maxHeartbeats 4000000 in
set_option maxRecDepth 100000 in
theorem c_MR_wrong_t {l : Launch} {Z : EE} (hst : l.stackTraces = false) {h : PH} {m : Nat} (hM : ModS h m) {tf : Nat → Int32} (htf : hp_I h (m + 2) = tf) {T : Nat → Nat} (hB : BT tf T) {n : Nat} (hn : n ≤ 600) (a : Nat) (bk : Int32) (op : Nat) (k w : Int32) : CC l Z m_X11_wrong 0 0 0 [.ref m, .int k, .int w] (mrS h m n a (-1) bk op) (RT none (mrS h m n a w k op)) := by
  refine ee_entry hst (by decide +kernel) rfl rfl (by simp [Value.category]) (Nat.le_of_ble_eq_true rfl) ?_
  refine ww_lv (lv2 := [.ref m, .int k, .int w]) rfl ?_
  refine ww_aload_n dX11_wrong_0 rfl rfl ?_
  refine ww_get 5 dX11_wrong_1 hM.K0 rfl (by decide) inX11 wg_1245 (mrS_5 _ _ _ _ _ _ _) ?_
  refine ww_iconst (v := -1) dX11_wrong_4 (by decide) ?_
  refine ww_icmp_eq (tgt := 9) dX11_wrong_5 (by decide) (fun c5 => ?_) (fun c5 => ?_)
  · refine ww_aload_n dX11_wrong_9 rfl rfl ?_
    refine ww_iload_n dX11_wrong_10 rfl rfl ?_
    refine ww_pfI tyX11 5 dX11_wrong_11 hM.K0 rfl (by decide) inX11 tyX11_ok nmX11 wg_1245 rfl rfl ?_
    refine ww_aload_n dX11_wrong_14 rfl rfl ?_
    refine ww_iload_n dX11_wrong_15 rfl rfl ?_
    refine ww_pfI tyX11 6 dX11_wrong_16 hM.K0 rfl (by decide) inX11 tyX11_ok nmX11 wg_1246 rfl rfl ?_
    exact ww_vret dX11_wrong_19 rfl ⟨rfl, mrS_s56 h m n a (-1) bk op w k⟩
  · exact absurd rfl c5
set_option maxHeartbeats 4000000 in
set_option maxRecDepth 100000 in
theorem c_MR_wrong_f {l : Launch} {Z : EE} (hst : l.stackTraces = false) {h : PH} {m : Nat} (hM : ModS h m) {tf : Nat → Int32} (htf : hp_I h (m + 2) = tf) {T : Nat → Nat} (hB : BT tf T) {n : Nat} (hn : n ≤ 600) (a : Nat) (bk : Int32) (op : Nat) (q : Nat) (hq : q < 2 ^ 31) (k w : Int32) : CC l Z m_X11_wrong 0 0 0 [.ref m, .int k, .int w] (mrS h m n a (nI q) bk op) (RT none (mrS h m n a (nI q) bk op)) := by
  refine ee_entry hst (by decide +kernel) rfl rfl (by simp [Value.category]) (Nat.le_of_ble_eq_true rfl) ?_
  refine ww_lv (lv2 := [.ref m, .int k, .int w]) rfl ?_
  refine ww_aload_n dX11_wrong_0 rfl rfl ?_
  refine ww_get 5 dX11_wrong_1 hM.K0 rfl (by decide) inX11 wg_1245 (mrS_5 _ _ _ _ _ _ _) ?_
  refine ww_iconst (v := -1) dX11_wrong_4 (by decide) ?_
  refine ww_icmp_eq (tgt := 9) dX11_wrong_5 (by decide) (fun c5 => ?_) (fun c5 => ?_)
  · exact absurd c5 (nI_m1 hq)
  · exact ww_vret dX11_wrong_8 rfl ⟨rfl, rfl⟩
def smC (x : Nat) : Bool := decide (97 ≤ x) && decide (x ≤ 122)
set_option maxHeartbeats 4000000 in
set_option maxRecDepth 100000 in
theorem c_MR_sm {l : Launch} {Z : EE} (hst : l.stackTraces = false) (x : Nat) (hx : x < 256) (h : PH) : CC l Z m_X11_isSmall 0 0 0 [.int (nI x)] h (RT (some (.int (bI (smC x)))) h) := by
  refine ee_entry hst (by decide +kernel) rfl rfl (by simp [Value.category]) (Nat.le_of_ble_eq_true rfl) ?_
  refine ww_lv (lv2 := [.int (nI x)]) rfl ?_
  refine ww_iload_n dX11_isSmall_0 rfl rfl ?_
  refine ww_bipush (v := nI 97) dX11_isSmall_1 (by decide) ?_
  refine ww_icmp_ltN (tgt := 16) dX11_isSmall_3 (by decide) (by omega) (by omega) (fun c3 => ?_) (fun c3 => ?_)
  · refine ww_iconst (v := nI 0) dX11_isSmall_16 (by decide) ?_
    exact ww_zret dX11_isSmall_17 rfl (by first | rfl | exact nar_bI _) ⟨by unfold smC; first | (rw [decide_eq_true (by omega : 97 ≤ x), decide_eq_true (by omega : x ≤ 122)]; rfl) | (rw [decide_eq_false (by omega : ¬ 97 ≤ x)]; rfl) | (rw [decide_eq_false (by omega : ¬ x ≤ 122), Bool.and_false]; rfl), rfl⟩
  · refine ww_iload_n dX11_isSmall_6 rfl rfl ?_
    refine ww_bipush (v := nI 122) dX11_isSmall_7 (by decide) ?_
    refine ww_icmp_gtN (tgt := 16) dX11_isSmall_9 (by decide) (by omega) (by omega) (fun c9 => ?_) (fun c9 => ?_)
    · refine ww_iconst (v := nI 0) dX11_isSmall_16 (by decide) ?_
      exact ww_zret dX11_isSmall_17 rfl (by first | rfl | exact nar_bI _) ⟨by unfold smC; first | (rw [decide_eq_true (by omega : 97 ≤ x), decide_eq_true (by omega : x ≤ 122)]; rfl) | (rw [decide_eq_false (by omega : ¬ 97 ≤ x)]; rfl) | (rw [decide_eq_false (by omega : ¬ x ≤ 122), Bool.and_false]; rfl), rfl⟩
    · refine ww_iconst (v := nI 1) dX11_isSmall_12 (by decide) ?_
      refine ww_goto (tgt := 17) dX11_isSmall_13 (by decide) ?_
      exact ww_zret dX11_isSmall_17 rfl (by first | rfl | exact nar_bI _) ⟨by unfold smC; first | (rw [decide_eq_true (by omega : 97 ≤ x), decide_eq_true (by omega : x ≤ 122)]; rfl) | (rw [decide_eq_false (by omega : ¬ 97 ≤ x)]; rfl) | (rw [decide_eq_false (by omega : ¬ x ≤ 122), Bool.and_false]; rfl), rfl⟩
def dgC (x : Nat) : Bool := decide (48 ≤ x) && decide (x ≤ 57)
set_option maxHeartbeats 4000000 in
set_option maxRecDepth 100000 in
theorem c_MR_dg {l : Launch} {Z : EE} (hst : l.stackTraces = false) (x : Nat) (hx : x < 256) (h : PH) : CC l Z m_X11_isDigit 0 0 0 [.int (nI x)] h (RT (some (.int (bI (dgC x)))) h) := by
  refine ee_entry hst (by decide +kernel) rfl rfl (by simp [Value.category]) (Nat.le_of_ble_eq_true rfl) ?_
  refine ww_lv (lv2 := [.int (nI x)]) rfl ?_
  refine ww_iload_n dX11_isDigit_0 rfl rfl ?_
  refine ww_bipush (v := nI 48) dX11_isDigit_1 (by decide) ?_
  refine ww_icmp_ltN (tgt := 16) dX11_isDigit_3 (by decide) (by omega) (by omega) (fun c3 => ?_) (fun c3 => ?_)
  · refine ww_iconst (v := nI 0) dX11_isDigit_16 (by decide) ?_
    exact ww_zret dX11_isDigit_17 rfl (by first | rfl | exact nar_bI _) ⟨by unfold dgC; first | (rw [decide_eq_true (by omega : 48 ≤ x), decide_eq_true (by omega : x ≤ 57)]; rfl) | (rw [decide_eq_false (by omega : ¬ 48 ≤ x)]; rfl) | (rw [decide_eq_false (by omega : ¬ x ≤ 57), Bool.and_false]; rfl), rfl⟩
  · refine ww_iload_n dX11_isDigit_6 rfl rfl ?_
    refine ww_bipush (v := nI 57) dX11_isDigit_7 (by decide) ?_
    refine ww_icmp_gtN (tgt := 16) dX11_isDigit_9 (by decide) (by omega) (by omega) (fun c9 => ?_) (fun c9 => ?_)
    · refine ww_iconst (v := nI 0) dX11_isDigit_16 (by decide) ?_
      exact ww_zret dX11_isDigit_17 rfl (by first | rfl | exact nar_bI _) ⟨by unfold dgC; first | (rw [decide_eq_true (by omega : 48 ≤ x), decide_eq_true (by omega : x ≤ 57)]; rfl) | (rw [decide_eq_false (by omega : ¬ 48 ≤ x)]; rfl) | (rw [decide_eq_false (by omega : ¬ x ≤ 57), Bool.and_false]; rfl), rfl⟩
    · refine ww_iconst (v := nI 1) dX11_isDigit_12 (by decide) ?_
      refine ww_goto (tgt := 17) dX11_isDigit_13 (by decide) ?_
      exact ww_zret dX11_isDigit_17 rfl (by first | rfl | exact nar_bI _) ⟨by unfold dgC; first | (rw [decide_eq_true (by omega : 48 ≤ x), decide_eq_true (by omega : x ≤ 57)]; rfl) | (rw [decide_eq_false (by omega : ¬ 48 ≤ x)]; rfl) | (rw [decide_eq_false (by omega : ¬ x ≤ 57), Bool.and_false]; rfl), rfl⟩
set_option maxHeartbeats 4000000 in
set_option maxRecDepth 100000 in
theorem l_MR_here {l : Launch} {Z : EE} (hst : l.stackTraces = false) {h : PH} {m : Nat} (hM : ModS h m) {tf : Nat → Int32} (htf : hp_I h (m + 2) = tf) {T : Nat → Nat} (hB : BT tf T) {n : Nat} (hn : n ≤ 600) (bd bk : Int32) (op : Nat) : ∀ (j a : Nat), a + j = n → WW l Z m_X11_here 0 0 0 0 [.ref m] [] (mrS h m n a bd bk op) (RT (some (.int (nI (heI T n (sk T n a))))) (mrS h m n (sk T n a) bd bk op)) := by
  intro j
  induction j with
  | zero =>
    intro a ha
    have ha0 : a = n := by omega
    subst ha0
    rw [sk_n]
    refine ww_aload_n dX11_here_0 rfl rfl ?_
    refine ww_get 4 dX11_here_1 hM.K0 rfl (by decide) inX11 wg_1244 (mrS_4 _ _ _ _ _ _ _) ?_
    refine ww_aload_n dX11_here_4 rfl rfl ?_
    refine ww_get 3 dX11_here_5 hM.K0 rfl (by decide) inX11 wg_1243 (mrS_3 _ _ _ _ _ _ _) ?_
    refine ww_icmp_geN (tgt := 38) dX11_here_8 (by decide) (by omega) (by omega) (fun c8 => ?_) (fun c8 => ?_)
    · refine ww_aload_n dX11_here_38 rfl rfl ?_
      refine ww_get 4 dX11_here_39 hM.K0 rfl (by decide) inX11 wg_1244 (mrS_4 _ _ _ _ _ _ _) ?_
      refine ww_aload_n dX11_here_42 rfl rfl ?_
      refine ww_get 3 dX11_here_43 hM.K0 rfl (by decide) inX11 wg_1243 (mrS_3 _ _ _ _ _ _ _) ?_
      refine ww_icmp_geN (tgt := 61) dX11_here_46 (by decide) (by omega) (by omega) (fun c46 => ?_) (fun c46 => ?_)
      · refine ww_iconst (v := nI 0) dX11_here_61 (by decide) ?_
        exact ww_iret dX11_here_62 rfl ⟨by rw [heI_out (by omega)], rfl⟩
      · exfalso; omega
    · exfalso; omega
  | succ j ih =>
    intro a ha
    have hTa := (hB a).2
    refine ww_aload_n dX11_here_0 rfl rfl ?_
    refine ww_get 4 dX11_here_1 hM.K0 rfl (by decide) inX11 wg_1244 (mrS_4 _ _ _ _ _ _ _) ?_
    refine ww_aload_n dX11_here_4 rfl rfl ?_
    refine ww_get 3 dX11_here_5 hM.K0 rfl (by decide) inX11 wg_1243 (mrS_3 _ _ _ _ _ _ _) ?_
    refine ww_icmp_geN (tgt := 38) dX11_here_8 (by decide) (by omega) (by omega) (fun c8 => ?_) (fun c8 => ?_)
    · exfalso; omega
    · refine ww_aload_n dX11_here_11 rfl rfl ?_
      refine ww_get 9 dX11_here_12 hM.K0 rfl (by decide) inX11 wg_1249 (mrS_j _ _ _ _ _ (by decide) hM.F2) ?_
      refine ww_aload_n dX11_here_15 rfl rfl ?_
      refine ww_get 4 dX11_here_16 hM.K0 rfl (by decide) inX11 wg_1244 (mrS_4 _ _ _ _ _ _ _) ?_
      refine ww_ialdF dX11_here_19 hM.K2 htf (by omega) (by omega) ?_
      have hT20 := (hB a).2
      refine ww_sk (st2 := [.int (nI (T a))]) (by rw [(hB a).1]) ?_
      refine ww_bipush (v := nI 32) dX11_here_20 (by decide) ?_
      refine ww_icmp_neN (tgt := 38) dX11_here_22 (by decide) (by omega) (by omega) (fun c22 => ?_) (fun c22 => ?_)
      · rw [sk_no (fun e => c22 e.2)]
        refine ww_aload_n dX11_here_38 rfl rfl ?_
        refine ww_get 4 dX11_here_39 hM.K0 rfl (by decide) inX11 wg_1244 (mrS_4 _ _ _ _ _ _ _) ?_
        refine ww_aload_n dX11_here_42 rfl rfl ?_
        refine ww_get 3 dX11_here_43 hM.K0 rfl (by decide) inX11 wg_1243 (mrS_3 _ _ _ _ _ _ _) ?_
        refine ww_icmp_geN (tgt := 61) dX11_here_46 (by decide) (by omega) (by omega) (fun c46 => ?_) (fun c46 => ?_)
        · exfalso; omega
        · refine ww_aload_n dX11_here_49 rfl rfl ?_
          refine ww_get 9 dX11_here_50 hM.K0 rfl (by decide) inX11 wg_1249 (mrS_j _ _ _ _ _ (by decide) hM.F2) ?_
          refine ww_aload_n dX11_here_53 rfl rfl ?_
          refine ww_get 4 dX11_here_54 hM.K0 rfl (by decide) inX11 wg_1244 (mrS_4 _ _ _ _ _ _ _) ?_
          refine ww_ialdF dX11_here_57 hM.K2 htf (by omega) (by omega) ?_
          have hT58 := (hB a).2
          refine ww_sk (st2 := [.int (nI (T a))]) (by rw [(hB a).1]) ?_
          refine ww_goto (tgt := 62) dX11_here_58 (by decide) ?_
          exact ww_iret dX11_here_62 rfl ⟨by rw [heI_in (by omega)], rfl⟩
      · refine ww_aload_n dX11_here_25 rfl rfl ?_
        refine ww_dup dX11_here_26 rfl ?_
        refine ww_get 4 dX11_here_27 hM.K0 rfl (by decide) inX11 wg_1244 (mrS_4 _ _ _ _ _ _ _) ?_
        refine ww_iconst (v := nI 1) dX11_here_30 (by decide) ?_
        refine ww_iaddN dX11_here_31 ?_
        refine ww_pfI tyX11 4 dX11_here_32 hM.K0 rfl (by decide) inX11 tyX11_ok nmX11 wg_1244 rfl rfl ?_
        refine ww_goto (tgt := 0) dX11_here_35 (by decide) ?_
        rw [sk_bl (by omega) c22]
        refine ww_hp (mrS_s4 h m n a bd bk op (a + 1)) ?_
        exact ih (a + 1) (by omega)
set_option maxHeartbeats 4000000 in
set_option maxRecDepth 100000 in
theorem c_MR_here {l : Launch} {Z : EE} (hst : l.stackTraces = false) {h : PH} {m : Nat} (hM : ModS h m) {tf : Nat → Int32} (htf : hp_I h (m + 2) = tf) {T : Nat → Nat} (hB : BT tf T) {n : Nat} (hn : n ≤ 600) (bd bk : Int32) (op : Nat) (a : Nat) (ha : a ≤ n) : CC l Z m_X11_here 0 0 0 [.ref m] (mrS h m n a bd bk op) (RT (some (.int (nI (heI T n (sk T n a))))) (mrS h m n (sk T n a) bd bk op)) := by
  refine ee_entry hst (by decide +kernel) rfl rfl (by simp [Value.category]) (Nat.le_of_ble_eq_true rfl) ?_
  refine ww_lv (lv2 := [.ref m]) rfl ?_
  exact l_MR_here hst hM htf hB hn bd bk op (n - a) a (by omega)
set_option maxHeartbeats 4000000 in
set_option maxRecDepth 100000 in
theorem c_MR_sign_r {l : Launch} {Z : EE} (hst : l.stackTraces = false) {h : PH} {m : Nat} (hM : ModS h m) {tf : Nat → Int32} (htf : hp_I h (m + 2) = tf) {T : Nat → Nat} (hB : BT tf T) {n : Nat} (hn : n ≤ 600) (a : Nat) (bk : Int32) (op : Nat) (ha : a ≤ n) (c : Nat) (hc0 : 0 < c) (hc : c < 256) {b : Nat} {u : Unit} (hr : sgnS T n c a = .inr (b, u)) : CC l Z m_X11_sign 1 0 0 [.ref m, .int (nI c)] (mrS h m n a (-1) bk op) (RT none (mrS h m n b (-1) bk op)) := by
  refine ee_entry hst (by decide +kernel) rfl rfl (by simp [Value.category]) (Nat.le_of_ble_eq_true rfl) ?_
  refine ww_lv (lv2 := [.ref m, .int (nI c)]) rfl ?_
  have hs1 := sk_le (T := T) ha
  have hs2 := sk_ge (T := T) ha
  obtain ⟨hb0, hb1, hb2⟩ := sgnS_r hr
  subst hb0
  have hhe := heI_in (T := T) hb1
  have hTs := (hB (sk T n a)).2
  refine ww_aload_n dX11_sign_0 rfl rfl ?_
  refine ww_cVr (M := m_X11_sign) (pc := 1) (v := .int (nI 1)) (h1 := mrS h m n a (-1) bk op) (st := []) (d := 1) (bc := 0) (bs := 0) (c_MR_fine_t hst hM htf hB hn a bk op) vv_X11_fine dX11_sign_1 wg_1421 hM.K0 rfl rfl rfl rfl (Nat.le_of_ble_eq_true rfl) (Nat.le_of_ble_eq_true rfl) (Nat.le_of_ble_eq_true rfl) (Nat.le_of_ble_eq_true rfl) ?_
  refine ww_if_eqN (tgt := 24) dX11_sign_4 (by decide) (by omega) (fun c4 => ?_) (fun c4 => ?_)
  · exact absurd c4 (by decide)
  · refine ww_aload_n dX11_sign_7 rfl rfl ?_
    refine ww_cVr (M := m_X11_sign) (pc := 8) (v := .int (nI (heI T n (sk T n a)))) (h1 := mrS h m n (sk T n a) (-1) bk op) (st := []) (d := 1) (bc := 0) (bs := 0) (c_MR_here hst hM htf hB hn (-1) bk op a (by omega)) vv_X11_here dX11_sign_8 wg_1429 hM.K0 rfl rfl rfl rfl (Nat.le_of_ble_eq_true rfl) (Nat.le_of_ble_eq_true rfl) (Nat.le_of_ble_eq_true rfl) (Nat.le_of_ble_eq_true rfl) ?_
    refine ww_iload_n dX11_sign_11 rfl rfl ?_
    refine ww_icmp_eqN (tgt := 24) dX11_sign_12 (by decide) (by omega) (by omega) (fun c12 => ?_) (fun c12 => ?_)
    · refine ww_aload_n dX11_sign_24 rfl rfl ?_
      refine ww_cVr (M := m_X11_sign) (pc := 25) (v := .int (nI 1)) (h1 := mrS h m n (sk T n a) (-1) bk op) (st := []) (d := 1) (bc := 0) (bs := 0) (c_MR_fine_t hst hM htf hB hn (sk T n a) bk op) vv_X11_fine dX11_sign_25 wg_1421 hM.K0 rfl rfl rfl rfl (Nat.le_of_ble_eq_true rfl) (Nat.le_of_ble_eq_true rfl) (Nat.le_of_ble_eq_true rfl) (Nat.le_of_ble_eq_true rfl) ?_
      refine ww_if_eqN (tgt := 41) dX11_sign_28 (by decide) (by omega) (fun c28 => ?_) (fun c28 => ?_)
      · exact absurd c28 (by decide)
      · refine ww_aload_n dX11_sign_31 rfl rfl ?_
        refine ww_dup dX11_sign_32 rfl ?_
        refine ww_get 4 dX11_sign_33 hM.K0 rfl (by decide) inX11 wg_1244 (mrS_4 _ _ _ _ _ _ _) ?_
        refine ww_iconst (v := nI 1) dX11_sign_36 (by decide) ?_
        refine ww_iaddN dX11_sign_37 ?_
        refine ww_pfI tyX11 4 dX11_sign_38 hM.K0 rfl (by decide) inX11 tyX11_ok nmX11 wg_1244 rfl rfl ?_
        exact ww_vret dX11_sign_41 rfl ⟨rfl, mrS_s4 _ _ _ _ _ _ _ _⟩
    · exact absurd (hhe.trans hb2) c12
set_option maxHeartbeats 4000000 in
set_option maxRecDepth 100000 in
theorem c_MR_sign_l {l : Launch} {Z : EE} (hst : l.stackTraces = false) {h : PH} {m : Nat} (hM : ModS h m) {tf : Nat → Int32} (htf : hp_I h (m + 2) = tf) {T : Nat → Nat} (hB : BT tf T) {n : Nat} (hn : n ≤ 600) (a : Nat) (bk : Int32) (op : Nat) (ha : a ≤ n) (c : Nat) (hc0 : 0 < c) (hc : c < 256) {k q : Nat} (hr : sgnS T n c a = .inl (k, q)) : CC l Z m_X11_sign 1 0 0 [.ref m, .int (nI c)] (mrS h m n a (-1) bk op) (RT none (mrS h m n (sk T n a) (nI q) (nI k) op)) := by
  refine ee_entry hst (by decide +kernel) rfl rfl (by simp [Value.category]) (Nat.le_of_ble_eq_true rfl) ?_
  refine ww_lv (lv2 := [.ref m, .int (nI c)]) rfl ?_
  have hs1 := sk_le (T := T) ha
  have hs2 := sk_ge (T := T) ha
  obtain ⟨hb0, hb1, hb2⟩ := sgnS_l hr
  subst hb0 hb1
  have hhl := heI_lt (n := n) (hB (sk T n a)).2
  refine ww_aload_n dX11_sign_0 rfl rfl ?_
  refine ww_cVr (M := m_X11_sign) (pc := 1) (v := .int (nI 1)) (h1 := mrS h m n a (-1) bk op) (st := []) (d := 1) (bc := 0) (bs := 0) (c_MR_fine_t hst hM htf hB hn a bk op) vv_X11_fine dX11_sign_1 wg_1421 hM.K0 rfl rfl rfl rfl (Nat.le_of_ble_eq_true rfl) (Nat.le_of_ble_eq_true rfl) (Nat.le_of_ble_eq_true rfl) (Nat.le_of_ble_eq_true rfl) ?_
  refine ww_if_eqN (tgt := 24) dX11_sign_4 (by decide) (by omega) (fun c4 => ?_) (fun c4 => ?_)
  · exact absurd c4 (by decide)
  · refine ww_aload_n dX11_sign_7 rfl rfl ?_
    refine ww_cVr (M := m_X11_sign) (pc := 8) (v := .int (nI (heI T n (sk T n a)))) (h1 := mrS h m n (sk T n a) (-1) bk op) (st := []) (d := 1) (bc := 0) (bs := 0) (c_MR_here hst hM htf hB hn (-1) bk op a (by omega)) vv_X11_here dX11_sign_8 wg_1429 hM.K0 rfl rfl rfl rfl (Nat.le_of_ble_eq_true rfl) (Nat.le_of_ble_eq_true rfl) (Nat.le_of_ble_eq_true rfl) (Nat.le_of_ble_eq_true rfl) ?_
    refine ww_iload_n dX11_sign_11 rfl rfl ?_
    refine ww_icmp_eqN (tgt := 24) dX11_sign_12 (by decide) (by omega) (by omega) (fun c12 => ?_) (fun c12 => ?_)
    · exact absurd c12 (heI_ne hc0 hb2)
    · refine ww_aload_n dX11_sign_15 rfl rfl ?_
      refine ww_iconst (v := nI 1) dX11_sign_16 (by decide) ?_
      refine ww_aload_n dX11_sign_17 rfl rfl ?_
      refine ww_get 4 dX11_sign_18 hM.K0 rfl (by decide) inX11 wg_1244 (mrS_4 _ _ _ _ _ _ _) ?_
      refine ww_cV0 (M := m_X11_sign) (pc := 21) (h1 := mrS h m n (sk T n a) (nI (sk T n a)) (nI 1) op) (st := []) (d := 1) (bc := 0) (bs := 0) (c_MR_wrong_t hst hM htf hB hn (sk T n a) bk op (nI 1) (nI (sk T n a))) vv_X11_wrong dX11_sign_21 wg_1448 hM.K0 rfl rfl rfl rfl (Nat.le_of_ble_eq_true rfl) (Nat.le_of_ble_eq_true rfl) (Nat.le_of_ble_eq_true rfl) (Nat.le_of_ble_eq_true rfl) ?_
      refine ww_aload_n dX11_sign_24 rfl rfl ?_
      refine ww_cVr (M := m_X11_sign) (pc := 25) (v := .int (nI 0)) (h1 := mrS h m n (sk T n a) (nI (sk T n a)) (nI 1) op) (st := []) (d := 1) (bc := 0) (bs := 0) (c_MR_fine_f hst hM htf hB hn (sk T n a) (nI 1) op (sk T n a) (by omega)) vv_X11_fine dX11_sign_25 wg_1421 hM.K0 rfl rfl rfl rfl (Nat.le_of_ble_eq_true rfl) (Nat.le_of_ble_eq_true rfl) (Nat.le_of_ble_eq_true rfl) (Nat.le_of_ble_eq_true rfl) ?_
      refine ww_if_eqN (tgt := 41) dX11_sign_28 (by decide) (by omega) (fun c28 => ?_) (fun c28 => ?_)
      · exact ww_vret dX11_sign_41 rfl ⟨rfl, rfl⟩
      · exact absurd c28 (by decide)
set_option maxHeartbeats 4000000 in
set_option maxRecDepth 100000 in
theorem c_MR_sign_f {l : Launch} {Z : EE} (hst : l.stackTraces = false) {h : PH} {m : Nat} (hM : ModS h m) {tf : Nat → Int32} (htf : hp_I h (m + 2) = tf) {T : Nat → Nat} (hB : BT tf T) {n : Nat} (hn : n ≤ 600) (a : Nat) (bk : Int32) (op : Nat) (q : Nat) (hq : q < 2 ^ 31) (c : Nat) : CC l Z m_X11_sign 1 0 0 [.ref m, .int (nI c)] (mrS h m n a (nI q) bk op) (RT none (mrS h m n a (nI q) bk op)) := by
  refine ee_entry hst (by decide +kernel) rfl rfl (by simp [Value.category]) (Nat.le_of_ble_eq_true rfl) ?_
  refine ww_lv (lv2 := [.ref m, .int (nI c)]) rfl ?_
  refine ww_aload_n dX11_sign_0 rfl rfl ?_
  refine ww_cVr (M := m_X11_sign) (pc := 1) (v := .int (nI 0)) (h1 := mrS h m n a (nI q) bk op) (st := []) (d := 1) (bc := 0) (bs := 0) (c_MR_fine_f hst hM htf hB hn a bk op q (by omega)) vv_X11_fine dX11_sign_1 wg_1421 hM.K0 rfl rfl rfl rfl (Nat.le_of_ble_eq_true rfl) (Nat.le_of_ble_eq_true rfl) (Nat.le_of_ble_eq_true rfl) (Nat.le_of_ble_eq_true rfl) ?_
  refine ww_if_eqN (tgt := 24) dX11_sign_4 (by decide) (by omega) (fun c4 => ?_) (fun c4 => ?_)
  · refine ww_aload_n dX11_sign_24 rfl rfl ?_
    refine ww_cVr (M := m_X11_sign) (pc := 25) (v := .int (nI 0)) (h1 := mrS h m n a (nI q) bk op) (st := []) (d := 1) (bc := 0) (bs := 0) (c_MR_fine_f hst hM htf hB hn a bk op q (by omega)) vv_X11_fine dX11_sign_25 wg_1421 hM.K0 rfl rfl rfl rfl (Nat.le_of_ble_eq_true rfl) (Nat.le_of_ble_eq_true rfl) (Nat.le_of_ble_eq_true rfl) (Nat.le_of_ble_eq_true rfl) ?_
    refine ww_if_eqN (tgt := 41) dX11_sign_28 (by decide) (by omega) (fun c28 => ?_) (fun c28 => ?_)
    · exact ww_vret dX11_sign_41 rfl ⟨rfl, rfl⟩
    · exact absurd c28 (by decide)
  · exact absurd c4 (by decide)
set_option maxHeartbeats 4000000 in
set_option maxRecDepth 100000 in
theorem c_MR_more {l : Launch} {Z : EE} (hst : l.stackTraces = false) {h : PH} {m : Nat} (hM : ModS h m) {tf : Nat → Int32} (htf : hp_I h (m + 2) = tf) {T : Nat → Nat} (hB : BT tf T) {n : Nat} (hn : n ≤ 600) (bd bk : Int32) (op : Nat) (a : Nat) (ha : a ≤ n) : CC l Z m_X11_isMore 1 0 0 [.ref m] (mrS h m n a bd bk op) (RT (some (.int (bI (decide (sk T n a < n))))) (mrS h m n (sk T n a) bd bk op)) := by
  refine ee_entry hst (by decide +kernel) rfl rfl (by simp [Value.category]) (Nat.le_of_ble_eq_true rfl) ?_
  refine ww_lv (lv2 := [.ref m]) rfl ?_
  have hs1 := sk_le (T := T) ha
  have hs2 := sk_ge (T := T) ha
  refine ww_aload_n dX11_isMore_0 rfl rfl ?_
  refine ww_cVr (M := m_X11_isMore) (pc := 1) (v := .int (nI (heI T n (sk T n a)))) (h1 := mrS h m n (sk T n a) bd bk op) (st := []) (d := 1) (bc := 0) (bs := 0) (c_MR_here hst hM htf hB hn bd bk op a (by omega)) vv_X11_here dX11_isMore_1 wg_1429 hM.K0 rfl rfl rfl rfl (Nat.le_of_ble_eq_true rfl) (Nat.le_of_ble_eq_true rfl) (Nat.le_of_ble_eq_true rfl) (Nat.le_of_ble_eq_true rfl) ?_
  refine ww_pop dX11_isMore_4 rfl ?_
  refine ww_aload_n dX11_isMore_5 rfl rfl ?_
  refine ww_get 4 dX11_isMore_6 hM.K0 rfl (by decide) inX11 wg_1244 (mrS_4 _ _ _ _ _ _ _) ?_
  refine ww_aload_n dX11_isMore_9 rfl rfl ?_
  refine ww_get 3 dX11_isMore_10 hM.K0 rfl (by decide) inX11 wg_1243 (mrS_3 _ _ _ _ _ _ _) ?_
  refine ww_icmp_geN (tgt := 20) dX11_isMore_13 (by decide) (by omega) (by omega) (fun c13 => ?_) (fun c13 => ?_)
  · refine ww_iconst (v := nI 0) dX11_isMore_20 (by decide) ?_
    exact ww_zret dX11_isMore_21 rfl (by first | rfl | exact nar_bI _) ⟨by rw [decide_eq_false (by omega)]; rfl, rfl⟩
  · refine ww_iconst (v := nI 1) dX11_isMore_16 (by decide) ?_
    refine ww_goto (tgt := 21) dX11_isMore_17 (by decide) ?_
    exact ww_zret dX11_isMore_21 rfl (by first | rfl | exact nar_bI _) ⟨by rw [decide_eq_true (by omega)]; rfl, rfl⟩
theorem smC_le {T : Nat → Nat} {i : Nat} : smC (T i) = leB T i := rfl
theorem dgC_dg {T : Nat → Nat} {i : Nat} : dgC (T i) = dgB T i := rfl
theorem dgC_t {x : Nat} : dgC x = true ↔ 48 ≤ x ∧ x ≤ 57 := by unfold dgC; rw [Bool.and_eq_true, decide_eq_true_iff, decide_eq_true_iff]
set_option maxHeartbeats 4000000 in
set_option maxRecDepth 100000 in
theorem l_MR_pass {l : Launch} {Z : EE} (hst : l.stackTraces = false) {h : PH} {m : Nat} (hM : ModS h m) {tf : Nat → Int32} (htf : hp_I h (m + 2) = tf) {T : Nat → Nat} (hB : BT tf T) {n : Nat} (hn : n ≤ 600) (bd bk : Int32) (op : Nat) : ∀ (j a : Nat), a + j = n → WW l Z m_X11_pass 1 0 0 0 [.ref m] [] (mrS h m n a bd bk op) (RT none (mrS h m n (sc (leB T) n a) bd bk op)) := by
  intro j
  induction j with
  | zero =>
    intro a ha
    have ha0 : a = n := by omega
    rw [sc_stop (by omega)]
    refine ww_aload_n dX11_pass_0 rfl rfl ?_
    refine ww_get 4 dX11_pass_1 hM.K0 rfl (by decide) inX11 wg_1244 (mrS_4 _ _ _ _ _ _ _) ?_
    refine ww_aload_n dX11_pass_4 rfl rfl ?_
    refine ww_get 3 dX11_pass_5 hM.K0 rfl (by decide) inX11 wg_1243 (mrS_3 _ _ _ _ _ _ _) ?_
    refine ww_icmp_geN (tgt := 39) dX11_pass_8 (by decide) (by omega) (by omega) (fun c8 => ?_) (fun c8 => ?_)
    · exact ww_vret dX11_pass_39 rfl ⟨rfl, rfl⟩
    · exfalso; omega
  | succ j ih =>
    intro a ha
    have hTa := (hB a).2
    refine ww_aload_n dX11_pass_0 rfl rfl ?_
    refine ww_get 4 dX11_pass_1 hM.K0 rfl (by decide) inX11 wg_1244 (mrS_4 _ _ _ _ _ _ _) ?_
    refine ww_aload_n dX11_pass_4 rfl rfl ?_
    refine ww_get 3 dX11_pass_5 hM.K0 rfl (by decide) inX11 wg_1243 (mrS_3 _ _ _ _ _ _ _) ?_
    refine ww_icmp_geN (tgt := 39) dX11_pass_8 (by decide) (by omega) (by omega) (fun c8 => ?_) (fun c8 => ?_)
    · exfalso; omega
    · refine ww_aload_n dX11_pass_11 rfl rfl ?_
      refine ww_get 9 dX11_pass_12 hM.K0 rfl (by decide) inX11 wg_1249 (mrS_j _ _ _ _ _ (by decide) hM.F2) ?_
      refine ww_aload_n dX11_pass_15 rfl rfl ?_
      refine ww_get 4 dX11_pass_16 hM.K0 rfl (by decide) inX11 wg_1244 (mrS_4 _ _ _ _ _ _ _) ?_
      refine ww_ialdF dX11_pass_19 hM.K2 htf (by omega) (by omega) ?_
      have hT20 := (hB a).2
      refine ww_sk (st2 := [.int (nI (T a))]) (by rw [(hB a).1]) ?_
      refine ww_cSr (M := m_X11_pass) (pc := 20) (v := .int (bI (smC (T a)))) (h1 := mrS h m n a bd bk op) (st := []) (d := 1) (bc := 0) (bs := 0) (c_MR_sm hst (T a) (by omega) (mrS h m n a bd bk op)) vv_X11_isSmall dX11_pass_20 wg_1437 rfl rfl rfl (Nat.le_of_ble_eq_true rfl) (Nat.le_of_ble_eq_true rfl) (Nat.le_of_ble_eq_true rfl) (Nat.le_of_ble_eq_true rfl) ?_
      refine ww_if_eqB (tgt := 39) dX11_pass_23 (by decide) (fun c23 => ?_) (fun c23 => ?_)
      · rw [sc_stop (fun e => by have e9 := e.2; rw [show leB T a = false from c23] at e9; cases e9)]
        exact ww_vret dX11_pass_39 rfl ⟨rfl, rfl⟩
      · refine ww_aload_n dX11_pass_26 rfl rfl ?_
        refine ww_dup dX11_pass_27 rfl ?_
        refine ww_get 4 dX11_pass_28 hM.K0 rfl (by decide) inX11 wg_1244 (mrS_4 _ _ _ _ _ _ _) ?_
        refine ww_iconst (v := nI 1) dX11_pass_31 (by decide) ?_
        refine ww_iaddN dX11_pass_32 ?_
        refine ww_pfI tyX11 4 dX11_pass_33 hM.K0 rfl (by decide) inX11 tyX11_ok nmX11 wg_1244 rfl rfl ?_
        refine ww_goto (tgt := 0) dX11_pass_36 (by decide) ?_
        rw [sc_step (p := leB T) (by omega) c23]
        refine ww_hp (mrS_s4 h m n a bd bk op (a + 1)) ?_
        exact ih (a + 1) (by omega)
set_option maxHeartbeats 4000000 in
set_option maxRecDepth 100000 in
theorem c_MR_pass {l : Launch} {Z : EE} (hst : l.stackTraces = false) {h : PH} {m : Nat} (hM : ModS h m) {tf : Nat → Int32} (htf : hp_I h (m + 2) = tf) {T : Nat → Nat} (hB : BT tf T) {n : Nat} (hn : n ≤ 600) (bd bk : Int32) (op : Nat) (a : Nat) (ha : a ≤ n) : CC l Z m_X11_pass 1 0 0 [.ref m] (mrS h m n a bd bk op) (RT none (mrS h m n (sc (leB T) n a) bd bk op)) := by
  refine ee_entry hst (by decide +kernel) rfl rfl (by simp [Value.category]) (Nat.le_of_ble_eq_true rfl) ?_
  refine ww_lv (lv2 := [.ref m]) rfl ?_
  exact l_MR_pass hst hM htf hB hn bd bk op (n - a) a (by omega)
theorem dg_ne {T : Nat → Nat} {n a1 : Nat} (h : a1 ≤ n) : dgC (heI T n a1) = true ↔ ¬ sc (dgB T) n a1 = a1 := by
  by_cases hl : a1 < n
  · rw [heI_in hl, dgC_dg]
    cases hd : dgB T a1 with
    | true =>
      rw [sc_step hl hd]
      have h9 := sc_ge (p := dgB T) (n := n) (a := a1 + 1) (by omega)
      exact ⟨fun _ => by omega, fun _ => rfl⟩
    | false =>
      rw [sc_stop (fun e => by rw [hd] at e; cases e.2)]
      exact ⟨fun e => (by cases e), fun e => absurd rfl e⟩
  · rw [heI_out hl, sc_stop (fun e => hl e.1)]
    exact ⟨fun e => (by cases e), fun e => absurd rfl e⟩
set_option maxHeartbeats 4000000 in
set_option maxRecDepth 100000 in
theorem l_MR_num {l : Launch} {Z : EE} (hst : l.stackTraces = false) {h : PH} {m : Nat} (hM : ModS h m) {tf : Nat → Int32} (htf : hp_I h (m + 2) = tf) {T : Nat → Nat} (hB : BT tf T) {n : Nat} (hn : n ≤ 600) (bk : Int32) (op : Nat) (lo : Nat) (hi : Int32) (a1 : Nat) {Post : Res → PH → Prop} : ∀ (j i : Nat), a1 + i + j = n → WW l Z m_X11_readNumber 1 0 0 114 [.ref m, .int (nI lo), .int hi, UU, .int (nI a1), .int (nI (mvV T a1 (sc (dgB T) n (a1 + i) - a1)))] [] (mrS h m n (sc (dgB T) n (a1 + i)) (-1) bk op) Post → WW l Z m_X11_readNumber 1 0 0 41 [.ref m, .int (nI lo), .int hi, UU, .int (nI a1), .int (nI (mvV T a1 i))] [] (mrS h m n (a1 + i) (-1) bk op) Post := by
  have hT : ∀ i, T i < 256 := fun i => (hB i).2
  intro j
  induction j with
  | zero =>
    intro i hi9 hexit
    have hi0 : a1 + i = n := by omega
    rw [sc_stop (by omega)] at hexit
    refine ww_aload_n dX11_readNumber_41 rfl rfl ?_
    refine ww_get 4 dX11_readNumber_42 hM.K0 rfl (by decide) inX11 wg_1244 (mrS_4 _ _ _ _ _ _ _) ?_
    refine ww_aload_n dX11_readNumber_45 rfl rfl ?_
    refine ww_get 3 dX11_readNumber_46 hM.K0 rfl (by decide) inX11 wg_1243 (mrS_3 _ _ _ _ _ _ _) ?_
    refine ww_icmp_geN (tgt := 114) dX11_readNumber_49 (by decide) (by omega) (by omega) (fun c49 => ?_) (fun c49 => ?_)
    · rw [show a1 + i - a1 = i by omega] at hexit
      exact hexit
    · exfalso; omega
  | succ j ih =>
    intro i hi9 hexit
    have hTa := hT (a1 + i)
    have hmv := (mvV_ok hT a1 i).2.2
    refine ww_aload_n dX11_readNumber_41 rfl rfl ?_
    refine ww_get 4 dX11_readNumber_42 hM.K0 rfl (by decide) inX11 wg_1244 (mrS_4 _ _ _ _ _ _ _) ?_
    refine ww_aload_n dX11_readNumber_45 rfl rfl ?_
    refine ww_get 3 dX11_readNumber_46 hM.K0 rfl (by decide) inX11 wg_1243 (mrS_3 _ _ _ _ _ _ _) ?_
    refine ww_icmp_geN (tgt := 114) dX11_readNumber_49 (by decide) (by omega) (by omega) (fun c49 => ?_) (fun c49 => ?_)
    · exfalso; omega
    · refine ww_aload_n dX11_readNumber_52 rfl rfl ?_
      refine ww_get 9 dX11_readNumber_53 hM.K0 rfl (by decide) inX11 wg_1249 (mrS_j _ _ _ _ _ (by decide) hM.F2) ?_
      refine ww_aload_n dX11_readNumber_56 rfl rfl ?_
      refine ww_get 4 dX11_readNumber_57 hM.K0 rfl (by decide) inX11 wg_1244 (mrS_4 _ _ _ _ _ _ _) ?_
      refine ww_ialdF dX11_readNumber_60 hM.K2 htf (by omega) (by omega) ?_
      have hT61 := (hB (a1 + i)).2
      refine ww_sk (st2 := [.int (nI (T (a1 + i)))]) (by rw [(hB (a1 + i)).1]) ?_
      refine ww_cSr (M := m_X11_readNumber) (pc := 61) (v := .int (bI (dgC (T (a1 + i))))) (h1 := mrS h m n (a1 + i) (-1) bk op) (st := []) (d := 1) (bc := 0) (bs := 0) (c_MR_dg hst (T (a1 + i)) (by first | omega | exact heI_lt (hB _).2) (mrS h m n (a1 + i) (-1) bk op)) vv_X11_isDigit dX11_readNumber_61 wg_1464 rfl rfl rfl (Nat.le_of_ble_eq_true rfl) (Nat.le_of_ble_eq_true rfl) (Nat.le_of_ble_eq_true rfl) (Nat.le_of_ble_eq_true rfl) ?_
      refine ww_if_eqB (tgt := 114) dX11_readNumber_64 (by decide) (fun c64 => ?_) (fun c64 => ?_)
      · have hst9 : sc (dgB T) n (a1 + i) = a1 + i := sc_stop (fun e => by have e9 := e.2; rw [show dgB T (a1 + i) = false from c64] at e9; cases e9)
        rw [hst9, show a1 + i - a1 = i by omega] at hexit
        exact hexit
      · refine ww_iload dX11_readNumber_67 rfl ?_
        refine ww_sipush (v := nI 9999) dX11_readNumber_69 (by decide) ?_
        refine ww_icmp_leN (tgt := 81) dX11_readNumber_72 (by decide) (by omega) (by omega) (fun c72 => ?_) (fun c72 => ?_)
        · refine ww_bipush (v := nI 10) dX11_readNumber_81 (by decide) ?_
          refine ww_iload dX11_readNumber_83 rfl ?_
          refine ww_imulN dX11_readNumber_85 ?_
          refine ww_aload_n dX11_readNumber_86 rfl rfl ?_
          refine ww_get 9 dX11_readNumber_87 hM.K0 rfl (by decide) inX11 wg_1249 (mrS_j _ _ _ _ _ (by decide) hM.F2) ?_
          refine ww_aload_n dX11_readNumber_90 rfl rfl ?_
          refine ww_get 4 dX11_readNumber_91 hM.K0 rfl (by decide) inX11 wg_1244 (mrS_4 _ _ _ _ _ _ _) ?_
          refine ww_ialdF dX11_readNumber_94 hM.K2 htf (by omega) (by omega) ?_
          have hT95 := (hB (a1 + i)).2
          refine ww_sk (st2 := [.int (nI (T (a1 + i))), .int (nI (10 * (mvV T a1 i)))]) (by rw [(hB (a1 + i)).1]) ?_
          have hd9 := dgB_t.mp (show dgB T (a1 + i) = true from c64)
          refine ww_iaddN dX11_readNumber_95 ?_
          refine ww_bipush (v := nI 48) dX11_readNumber_96 (by decide) ?_
          refine ww_isubN dX11_readNumber_98 (by omega) ?_
          refine ww_sti (lv2 := [.ref m, .int (nI lo), .int hi, UU, .int (nI a1), .int (nI (((10 * (mvV T a1 i)) + (T (a1 + i))) - 48))]) dX11_readNumber_99 rfl (by decide) rfl ?_
          refine ww_aload_n dX11_readNumber_101 rfl rfl ?_
          refine ww_dup dX11_readNumber_102 rfl ?_
          refine ww_get 4 dX11_readNumber_103 hM.K0 rfl (by decide) inX11 wg_1244 (mrS_4 _ _ _ _ _ _ _) ?_
          refine ww_iconst (v := nI 1) dX11_readNumber_106 (by decide) ?_
          refine ww_iaddN dX11_readNumber_107 ?_
          refine ww_pfI tyX11 4 dX11_readNumber_108 hM.K0 rfl (by decide) inX11 tyX11_ok nmX11 wg_1244 rfl rfl ?_
          refine ww_goto (tgt := 41) dX11_readNumber_111 (by decide) ?_
          rw [sc_step (p := dgB T) (by omega) c64] at hexit
          refine ww_hp (mrS_s4 h m n (a1 + i) (-1) bk op (a1 + i + 1)) ?_
          refine ww_lv (lv2 := [.ref m, .int (nI lo), .int hi, UU, .int (nI a1), .int (nI (mvV T a1 (i + 1)))]) (by rw [mvV_s2 (by omega), show 10 * mvV T a1 i + T (a1 + i) - 48 = 10 * mvV T a1 i + (T (a1 + i) - 48) by omega]) ?_
          exact ih (i + 1) (by omega) hexit
        · refine ww_sipush (v := nI 10000) dX11_readNumber_75 (by decide) ?_
          refine ww_goto (tgt := 99) dX11_readNumber_78 (by decide) ?_
          refine ww_sti (lv2 := [.ref m, .int (nI lo), .int hi, UU, .int (nI a1), .int (nI 10000)]) dX11_readNumber_99 rfl (by decide) rfl ?_
          refine ww_aload_n dX11_readNumber_101 rfl rfl ?_
          refine ww_dup dX11_readNumber_102 rfl ?_
          refine ww_get 4 dX11_readNumber_103 hM.K0 rfl (by decide) inX11 wg_1244 (mrS_4 _ _ _ _ _ _ _) ?_
          refine ww_iconst (v := nI 1) dX11_readNumber_106 (by decide) ?_
          refine ww_iaddN dX11_readNumber_107 ?_
          refine ww_pfI tyX11 4 dX11_readNumber_108 hM.K0 rfl (by decide) inX11 tyX11_ok nmX11 wg_1244 rfl rfl ?_
          refine ww_goto (tgt := 41) dX11_readNumber_111 (by decide) ?_
          rw [sc_step (p := dgB T) (by omega) c64] at hexit
          refine ww_hp (mrS_s4 h m n (a1 + i) (-1) bk op (a1 + i + 1)) ?_
          refine ww_lv (lv2 := [.ref m, .int (nI lo), .int hi, UU, .int (nI a1), .int (nI (mvV T a1 (i + 1)))]) (by rw [mvV_s1 (by omega)]) ?_
          exact ih (i + 1) (by omega) hexit
set_option maxHeartbeats 4000000 in
set_option maxRecDepth 100000 in
theorem c_MR_num_r {l : Launch} {Z : EE} (hst : l.stackTraces = false) {h : PH} {m : Nat} (hM : ModS h m) {tf : Nat → Int32} (htf : hp_I h (m + 2) = tf) {T : Nat → Nat} (hB : BT tf T) {n : Nat} (hn : n ≤ 600) (a : Nat) (bk : Int32) (op : Nat) (ha : a ≤ n) (lo hx : Nat) (hi : Int32) (hlo : lo ≤ 1000) (hhx : hx ≤ 1000) (hhi : ∀ v : Nat, v < 2 ^ 31 → (nI v ≤ hi ↔ v < hx)) {b v : Nat} (hr : figS T n lo hx a = .inr (b, v)) : CC l Z m_X11_readNumber 1 0 0 [.ref m, .int (nI lo), .int hi] (mrS h m n a (-1) bk op) (RT (some (.int (nI v))) (mrS h m n b (-1) bk op)) := by
  refine ee_entry hst (by decide +kernel) rfl rfl (by simp [Value.category]) (Nat.le_of_ble_eq_true rfl) ?_
  refine ww_lv (lv2 := [.ref m, .int (nI lo), .int hi, UU, UU, UU]) rfl ?_
  have hs1 := sk_le (T := T) ha
  have hs2 := sk_ge (T := T) ha
  have hT : ∀ i, T i < 256 := fun i => (hB i).2
  have hs3 := sc_le (p := dgB T) hs1
  have hs4 := sc_ge (p := dgB T) hs1
  have hTs := hT (sk T n a)
  obtain ⟨v1, v2, v3⟩ := mvV_ok hT (sk T n a) (sc (dgB T) n (sk T n a) - sk T n a)
  obtain ⟨q1, q2, q3, q4⟩ := figS_r ha hr
  have hb9 : b = sc (dgB T) n (sk T n a) ∧ v = nmV T (sk T n a) (sc (dgB T) n (sk T n a) - sk T n a) := by
    unfold figS at hr
    split at hr
    · cases hr
    · split at hr
      · cases hr; exact ⟨rfl, rfl⟩
      · cases hr
  obtain ⟨rfl, hv0⟩ := hb9
  have hm : mvV T (sk T n a) (sc (dgB T) n (sk T n a) - sk T n a) = v := by omega
  have hdg : dgC (heI T n (sk T n a)) = true := by
    rw [heI_in (by omega), dgC_dg]
    exact sc_in hs1 (Nat.le_refl _) (by omega)
  refine ww_aload_n dX11_readNumber_0 rfl rfl ?_
  refine ww_cVr (M := m_X11_readNumber) (pc := 1) (v := .int (nI 1)) (h1 := mrS h m n a (-1) bk op) (st := []) (d := 1) (bc := 0) (bs := 0) (c_MR_fine_t hst hM htf hB hn a bk op) vv_X11_fine dX11_readNumber_1 wg_1421 hM.K0 rfl rfl rfl rfl (Nat.le_of_ble_eq_true rfl) (Nat.le_of_ble_eq_true rfl) (Nat.le_of_ble_eq_true rfl) (Nat.le_of_ble_eq_true rfl) ?_
  refine ww_if_neN (tgt := 9) dX11_readNumber_4 (by decide) (by omega) (fun c4 => ?_) (fun c4 => ?_)
  · refine ww_aload_n dX11_readNumber_9 rfl rfl ?_
    refine ww_cVr (M := m_X11_readNumber) (pc := 10) (v := .int (nI (heI T n (sk T n a)))) (h1 := mrS h m n (sk T n a) (-1) bk op) (st := []) (d := 1) (bc := 0) (bs := 0) (c_MR_here hst hM htf hB hn (-1) bk op a (by omega)) vv_X11_here dX11_readNumber_10 wg_1429 hM.K0 rfl rfl rfl rfl (Nat.le_of_ble_eq_true rfl) (Nat.le_of_ble_eq_true rfl) (Nat.le_of_ble_eq_true rfl) (Nat.le_of_ble_eq_true rfl) ?_
    refine ww_sti_n (lv2 := [.ref m, .int (nI lo), .int hi, .int (nI (heI T n (sk T n a))), UU, UU]) dX11_readNumber_13 rfl rfl (by decide) rfl ?_
    refine ww_aload_n dX11_readNumber_14 rfl rfl ?_
    refine ww_get 4 dX11_readNumber_15 hM.K0 rfl (by decide) inX11 wg_1244 (mrS_4 _ _ _ _ _ _ _) ?_
    refine ww_sti (lv2 := [.ref m, .int (nI lo), .int hi, .int (nI (heI T n (sk T n a))), .int (nI (sk T n a)), UU]) dX11_readNumber_18 rfl (by decide) rfl ?_
    refine ww_iconst (v := nI 0) dX11_readNumber_20 (by decide) ?_
    refine ww_sti (lv2 := [.ref m, .int (nI lo), .int hi, .int (nI (heI T n (sk T n a))), .int (nI (sk T n a)), .int (nI 0)]) dX11_readNumber_21 rfl (by decide) rfl ?_
    refine ww_iload_n dX11_readNumber_23 rfl rfl ?_
    refine ww_cSr (M := m_X11_readNumber) (pc := 24) (v := .int (bI (dgC (heI T n (sk T n a))))) (h1 := mrS h m n (sk T n a) (-1) bk op) (st := []) (d := 1) (bc := 0) (bs := 0) (c_MR_dg hst (heI T n (sk T n a)) (by first | omega | exact heI_lt (hB _).2) (mrS h m n (sk T n a) (-1) bk op)) vv_X11_isDigit dX11_readNumber_24 wg_1464 rfl rfl rfl (Nat.le_of_ble_eq_true rfl) (Nat.le_of_ble_eq_true rfl) (Nat.le_of_ble_eq_true rfl) (Nat.le_of_ble_eq_true rfl) ?_
    refine ww_if_neB (tgt := 41) dX11_readNumber_27 (by decide) (fun c27 => ?_) (fun c27 => ?_)
    · refine ww_fg (lv2 := [.ref m, .int (nI lo), .int hi, UU, .int (nI (sk T n a)), .int (nI 0)]) ⟨Or.inr rfl, Or.inr rfl, Or.inr rfl, Or.inl rfl, Or.inr rfl, Or.inr rfl, trivial⟩ ?_
      refine l_MR_num hst hM htf hB hn bk op lo hi (sk T n a) (n - sk T n a) 0 (by omega) ?_
      simp only [Nat.add_zero]
      refine ww_iload dX11_readNumber_114 rfl ?_
      refine ww_iload_n dX11_readNumber_116 rfl rfl ?_
      refine ww_icmp_ltN (tgt := 126) dX11_readNumber_117 (by decide) (by omega) (by omega) (fun c117 => ?_) (fun c117 => ?_)
      · exfalso; omega
      · refine ww_iload dX11_readNumber_120 rfl ?_
        refine ww_iload_n dX11_readNumber_122 rfl rfl ?_
        refine ww_icmp_le (tgt := 135) dX11_readNumber_123 (by decide) (fun c123 => ?_) (fun c123 => ?_)
        · refine ww_iload dX11_readNumber_135 rfl ?_
          exact ww_iret dX11_readNumber_137 rfl ⟨by rw [hm], rfl⟩
        · exact absurd ((hhi _ (by omega)).mpr (by omega)) c123
    · rw [hdg] at c27; cases c27
  · exact absurd c4 (by decide)
set_option maxHeartbeats 4000000 in
set_option maxRecDepth 100000 in
theorem c_MR_num_l {l : Launch} {Z : EE} (hst : l.stackTraces = false) {h : PH} {m : Nat} (hM : ModS h m) {tf : Nat → Int32} (htf : hp_I h (m + 2) = tf) {T : Nat → Nat} (hB : BT tf T) {n : Nat} (hn : n ≤ 600) (a : Nat) (bk : Int32) (op : Nat) (ha : a ≤ n) (lo hx : Nat) (hi : Int32) (hlo : lo ≤ 1000) (hhx : hx ≤ 1000) (hhi : ∀ v : Nat, v < 2 ^ 31 → (nI v ≤ hi ↔ v < hx)) {k q : Nat} (hr : figS T n lo hx a = .inl (k, q)) : CC l Z m_X11_readNumber 1 0 0 [.ref m, .int (nI lo), .int hi] (mrS h m n a (-1) bk op) (RQ (some (.int (nI 0))) (fun h9 => ∃ a9, a9 ≤ n ∧ h9 = mrS h m n a9 (nI q) (nI k) op)) := by
  refine ee_entry hst (by decide +kernel) rfl rfl (by simp [Value.category]) (Nat.le_of_ble_eq_true rfl) ?_
  refine ww_lv (lv2 := [.ref m, .int (nI lo), .int hi, UU, UU, UU]) rfl ?_
  have hs1 := sk_le (T := T) ha
  have hs2 := sk_ge (T := T) ha
  have hT : ∀ i, T i < 256 := fun i => (hB i).2
  have hs3 := sc_le (p := dgB T) hs1
  have hs4 := sc_ge (p := dgB T) hs1
  have hTs := hT (sk T n a)
  obtain ⟨v1, v2, v3⟩ := mvV_ok hT (sk T n a) (sc (dgB T) n (sk T n a) - sk T n a)
  have hq := (figS_l hr).2
  subst hq
  refine ww_aload_n dX11_readNumber_0 rfl rfl ?_
  refine ww_cVr (M := m_X11_readNumber) (pc := 1) (v := .int (nI 1)) (h1 := mrS h m n a (-1) bk op) (st := []) (d := 1) (bc := 0) (bs := 0) (c_MR_fine_t hst hM htf hB hn a bk op) vv_X11_fine dX11_readNumber_1 wg_1421 hM.K0 rfl rfl rfl rfl (Nat.le_of_ble_eq_true rfl) (Nat.le_of_ble_eq_true rfl) (Nat.le_of_ble_eq_true rfl) (Nat.le_of_ble_eq_true rfl) ?_
  refine ww_if_neN (tgt := 9) dX11_readNumber_4 (by decide) (by omega) (fun c4 => ?_) (fun c4 => ?_)
  · refine ww_aload_n dX11_readNumber_9 rfl rfl ?_
    refine ww_cVr (M := m_X11_readNumber) (pc := 10) (v := .int (nI (heI T n (sk T n a)))) (h1 := mrS h m n (sk T n a) (-1) bk op) (st := []) (d := 1) (bc := 0) (bs := 0) (c_MR_here hst hM htf hB hn (-1) bk op a (by omega)) vv_X11_here dX11_readNumber_10 wg_1429 hM.K0 rfl rfl rfl rfl (Nat.le_of_ble_eq_true rfl) (Nat.le_of_ble_eq_true rfl) (Nat.le_of_ble_eq_true rfl) (Nat.le_of_ble_eq_true rfl) ?_
    refine ww_sti_n (lv2 := [.ref m, .int (nI lo), .int hi, .int (nI (heI T n (sk T n a))), UU, UU]) dX11_readNumber_13 rfl rfl (by decide) rfl ?_
    refine ww_aload_n dX11_readNumber_14 rfl rfl ?_
    refine ww_get 4 dX11_readNumber_15 hM.K0 rfl (by decide) inX11 wg_1244 (mrS_4 _ _ _ _ _ _ _) ?_
    refine ww_sti (lv2 := [.ref m, .int (nI lo), .int hi, .int (nI (heI T n (sk T n a))), .int (nI (sk T n a)), UU]) dX11_readNumber_18 rfl (by decide) rfl ?_
    refine ww_iconst (v := nI 0) dX11_readNumber_20 (by decide) ?_
    refine ww_sti (lv2 := [.ref m, .int (nI lo), .int hi, .int (nI (heI T n (sk T n a))), .int (nI (sk T n a)), .int (nI 0)]) dX11_readNumber_21 rfl (by decide) rfl ?_
    refine ww_iload_n dX11_readNumber_23 rfl rfl ?_
    refine ww_cSr (M := m_X11_readNumber) (pc := 24) (v := .int (bI (dgC (heI T n (sk T n a))))) (h1 := mrS h m n (sk T n a) (-1) bk op) (st := []) (d := 1) (bc := 0) (bs := 0) (c_MR_dg hst (heI T n (sk T n a)) (by first | omega | exact heI_lt (hB _).2) (mrS h m n (sk T n a) (-1) bk op)) vv_X11_isDigit dX11_readNumber_24 wg_1464 rfl rfl rfl (Nat.le_of_ble_eq_true rfl) (Nat.le_of_ble_eq_true rfl) (Nat.le_of_ble_eq_true rfl) (Nat.le_of_ble_eq_true rfl) ?_
    refine ww_if_neB (tgt := 41) dX11_readNumber_27 (by decide) (fun c27 => ?_) (fun c27 => ?_)
    · refine ww_fg (lv2 := [.ref m, .int (nI lo), .int hi, UU, .int (nI (sk T n a)), .int (nI 0)]) ⟨Or.inr rfl, Or.inr rfl, Or.inr rfl, Or.inl rfl, Or.inr rfl, Or.inr rfl, trivial⟩ ?_
      refine l_MR_num hst hM htf hB hn bk op lo hi (sk T n a) (n - sk T n a) 0 (by omega) ?_
      simp only [Nat.add_zero]
      refine ww_iload dX11_readNumber_114 rfl ?_
      refine ww_iload_n dX11_readNumber_116 rfl rfl ?_
      refine ww_icmp_ltN (tgt := 126) dX11_readNumber_117 (by decide) (by omega) (by omega) (fun c117 => ?_) (fun c117 => ?_)
      · refine ww_aload_n dX11_readNumber_126 rfl rfl ?_
        refine ww_iconst (v := nI 2) dX11_readNumber_127 (by decide) ?_
        refine ww_iload dX11_readNumber_128 rfl ?_
        refine ww_cV0 (M := m_X11_readNumber) (pc := 130) (h1 := mrS h m n (sc (dgB T) n (sk T n a)) (nI (sk T n a)) (nI 2) op) (st := []) (d := 1) (bc := 0) (bs := 0) (c_MR_wrong_t hst hM htf hB hn (sc (dgB T) n (sk T n a)) bk op (nI 2) (nI (sk T n a))) vv_X11_wrong dX11_readNumber_130 wg_1448 hM.K0 rfl rfl rfl rfl (Nat.le_of_ble_eq_true rfl) (Nat.le_of_ble_eq_true rfl) (Nat.le_of_ble_eq_true rfl) (Nat.le_of_ble_eq_true rfl) ?_
        refine ww_iconst (v := nI 0) dX11_readNumber_133 (by decide) ?_
        exact ww_iret dX11_readNumber_134 rfl ⟨rfl, sc (dgB T) n (sk T n a), by omega, by have e9 := (dg_ne hs1).mp c27; unfold figS at hr; rw [if_neg e9, if_neg (fun e => by first | omega | (have h8 : ¬ mvV T (sk T n a) (sc (dgB T) n (sk T n a) - sk T n a) < hx := fun e7 => c123 ((hhi _ (by omega)).mpr e7); omega))] at hr; cases hr; rfl⟩
      · refine ww_iload dX11_readNumber_120 rfl ?_
        refine ww_iload_n dX11_readNumber_122 rfl rfl ?_
        refine ww_icmp_le (tgt := 135) dX11_readNumber_123 (by decide) (fun c123 => ?_) (fun c123 => ?_)
        · exfalso; have h9 := (hhi _ (by omega)).mp c123; have e9 := (dg_ne hs1).mp c27; unfold figS at hr; rw [if_neg e9, if_pos ⟨by omega, by omega⟩] at hr; cases hr
        · refine ww_aload_n dX11_readNumber_126 rfl rfl ?_
          refine ww_iconst (v := nI 2) dX11_readNumber_127 (by decide) ?_
          refine ww_iload dX11_readNumber_128 rfl ?_
          refine ww_cV0 (M := m_X11_readNumber) (pc := 130) (h1 := mrS h m n (sc (dgB T) n (sk T n a)) (nI (sk T n a)) (nI 2) op) (st := []) (d := 1) (bc := 0) (bs := 0) (c_MR_wrong_t hst hM htf hB hn (sc (dgB T) n (sk T n a)) bk op (nI 2) (nI (sk T n a))) vv_X11_wrong dX11_readNumber_130 wg_1448 hM.K0 rfl rfl rfl rfl (Nat.le_of_ble_eq_true rfl) (Nat.le_of_ble_eq_true rfl) (Nat.le_of_ble_eq_true rfl) (Nat.le_of_ble_eq_true rfl) ?_
          refine ww_iconst (v := nI 0) dX11_readNumber_133 (by decide) ?_
          exact ww_iret dX11_readNumber_134 rfl ⟨rfl, sc (dgB T) n (sk T n a), by omega, by have e9 := (dg_ne hs1).mp c27; unfold figS at hr; rw [if_neg e9, if_neg (fun e => by first | omega | (have h8 : ¬ mvV T (sk T n a) (sc (dgB T) n (sk T n a) - sk T n a) < hx := fun e7 => c123 ((hhi _ (by omega)).mpr e7); omega))] at hr; cases hr; rfl⟩
    · refine ww_aload_n dX11_readNumber_30 rfl rfl ?_
      refine ww_iconst (v := nI 1) dX11_readNumber_31 (by decide) ?_
      refine ww_aload_n dX11_readNumber_32 rfl rfl ?_
      refine ww_get 4 dX11_readNumber_33 hM.K0 rfl (by decide) inX11 wg_1244 (mrS_4 _ _ _ _ _ _ _) ?_
      refine ww_cV0 (M := m_X11_readNumber) (pc := 36) (h1 := mrS h m n (sk T n a) (nI (sk T n a)) (nI 1) op) (st := []) (d := 1) (bc := 0) (bs := 0) (c_MR_wrong_t hst hM htf hB hn (sk T n a) bk op (nI 1) (nI (sk T n a))) vv_X11_wrong dX11_readNumber_36 wg_1448 hM.K0 rfl rfl rfl rfl (Nat.le_of_ble_eq_true rfl) (Nat.le_of_ble_eq_true rfl) (Nat.le_of_ble_eq_true rfl) (Nat.le_of_ble_eq_true rfl) ?_
      refine ww_iconst (v := nI 0) dX11_readNumber_39 (by decide) ?_
      exact ww_iret dX11_readNumber_40 rfl ⟨rfl, sk T n a, by omega, by have e9 : sc (dgB T) n (sk T n a) = sk T n a := Classical.byContradiction (fun e => by rw [(dg_ne hs1).mpr e] at c27; cases c27); unfold figS at hr; rw [if_pos e9] at hr; cases hr; rfl⟩
  · exact absurd c4 (by decide)
set_option maxHeartbeats 4000000 in
set_option maxRecDepth 100000 in
theorem c_MR_num_f {l : Launch} {Z : EE} (hst : l.stackTraces = false) {h : PH} {m : Nat} (hM : ModS h m) {tf : Nat → Int32} (htf : hp_I h (m + 2) = tf) {T : Nat → Nat} (hB : BT tf T) {n : Nat} (hn : n ≤ 600) (a : Nat) (bk : Int32) (op : Nat) (q : Nat) (hq : q < 2 ^ 31) (lo : Nat) (hi : Int32) : CC l Z m_X11_readNumber 1 0 0 [.ref m, .int (nI lo), .int hi] (mrS h m n a (nI q) bk op) (RT (some (.int (nI 0))) (mrS h m n a (nI q) bk op)) := by
  refine ee_entry hst (by decide +kernel) rfl rfl (by simp [Value.category]) (Nat.le_of_ble_eq_true rfl) ?_
  refine ww_lv (lv2 := [.ref m, .int (nI lo), .int hi, UU, UU, UU]) rfl ?_
  refine ww_aload_n dX11_readNumber_0 rfl rfl ?_
  refine ww_cVr (M := m_X11_readNumber) (pc := 1) (v := .int (nI 0)) (h1 := mrS h m n a (nI q) bk op) (st := []) (d := 1) (bc := 0) (bs := 0) (c_MR_fine_f hst hM htf hB hn a bk op q (by omega)) vv_X11_fine dX11_readNumber_1 wg_1421 hM.K0 rfl rfl rfl rfl (Nat.le_of_ble_eq_true rfl) (Nat.le_of_ble_eq_true rfl) (Nat.le_of_ble_eq_true rfl) (Nat.le_of_ble_eq_true rfl) ?_
  refine ww_if_neN (tgt := 9) dX11_readNumber_4 (by decide) (by omega) (fun c4 => ?_) (fun c4 => ?_)
  · exact absurd c4 (by decide)
  · refine ww_iconst (v := nI 0) dX11_readNumber_7 (by decide) ?_
    exact ww_iret dX11_readNumber_8 rfl ⟨rfl, rfl⟩
set_option maxHeartbeats 4000000 in
set_option maxRecDepth 100000 in
theorem l_MR_of {l : Launch} {Z : EE} (hst : l.stackTraces = false) (i : Nat) (h6 : 6 ≤ i) (hi : i < 21) (h : PH) : ∀ (c j : Nat), j + c = tcL i → WW l Z m_X11_of 4 0 0 4 [.ref (1000000 + (1 + i)), .int (nI (pkX i j)), .int (nI j)] [] h (RT (some (.int (nI (ofN i)))) h) := by
  have ht := tx_six ⟨i, hi⟩ h6
  have ht1 : tcL i ≤ 6 := ht.1
  intro c
  induction c with
  | zero =>
    intro j hj
    have hj0 : j = tcL i := by omega
    subst hj0
    refine ww_iload_n dX11_of_4 rfl rfl ?_
    refine ww_aload_n dX11_of_5 rfl rfl ?_
    refine ww_cT (M := m_X11_of) (pc := 6) (d := 4) (v := .int (nI (tcL i))) (st := [.int (nI (tcL i))]) (i := i) (by omega) (c_T_length hst i hi h) vv_J0_length_8abf5 rfl dX11_of_6 wg_1444 rfl rfl rfl (Nat.le_of_ble_eq_true rfl) (Nat.le_of_ble_eq_true rfl) ?_
    refine ww_icmp_geN (tgt := 31) dX11_of_9 (by decide) (by omega) (by omega) (fun c9 => ?_) (fun c9 => ?_)
    · refine ww_iload_n dX11_of_31 rfl rfl ?_
      exact ww_iret dX11_of_32 rfl ⟨rfl, rfl⟩
    · exfalso; omega
  | succ c ih =>
    intro j hj
    have hx : 97 ≤ tcN i j ∧ tcN i j ≤ 122 := tx_let ⟨i, hi⟩ ⟨j, by omega⟩ h6 (by show j < tcL i; omega)
    have hpk : pkX i j < 33554432 := by
      rw [pkX_W]
      refine Nat.lt_of_lt_of_le (pkW_lt j (fun k hk => ?_)) (Nat.le_trans (Nat.pow_le_pow_right (by decide) (show j ≤ 5 by omega)) (by decide))
      rw [Nat.zero_add]
      exact (tx_let ⟨i, hi⟩ ⟨k, by omega⟩ h6 (by show k < tcL i; omega)).2
    refine ww_iload_n dX11_of_4 rfl rfl ?_
    refine ww_aload_n dX11_of_5 rfl rfl ?_
    refine ww_cT (M := m_X11_of) (pc := 6) (d := 4) (v := .int (nI (tcL i))) (st := [.int (nI j)]) (i := i) (by omega) (c_T_length hst i hi h) vv_J0_length_8abf5 rfl dX11_of_6 wg_1444 rfl rfl rfl (Nat.le_of_ble_eq_true rfl) (Nat.le_of_ble_eq_true rfl) ?_
    refine ww_icmp_geN (tgt := 31) dX11_of_9 (by decide) (by omega) (by omega) (fun c9 => ?_) (fun c9 => ?_)
    · exfalso; omega
    · refine ww_iload_n dX11_of_12 rfl rfl ?_
      refine ww_iconst (v := nI 5) dX11_of_13 (by decide) ?_
      refine ww_ishl dX11_of_14 ?_
      refine ww_aload_n dX11_of_15 rfl rfl ?_
      refine ww_iload_n dX11_of_16 rfl rfl ?_
      refine ww_cT (M := m_X11_of) (pc := 17) (d := 4) (v := .int (nI (tcN i j))) (st := [.int ((nI (pkX i j)) <<< ((nI 5) &&& 31))]) (i := i) (by omega) (c_T_charAt hst i hi j (by show _ < tcL i; omega) h) vv_J0_charAt_5068e rfl dX11_of_17 wg_1445 rfl rfl rfl (Nat.le_of_ble_eq_true rfl) (Nat.le_of_ble_eq_true rfl) ?_
      refine ww_bipush (v := nI 96) dX11_of_20 (by decide) ?_
      refine ww_isubN dX11_of_22 (by omega) ?_
      refine ww_ior dX11_of_23 ?_
      refine ww_sk (st2 := [.int (nI (pkX i (j + 1)))]) (by rw [shor hpk (by omega)]; rfl) ?_
      refine ww_sti_n (lv2 := [.ref (1000000 + (1 + i)), .int (nI (pkX i (j + 1))), .int (nI j)]) dX11_of_24 rfl rfl (by decide) rfl ?_
      refine ww_incN (c := 1) (lv2 := [.ref (1000000 + (1 + i)), .int (nI (pkX i (j + 1))), .int (nI (j + 1))]) dX11_of_25 rfl rfl rfl (by decide) rfl ?_
      refine ww_goto (tgt := 4) dX11_of_28 (by decide) ?_
      exact ih (j + 1) (by omega)
set_option maxHeartbeats 4000000 in
set_option maxRecDepth 100000 in
theorem c_MR_of {l : Launch} {Z : EE} (hst : l.stackTraces = false) (i : Nat) (h6 : 6 ≤ i) (hi : i < 21) (h : PH) : CC l Z m_X11_of 4 0 0 [.ref (1000000 + (1 + i))] h (RT (some (.int (nI (ofN i)))) h) := by
  refine ee_entry hst (by decide +kernel) rfl rfl (by simp [Value.category]) (Nat.le_of_ble_eq_true rfl) ?_
  refine ww_lv (lv2 := [.ref (1000000 + (1 + i)), UU, UU]) rfl ?_
  refine ww_iconst (v := nI 0) dX11_of_0 (by decide) ?_
  refine ww_sti_n (lv2 := [.ref (1000000 + (1 + i)), .int (nI 0), UU]) dX11_of_1 rfl rfl (by decide) rfl ?_
  refine ww_iconst (v := nI 0) dX11_of_2 (by decide) ?_
  refine ww_sti_n (lv2 := [.ref (1000000 + (1 + i)), .int (nI 0), .int (nI 0)]) dX11_of_3 rfl rfl (by decide) rfl ?_
  exact l_MR_of hst i h6 hi h (tcL i) 0 (by omega)
def pk7 (T : Nat → Nat) (a j : Nat) : Nat := if 6 < j then 0 else pkW T a j
theorem pk7_s {T : Nat → Nat} {a j : Nat} (h : j < 6) : pk7 T a j = pkW T a j := if_neg (by omega)
theorem pk7_b {T : Nat → Nat} {a j : Nat} (h : 6 < j) : pk7 T a j = 0 := if_pos h
theorem pk7_u {T : Nat → Nat} {a j : Nat} (h : j < 6) : pk7 T a (j + 1) = 32 * pkW T a j + (T (a + j) - 96) := if_neg (by omega)
theorem wdM_7 {T : Nat → Nat} {a e : Nat} : wdM T a e = pk7 T a (e - a) := rfl
set_option maxHeartbeats 4000000 in
set_option maxRecDepth 100000 in
theorem l_MR_word {l : Launch} {Z : EE} (hst : l.stackTraces = false) {h : PH} {m : Nat} (hM : ModS h m) {tf : Nat → Int32} (htf : hp_I h (m + 2) = tf) {T : Nat → Nat} (hB : BT tf T) {n : Nat} (hn : n ≤ 600) (bd bk : Int32) (op : Nat) (a1 : Nat) : ∀ (c j : Nat), a1 + j + c = n → (∀ k, k < j → 97 ≤ T (a1 + k) ∧ T (a1 + k) ≤ 122) → WW l Z m_X11_word 1 0 0 14 [.ref m, .int (nI (pk7 T a1 j)), .int (nI j), .int (nI (a1 + j))] [] (mrS h m n a1 bd bk op) (RT (some (.int (nI (wdM T a1 (sc (leB T) n (a1 + j)))))) (mrS h m n a1 bd bk op)) := by
  intro c
  induction c with
  | zero =>
    intro j hj hl
    rw [sc_stop (by omega)]
    have hj0 : a1 + j = n := by omega
    have hw : wdM T a1 (a1 + j) = pk7 T a1 j := by rw [wdM_7, show a1 + j - a1 = j by omega]
    refine ww_iload_n dX11_word_14 rfl rfl ?_
    refine ww_aload_n dX11_word_15 rfl rfl ?_
    refine ww_get 3 dX11_word_16 hM.K0 rfl (by decide) inX11 wg_1243 (mrS_3 _ _ _ _ _ _ _) ?_
    refine ww_icmp_geN (tgt := 67) dX11_word_19 (by decide) (by omega) (by omega) (fun c19 => ?_) (fun c19 => ?_)
    · refine ww_iload_n dX11_word_67 rfl rfl ?_
      refine ww_bipush (v := nI 6) dX11_word_68 (by decide) ?_
      refine ww_icmp_leN (tgt := 77) dX11_word_70 (by decide) (by omega) (by omega) (fun c70 => ?_) (fun c70 => ?_)
      · refine ww_iload_n dX11_word_77 rfl rfl ?_
        exact ww_iret dX11_word_78 rfl ⟨(by first | rw [hw, pk7_b (by omega)] | rw [hw]), rfl⟩
      · refine ww_iconst (v := nI 0) dX11_word_73 (by decide) ?_
        refine ww_goto (tgt := 78) dX11_word_74 (by decide) ?_
        exact ww_iret dX11_word_78 rfl ⟨(by first | rw [hw, pk7_b (by omega)] | rw [hw]), rfl⟩
    · exfalso; omega
  | succ c ih =>
    intro j hj hl
    have hTa := (hB (a1 + j)).2
    have hpk : j < 6 → pkW T a1 j < 33554432 := fun h6 => Nat.lt_of_lt_of_le (pkW_lt j (fun k hk => (hl k hk).2)) (Nat.le_trans (Nat.pow_le_pow_right (by decide) (show j ≤ 5 by omega)) (by decide))
    refine ww_iload_n dX11_word_14 rfl rfl ?_
    refine ww_aload_n dX11_word_15 rfl rfl ?_
    refine ww_get 3 dX11_word_16 hM.K0 rfl (by decide) inX11 wg_1243 (mrS_3 _ _ _ _ _ _ _) ?_
    refine ww_icmp_geN (tgt := 67) dX11_word_19 (by decide) (by omega) (by omega) (fun c19 => ?_) (fun c19 => ?_)
    · exfalso; omega
    · refine ww_aload_n dX11_word_22 rfl rfl ?_
      refine ww_get 9 dX11_word_23 hM.K0 rfl (by decide) inX11 wg_1249 (mrS_j _ _ _ _ _ (by decide) hM.F2) ?_
      refine ww_iload_n dX11_word_26 rfl rfl ?_
      refine ww_ialdF dX11_word_27 hM.K2 htf (by omega) (by omega) ?_
      have hT28 := (hB (a1 + j)).2
      refine ww_sk (st2 := [.int (nI (T (a1 + j)))]) (by rw [(hB (a1 + j)).1]) ?_
      refine ww_cSr (M := m_X11_word) (pc := 28) (v := .int (bI (smC (T (a1 + j))))) (h1 := mrS h m n a1 bd bk op) (st := []) (d := 1) (bc := 0) (bs := 0) (c_MR_sm hst (T (a1 + j)) (by omega) (mrS h m n a1 bd bk op)) vv_X11_isSmall dX11_word_28 wg_1437 rfl rfl rfl (Nat.le_of_ble_eq_true rfl) (Nat.le_of_ble_eq_true rfl) (Nat.le_of_ble_eq_true rfl) (Nat.le_of_ble_eq_true rfl) ?_
      refine ww_if_eqB (tgt := 67) dX11_word_31 (by decide) (fun c31 => ?_) (fun c31 => ?_)
      · rw [sc_stop (fun e => by have e9 := e.2; rw [show leB T (a1 + j) = false from c31] at e9; cases e9)]
        have hw : wdM T a1 (a1 + j) = pk7 T a1 j := by rw [wdM_7, show a1 + j - a1 = j by omega]
        refine ww_iload_n dX11_word_67 rfl rfl ?_
        refine ww_bipush (v := nI 6) dX11_word_68 (by decide) ?_
        refine ww_icmp_leN (tgt := 77) dX11_word_70 (by decide) (by omega) (by omega) (fun c70 => ?_) (fun c70 => ?_)
        · refine ww_iload_n dX11_word_77 rfl rfl ?_
          exact ww_iret dX11_word_78 rfl ⟨(by first | rw [hw, pk7_b (by omega)] | rw [hw]), rfl⟩
        · refine ww_iconst (v := nI 0) dX11_word_73 (by decide) ?_
          refine ww_goto (tgt := 78) dX11_word_74 (by decide) ?_
          exact ww_iret dX11_word_78 rfl ⟨(by first | rw [hw, pk7_b (by omega)] | rw [hw]), rfl⟩
      · refine ww_iload_n dX11_word_34 rfl rfl ?_
        refine ww_bipush (v := nI 6) dX11_word_35 (by decide) ?_
        refine ww_icmp_geN (tgt := 56) dX11_word_37 (by decide) (by omega) (by omega) (fun c37 => ?_) (fun c37 => ?_)
        · refine ww_iconst (v := nI 0) dX11_word_56 (by decide) ?_
          refine ww_sti_n (lv2 := [.ref m, .int (nI 0), .int (nI j), .int (nI (a1 + j))]) dX11_word_57 rfl rfl (by decide) rfl ?_
          refine ww_incN (c := 1) (lv2 := [.ref m, .int (nI 0), .int (nI (j + 1)), .int (nI (a1 + j))]) dX11_word_58 rfl rfl rfl (by decide) rfl ?_
          refine ww_incN (c := 1) (lv2 := [.ref m, .int (nI 0), .int (nI (j + 1)), .int (nI (a1 + j + 1))]) dX11_word_61 rfl rfl rfl (by decide) rfl ?_
          refine ww_goto (tgt := 14) dX11_word_64 (by decide) ?_
          rw [sc_step (p := leB T) (by omega) c31]
          have hg := leB_t.mp (show leB T (a1 + j) = true from c31)
          refine ww_lv (lv2 := [.ref m, .int (nI (pk7 T a1 (j + 1))), .int (nI (j + 1)), .int (nI (a1 + (j + 1)))]) (by rw [pk7_b (by omega)]; rfl) ?_
          exact ih (j + 1) (by omega) (fun k hk => (Nat.lt_or_ge k j).elim (fun q => hl k q) (fun q => by rw [show k = j by omega]; exact hg))
        · refine ww_iload_n dX11_word_40 rfl rfl ?_
          refine ww_iconst (v := nI 5) dX11_word_41 (by decide) ?_
          refine ww_ishl dX11_word_42 ?_
          refine ww_aload_n dX11_word_43 rfl rfl ?_
          refine ww_get 9 dX11_word_44 hM.K0 rfl (by decide) inX11 wg_1249 (mrS_j _ _ _ _ _ (by decide) hM.F2) ?_
          refine ww_iload_n dX11_word_47 rfl rfl ?_
          refine ww_ialdF dX11_word_48 hM.K2 htf (by omega) (by omega) ?_
          have hT49 := (hB (a1 + j)).2
          refine ww_sk (st2 := [.int (nI (T (a1 + j))), .int ((nI (pk7 T a1 j)) <<< ((nI 5) &&& 31))]) (by rw [(hB (a1 + j)).1]) ?_
          have hg9 := leB_t.mp (show leB T (a1 + j) = true from c31)
          refine ww_bipush (v := nI 96) dX11_word_49 (by decide) ?_
          refine ww_isubN dX11_word_51 (by omega) ?_
          refine ww_ior dX11_word_52 ?_
          refine ww_sk (st2 := [.int (nI (32 * pkW T a1 j + (T (a1 + j) - 96)))]) (by rw [pk7_s c37, shor (hpk c37) (by omega)]) ?_
          refine ww_goto (tgt := 57) dX11_word_53 (by decide) ?_
          refine ww_sti_n (lv2 := [.ref m, .int (nI (32 * pkW T a1 j + (T (a1 + j) - 96))), .int (nI j), .int (nI (a1 + j))]) dX11_word_57 rfl rfl (by decide) rfl ?_
          refine ww_incN (c := 1) (lv2 := [.ref m, .int (nI (32 * pkW T a1 j + (T (a1 + j) - 96))), .int (nI (j + 1)), .int (nI (a1 + j))]) dX11_word_58 rfl rfl rfl (by decide) rfl ?_
          refine ww_incN (c := 1) (lv2 := [.ref m, .int (nI (32 * pkW T a1 j + (T (a1 + j) - 96))), .int (nI (j + 1)), .int (nI (a1 + j + 1))]) dX11_word_61 rfl rfl rfl (by decide) rfl ?_
          refine ww_goto (tgt := 14) dX11_word_64 (by decide) ?_
          rw [sc_step (p := leB T) (by omega) c31]
          have hg := leB_t.mp (show leB T (a1 + j) = true from c31)
          refine ww_lv (lv2 := [.ref m, .int (nI (pk7 T a1 (j + 1))), .int (nI (j + 1)), .int (nI (a1 + (j + 1)))]) (by rw [pk7_u c37]; rfl) ?_
          exact ih (j + 1) (by omega) (fun k hk => (Nat.lt_or_ge k j).elim (fun q => hl k q) (fun q => by rw [show k = j by omega]; exact hg))
set_option maxHeartbeats 4000000 in
set_option maxRecDepth 100000 in
theorem c_MR_word {l : Launch} {Z : EE} (hst : l.stackTraces = false) {h : PH} {m : Nat} (hM : ModS h m) {tf : Nat → Int32} (htf : hp_I h (m + 2) = tf) {T : Nat → Nat} (hB : BT tf T) {n : Nat} (hn : n ≤ 600) (bd bk : Int32) (op : Nat) (a : Nat) (ha : a ≤ n) : CC l Z m_X11_word 1 0 0 [.ref m] (mrS h m n a bd bk op) (RT (some (.int (nI (wdA T n a)))) (mrS h m n (sk T n a) bd bk op)) := by
  refine ee_entry hst (by decide +kernel) rfl rfl (by simp [Value.category]) (Nat.le_of_ble_eq_true rfl) ?_
  refine ww_lv (lv2 := [.ref m, UU, UU, UU]) rfl ?_
  have hs1 := sk_le (T := T) ha
  have hs2 := sk_ge (T := T) ha
  refine ww_aload_n dX11_word_0 rfl rfl ?_
  refine ww_cVr (M := m_X11_word) (pc := 1) (v := .int (nI (heI T n (sk T n a)))) (h1 := mrS h m n (sk T n a) bd bk op) (st := []) (d := 1) (bc := 0) (bs := 0) (c_MR_here hst hM htf hB hn bd bk op a (by omega)) vv_X11_here dX11_word_1 wg_1429 hM.K0 rfl rfl rfl rfl (Nat.le_of_ble_eq_true rfl) (Nat.le_of_ble_eq_true rfl) (Nat.le_of_ble_eq_true rfl) (Nat.le_of_ble_eq_true rfl) ?_
  refine ww_pop dX11_word_4 rfl ?_
  refine ww_iconst (v := nI 0) dX11_word_5 (by decide) ?_
  refine ww_sti_n (lv2 := [.ref m, .int (nI 0), UU, UU]) dX11_word_6 rfl rfl (by decide) rfl ?_
  refine ww_iconst (v := nI 0) dX11_word_7 (by decide) ?_
  refine ww_sti_n (lv2 := [.ref m, .int (nI 0), .int (nI 0), UU]) dX11_word_8 rfl rfl (by decide) rfl ?_
  refine ww_aload_n dX11_word_9 rfl rfl ?_
  refine ww_get 4 dX11_word_10 hM.K0 rfl (by decide) inX11 wg_1244 (mrS_4 _ _ _ _ _ _ _) ?_
  refine ww_sti_n (lv2 := [.ref m, .int (nI 0), .int (nI 0), .int (nI (sk T n a))]) dX11_word_13 rfl rfl (by decide) rfl ?_
  exact l_MR_word hst hM htf hB hn bd bk op (sk T n a) (n - sk T n a) 0 (by omega) (fun k hk => absurd hk (by omega))
theorem mrS_c8 (h : PH) (m n a : Nat) (bd bk : Int32) (op : Nat) (v : Value) : hp_sF (mrS h m n a bd bk op) m 8 v = mrS (hp_sF h m 8 v) m n a bd bk op := by
  refine hp_ext rfl (fun _ => rfl) (fun b j => ?_) (fun _ => rfl) (fun _ => rfl)
  rw [mrS_F]
  show (if b = m ∧ j = 8 then _ else hp_F (mrS h m n a bd bk op) b j) = _
  rw [mrS_F]
  show _ = (if _ then _ else if _ then _ else if _ then _ else if _ then _ else if _ then _ else (if b = m ∧ j = 8 then _ else hp_F h b j))
  by_cases e8 : b = m ∧ j = 8
  · rw [if_pos e8, if_neg (by omega), if_neg (by omega), if_neg (by omega), if_neg (by omega), if_neg (by omega), if_pos e8]
  · rw [if_neg e8, if_neg e8]
theorem mrS_begin (h : PH) (m n : Nat) (bk : Int32) (hbk : hp_F h m 6 = .int bk) : hp_sF (hp_sF (hp_sF (hp_sF (hp_sF (hp_sF h m 2 (.int (nI 0))) m 8 (.int (-1))) m 3 (.int (nI n))) m 4 (.int (nI 0))) m 5 (.int (-1))) m 7 (.int (nI 0)) = mrS (hp_sF (hp_sF h m 2 (.int (nI 0))) m 8 (.int (-1))) m n 0 (-1) bk 0 := by
  refine hp_ext rfl (fun _ => rfl) (fun b j => ?_) (fun _ => rfl) (fun _ => rfl)
  rw [mrS_F]
  show (if b = m ∧ j = 7 then _ else if b = m ∧ j = 5 then _ else if b = m ∧ j = 4 then _ else if b = m ∧ j = 3 then _ else (if b = m ∧ j = 8 then _ else if b = m ∧ j = 2 then _ else hp_F h b j)) = (if _ then _ else if _ then _ else if _ then _ else if _ then _ else if _ then _ else (if b = m ∧ j = 8 then _ else if b = m ∧ j = 2 then _ else hp_F h b j))
  by_cases e6 : b = m ∧ j = 6
  · rw [if_neg (by omega), if_neg (by omega), if_neg (by omega), if_neg (by omega), if_neg (by omega), if_neg (by omega), if_neg (by omega), if_pos e6, e6.1, e6.2, hbk]
  · rw [if_neg e6]
set_option maxHeartbeats 4000000 in
set_option maxRecDepth 100000 in
theorem c_MR_begins {l : Launch} {Z : EE} (hst : l.stackTraces = false) {h : PH} {m : Nat} (hM : ModS h m) (n : Nat) {bk : Int32} (hbk : hp_F h m 6 = .int bk) : CC l Z m_X11_begins 0 0 0 [.ref m, .int (nI n)] h (RT none (mrS (hp_sF (hp_sF h m 2 (.int (nI 0))) m 8 (.int (-1))) m n 0 (-1) bk 0)) := by
  refine ee_entry hst (by decide +kernel) rfl rfl (by simp [Value.category]) (Nat.le_of_ble_eq_true rfl) ?_
  refine ww_lv (lv2 := [.ref m, .int (nI n)]) rfl ?_
  refine ww_aload_n dX11_begins_0 rfl rfl ?_
  refine ww_iconst (v := nI 0) dX11_begins_1 (by decide) ?_
  refine ww_pfI tyX11 2 dX11_begins_2 hM.K0 rfl (by decide) inX11 tyX11_ok nmX11 wg_1242 rfl rfl ?_
  refine ww_aload_n dX11_begins_5 rfl rfl ?_
  refine ww_iconst (v := -1) dX11_begins_6 (by decide) ?_
  refine ww_pfI tyX11 8 dX11_begins_7 hM.K0 rfl (by decide) inX11 tyX11_ok nmX11 wg_1248 rfl rfl ?_
  refine ww_aload_n dX11_begins_10 rfl rfl ?_
  refine ww_iload_n dX11_begins_11 rfl rfl ?_
  refine ww_pfI tyX11 3 dX11_begins_12 hM.K0 rfl (by decide) inX11 tyX11_ok nmX11 wg_1243 rfl rfl ?_
  refine ww_aload_n dX11_begins_15 rfl rfl ?_
  refine ww_iconst (v := nI 0) dX11_begins_16 (by decide) ?_
  refine ww_pfI tyX11 4 dX11_begins_17 hM.K0 rfl (by decide) inX11 tyX11_ok nmX11 wg_1244 rfl rfl ?_
  refine ww_aload_n dX11_begins_20 rfl rfl ?_
  refine ww_iconst (v := -1) dX11_begins_21 (by decide) ?_
  refine ww_pfI tyX11 5 dX11_begins_22 hM.K0 rfl (by decide) inX11 tyX11_ok nmX11 wg_1245 rfl rfl ?_
  refine ww_aload_n dX11_begins_25 rfl rfl ?_
  refine ww_iconst (v := nI 0) dX11_begins_26 (by decide) ?_
  refine ww_pfI tyX11 7 dX11_begins_27 hM.K0 rfl (by decide) inX11 tyX11_ok nmX11 wg_1247 rfl rfl ?_
  exact ww_vret dX11_begins_30 rfl ⟨rfl, mrS_begin h m n bk hbk⟩
set_option maxHeartbeats 4000000 in
set_option maxRecDepth 100000 in
theorem c_MR_fine8_t {l : Launch} {Z : EE} (hst : l.stackTraces = false) {h : PH} {m : Nat} (hM : ModS h m) {tf : Nat → Int32} (htf : hp_I h (m + 2) = tf) {T : Nat → Nat} (hB : BT tf T) {n : Nat} (hn : n ≤ 600) (a : Nat) (bk : Int32) (op : Nat) (v : Value) : CC l Z m_X11_fine 0 0 0 [.ref m] (hp_sF (mrS h m n a (-1) bk op) m 8 v) (RT (some (.int (nI 1))) (hp_sF (mrS h m n a (-1) bk op) m 8 v)) := by
  have h9 := c_MR_fine_t (Z := Z) hst (h := hp_sF h m 8 v) (hM.sF (by decide)) htf hB hn a bk op
  rw [← mrS_c8] at h9
  exact h9
set_option maxHeartbeats 4000000 in
set_option maxRecDepth 100000 in
theorem c_MR_fine8_f {l : Launch} {Z : EE} (hst : l.stackTraces = false) {h : PH} {m : Nat} (hM : ModS h m) {tf : Nat → Int32} (htf : hp_I h (m + 2) = tf) {T : Nat → Nat} (hB : BT tf T) {n : Nat} (hn : n ≤ 600) (a : Nat) (bk : Int32) (op : Nat) (q : Nat) (hq : q < 2 ^ 31) (v : Value) : CC l Z m_X11_fine 0 0 0 [.ref m] (hp_sF (mrS h m n a (nI q) bk op) m 8 v) (RT (some (.int (nI 0))) (hp_sF (mrS h m n a (nI q) bk op) m 8 v)) := by
  have h9 := c_MR_fine_f (Z := Z) hst (h := hp_sF h m 8 v) (hM.sF (by decide)) htf hB hn a bk op q hq
  rw [← mrS_c8] at h9
  exact h9
set_option maxHeartbeats 4000000 in
set_option maxRecDepth 100000 in
theorem c_MR_result_t {l : Launch} {Z : EE} (hst : l.stackTraces = false) {h : PH} {m : Nat} (hM : ModS h m) {tf : Nat → Int32} (htf : hp_I h (m + 2) = tf) {T : Nat → Nat} (hB : BT tf T) {n : Nat} (hn : n ≤ 600) (a : Nat) (bk : Int32) (op : Nat) (g : Int32) : CC l Z m_X11_result 1 0 0 [.ref m, .int g] (mrS h m n a (-1) bk op) (RT (some (.int g)) (hp_sF (mrS h m n a (-1) bk op) m 8 (.int (-1)))) := by
  refine ee_entry hst (by decide +kernel) rfl rfl (by simp [Value.category]) (Nat.le_of_ble_eq_true rfl) ?_
  refine ww_lv (lv2 := [.ref m, .int g]) rfl ?_
  refine ww_aload_n dX11_result_0 rfl rfl ?_
  refine ww_aload_n dX11_result_1 rfl rfl ?_
  refine ww_get 5 dX11_result_2 hM.K0 rfl (by decide) inX11 wg_1245 (mrS_5 _ _ _ _ _ _ _) ?_
  refine ww_pfI tyX11 8 dX11_result_5 hM.K0 rfl (by decide) inX11 tyX11_ok nmX11 wg_1248 rfl rfl ?_
  refine ww_aload_n dX11_result_8 rfl rfl ?_
  refine ww_cVr (M := m_X11_result) (pc := 9) (v := .int (nI 1)) (h1 := hp_sF (mrS h m n a (-1) bk op) m 8 (.int (-1))) (st := []) (d := 1) (bc := 0) (bs := 0) (c_MR_fine8_t hst hM htf hB hn a bk op (.int (-1))) vv_X11_fine dX11_result_9 wg_1421 hM.K0 rfl rfl rfl rfl (Nat.le_of_ble_eq_true rfl) (Nat.le_of_ble_eq_true rfl) (Nat.le_of_ble_eq_true rfl) (Nat.le_of_ble_eq_true rfl) ?_
  refine ww_if_eqN (tgt := 19) dX11_result_12 (by decide) (by omega) (fun c12 => ?_) (fun c12 => ?_)
  · exact absurd c12 (by decide)
  · refine ww_iload_n dX11_result_15 rfl rfl ?_
    refine ww_goto (tgt := 26) dX11_result_16 (by decide) ?_
    exact ww_iret dX11_result_26 rfl ⟨rfl, rfl⟩
set_option maxHeartbeats 4000000 in
set_option maxRecDepth 100000 in
theorem c_MR_result_f {l : Launch} {Z : EE} (hst : l.stackTraces = false) {h : PH} {m : Nat} (hM : ModS h m) {tf : Nat → Int32} (htf : hp_I h (m + 2) = tf) {T : Nat → Nat} (hB : BT tf T) {n : Nat} (hn : n ≤ 600) (a : Nat) (bk : Int32) (op : Nat) (q : Nat) (hq : q < 2 ^ 31) (g : Int32) : CC l Z m_X11_result 1 0 0 [.ref m, .int g] (mrS h m n a (nI q) bk op) (RT (some (.int (bk - nI 10))) (hp_sF (mrS h m n a (nI q) bk op) m 8 (.int (nI q)))) := by
  refine ee_entry hst (by decide +kernel) rfl rfl (by simp [Value.category]) (Nat.le_of_ble_eq_true rfl) ?_
  refine ww_lv (lv2 := [.ref m, .int g]) rfl ?_
  refine ww_aload_n dX11_result_0 rfl rfl ?_
  refine ww_aload_n dX11_result_1 rfl rfl ?_
  refine ww_get 5 dX11_result_2 hM.K0 rfl (by decide) inX11 wg_1245 (mrS_5 _ _ _ _ _ _ _) ?_
  refine ww_pfI tyX11 8 dX11_result_5 hM.K0 rfl (by decide) inX11 tyX11_ok nmX11 wg_1248 rfl rfl ?_
  refine ww_aload_n dX11_result_8 rfl rfl ?_
  refine ww_cVr (M := m_X11_result) (pc := 9) (v := .int (nI 0)) (h1 := hp_sF (mrS h m n a (nI q) bk op) m 8 (.int (nI q))) (st := []) (d := 1) (bc := 0) (bs := 0) (c_MR_fine8_f hst hM htf hB hn a bk op q hq (.int (nI q))) vv_X11_fine dX11_result_9 wg_1421 hM.K0 rfl rfl rfl rfl (Nat.le_of_ble_eq_true rfl) (Nat.le_of_ble_eq_true rfl) (Nat.le_of_ble_eq_true rfl) (Nat.le_of_ble_eq_true rfl) ?_
  refine ww_if_eqN (tgt := 19) dX11_result_12 (by decide) (by omega) (fun c12 => ?_) (fun c12 => ?_)
  · refine ww_aload_n dX11_result_19 rfl rfl ?_
    refine ww_get 6 dX11_result_20 hM.K0 rfl (by decide) inX11 wg_1246 (hp_F_nj (by decide) (mrS_6 _ _ _ _ _ _ _)) ?_
    refine ww_bipush (v := nI 10) dX11_result_23 (by decide) ?_
    refine ww_isub dX11_result_25 ?_
    exact ww_iret dX11_result_26 rfl ⟨rfl, rfl⟩
  · exact absurd c12 (by decide)
set_option maxHeartbeats 4000000 in
set_option maxRecDepth 100000 in
theorem c_MR_opens_t {l : Launch} {Z : EE} (hst : l.stackTraces = false) {h : PH} {m : Nat} (hM : ModS h m) {tf : Nat → Int32} (htf : hp_I h (m + 2) = tf) {T : Nat → Nat} (hB : BT tf T) {n : Nat} (hn : n ≤ 600) (a : Nat) (bk : Int32) (op : Nat) (ho : op < 6) (w : Nat) : CC l Z m_X11_opensOne 1 0 0 [.ref m, .int (nI w)] (mrS h m n a (-1) bk op) (RT none (mrS h m n (a + w) (-1) bk (op + 1))) := by
  refine ee_entry hst (by decide +kernel) rfl rfl (by simp [Value.category]) (Nat.le_of_ble_eq_true rfl) ?_
  refine ww_lv (lv2 := [.ref m, .int (nI w)]) rfl ?_
  refine ww_aload_n dX11_opensOne_0 rfl rfl ?_
  refine ww_cVr (M := m_X11_opensOne) (pc := 1) (v := .int (nI 1)) (h1 := mrS h m n a (-1) bk op) (st := []) (d := 1) (bc := 0) (bs := 0) (c_MR_fine_t hst hM htf hB hn a bk op) vv_X11_fine dX11_opensOne_1 wg_1421 hM.K0 rfl rfl rfl rfl (Nat.le_of_ble_eq_true rfl) (Nat.le_of_ble_eq_true rfl) (Nat.le_of_ble_eq_true rfl) (Nat.le_of_ble_eq_true rfl) ?_
  refine ww_if_eqN (tgt := 25) dX11_opensOne_4 (by decide) (by omega) (fun c4 => ?_) (fun c4 => ?_)
  · exact absurd c4 (by decide)
  · refine ww_aload_n dX11_opensOne_7 rfl rfl ?_
    refine ww_get 7 dX11_opensOne_8 hM.K0 rfl (by decide) inX11 wg_1247 (mrS_7 _ _ _ _ _ _ _) ?_
    refine ww_bipush (v := nI 6) dX11_opensOne_11 (by decide) ?_
    refine ww_icmp_neN (tgt := 25) dX11_opensOne_13 (by decide) (by omega) (by omega) (fun c13 => ?_) (fun c13 => ?_)
    · refine ww_aload_n dX11_opensOne_25 rfl rfl ?_
      refine ww_cVr (M := m_X11_opensOne) (pc := 26) (v := .int (nI 1)) (h1 := mrS h m n a (-1) bk op) (st := []) (d := 1) (bc := 0) (bs := 0) (c_MR_fine_t hst hM htf hB hn a bk op) vv_X11_fine dX11_opensOne_26 wg_1421 hM.K0 rfl rfl rfl rfl (Nat.le_of_ble_eq_true rfl) (Nat.le_of_ble_eq_true rfl) (Nat.le_of_ble_eq_true rfl) (Nat.le_of_ble_eq_true rfl) ?_
      refine ww_if_eqN (tgt := 42) dX11_opensOne_29 (by decide) (by omega) (fun c29 => ?_) (fun c29 => ?_)
      · exact absurd c29 (by decide)
      · refine ww_aload_n dX11_opensOne_32 rfl rfl ?_
        refine ww_dup dX11_opensOne_33 rfl ?_
        refine ww_get 4 dX11_opensOne_34 hM.K0 rfl (by decide) inX11 wg_1244 (mrS_4 _ _ _ _ _ _ _) ?_
        refine ww_iload_n dX11_opensOne_37 rfl rfl ?_
        refine ww_iaddN dX11_opensOne_38 ?_
        refine ww_pfI tyX11 4 dX11_opensOne_39 hM.K0 rfl (by decide) inX11 tyX11_ok nmX11 wg_1244 rfl rfl ?_
        refine ww_hp (h2 := mrS h m n (a + w) (-1) bk op) (mrS_s4 _ _ _ _ _ _ _ _) ?_
        refine ww_aload_n dX11_opensOne_42 rfl rfl ?_
        refine ww_dup dX11_opensOne_43 rfl ?_
        refine ww_get 7 dX11_opensOne_44 hM.K0 rfl (by decide) inX11 wg_1247 (mrS_7 _ _ _ _ _ _ _) ?_
        refine ww_iconst (v := nI 1) dX11_opensOne_47 (by decide) ?_
        refine ww_iaddN dX11_opensOne_48 ?_
        refine ww_pfI tyX11 7 dX11_opensOne_49 hM.K0 rfl (by decide) inX11 tyX11_ok nmX11 wg_1247 rfl rfl ?_
        exact ww_vret dX11_opensOne_52 rfl ⟨rfl, mrS_s7 _ _ _ _ _ _ _ _⟩
    · exfalso; omega
set_option maxHeartbeats 4000000 in
set_option maxRecDepth 100000 in
theorem c_MR_opens_x {l : Launch} {Z : EE} (hst : l.stackTraces = false) {h : PH} {m : Nat} (hM : ModS h m) {tf : Nat → Int32} (htf : hp_I h (m + 2) = tf) {T : Nat → Nat} (hB : BT tf T) {n : Nat} (hn : n ≤ 600) (a : Nat) (bk : Int32) (op : Nat) (ha : a < 2 ^ 31) (ho : op = 6) (w : Nat) : CC l Z m_X11_opensOne 1 0 0 [.ref m, .int (nI w)] (mrS h m n a (-1) bk op) (RT none (mrS h m n a (nI a) (nI 3) (op + 1))) := by
  refine ee_entry hst (by decide +kernel) rfl rfl (by simp [Value.category]) (Nat.le_of_ble_eq_true rfl) ?_
  refine ww_lv (lv2 := [.ref m, .int (nI w)]) rfl ?_
  refine ww_aload_n dX11_opensOne_0 rfl rfl ?_
  refine ww_cVr (M := m_X11_opensOne) (pc := 1) (v := .int (nI 1)) (h1 := mrS h m n a (-1) bk op) (st := []) (d := 1) (bc := 0) (bs := 0) (c_MR_fine_t hst hM htf hB hn a bk op) vv_X11_fine dX11_opensOne_1 wg_1421 hM.K0 rfl rfl rfl rfl (Nat.le_of_ble_eq_true rfl) (Nat.le_of_ble_eq_true rfl) (Nat.le_of_ble_eq_true rfl) (Nat.le_of_ble_eq_true rfl) ?_
  refine ww_if_eqN (tgt := 25) dX11_opensOne_4 (by decide) (by omega) (fun c4 => ?_) (fun c4 => ?_)
  · exact absurd c4 (by decide)
  · refine ww_aload_n dX11_opensOne_7 rfl rfl ?_
    refine ww_get 7 dX11_opensOne_8 hM.K0 rfl (by decide) inX11 wg_1247 (mrS_7 _ _ _ _ _ _ _) ?_
    refine ww_bipush (v := nI 6) dX11_opensOne_11 (by decide) ?_
    refine ww_icmp_neN (tgt := 25) dX11_opensOne_13 (by decide) (by omega) (by omega) (fun c13 => ?_) (fun c13 => ?_)
    · exfalso; omega
    · refine ww_aload_n dX11_opensOne_16 rfl rfl ?_
      refine ww_iconst (v := nI 3) dX11_opensOne_17 (by decide) ?_
      refine ww_aload_n dX11_opensOne_18 rfl rfl ?_
      refine ww_get 4 dX11_opensOne_19 hM.K0 rfl (by decide) inX11 wg_1244 (mrS_4 _ _ _ _ _ _ _) ?_
      refine ww_cV0 (M := m_X11_opensOne) (pc := 22) (h1 := mrS h m n a (nI a) (nI 3) op) (st := []) (d := 1) (bc := 0) (bs := 0) (c_MR_wrong_t hst hM htf hB hn a bk op (nI 3) (nI a)) vv_X11_wrong dX11_opensOne_22 wg_1448 hM.K0 rfl rfl rfl rfl (Nat.le_of_ble_eq_true rfl) (Nat.le_of_ble_eq_true rfl) (Nat.le_of_ble_eq_true rfl) (Nat.le_of_ble_eq_true rfl) ?_
      refine ww_aload_n dX11_opensOne_25 rfl rfl ?_
      refine ww_cVr (M := m_X11_opensOne) (pc := 26) (v := .int (nI 0)) (h1 := mrS h m n a (nI a) (nI 3) op) (st := []) (d := 1) (bc := 0) (bs := 0) (c_MR_fine_f hst hM htf hB hn a (nI 3) op a (by omega)) vv_X11_fine dX11_opensOne_26 wg_1421 hM.K0 rfl rfl rfl rfl (Nat.le_of_ble_eq_true rfl) (Nat.le_of_ble_eq_true rfl) (Nat.le_of_ble_eq_true rfl) (Nat.le_of_ble_eq_true rfl) ?_
      refine ww_if_eqN (tgt := 42) dX11_opensOne_29 (by decide) (by omega) (fun c29 => ?_) (fun c29 => ?_)
      · refine ww_aload_n dX11_opensOne_42 rfl rfl ?_
        refine ww_dup dX11_opensOne_43 rfl ?_
        refine ww_get 7 dX11_opensOne_44 hM.K0 rfl (by decide) inX11 wg_1247 (mrS_7 _ _ _ _ _ _ _) ?_
        refine ww_iconst (v := nI 1) dX11_opensOne_47 (by decide) ?_
        refine ww_iaddN dX11_opensOne_48 ?_
        refine ww_pfI tyX11 7 dX11_opensOne_49 hM.K0 rfl (by decide) inX11 tyX11_ok nmX11 wg_1247 rfl rfl ?_
        exact ww_vret dX11_opensOne_52 rfl ⟨rfl, mrS_s7 _ _ _ _ _ _ _ _⟩
      · exact absurd c29 (by decide)
set_option maxHeartbeats 4000000 in
set_option maxRecDepth 100000 in
theorem c_MR_opens_f {l : Launch} {Z : EE} (hst : l.stackTraces = false) {h : PH} {m : Nat} (hM : ModS h m) {tf : Nat → Int32} (htf : hp_I h (m + 2) = tf) {T : Nat → Nat} (hB : BT tf T) {n : Nat} (hn : n ≤ 600) (a : Nat) (bk : Int32) (op : Nat) (q : Nat) (hq : q < 2 ^ 31) (w : Nat) : CC l Z m_X11_opensOne 1 0 0 [.ref m, .int (nI w)] (mrS h m n a (nI q) bk op) (RT none (mrS h m n a (nI q) bk (op + 1))) := by
  refine ee_entry hst (by decide +kernel) rfl rfl (by simp [Value.category]) (Nat.le_of_ble_eq_true rfl) ?_
  refine ww_lv (lv2 := [.ref m, .int (nI w)]) rfl ?_
  refine ww_aload_n dX11_opensOne_0 rfl rfl ?_
  refine ww_cVr (M := m_X11_opensOne) (pc := 1) (v := .int (nI 0)) (h1 := mrS h m n a (nI q) bk op) (st := []) (d := 1) (bc := 0) (bs := 0) (c_MR_fine_f hst hM htf hB hn a bk op q (by omega)) vv_X11_fine dX11_opensOne_1 wg_1421 hM.K0 rfl rfl rfl rfl (Nat.le_of_ble_eq_true rfl) (Nat.le_of_ble_eq_true rfl) (Nat.le_of_ble_eq_true rfl) (Nat.le_of_ble_eq_true rfl) ?_
  refine ww_if_eqN (tgt := 25) dX11_opensOne_4 (by decide) (by omega) (fun c4 => ?_) (fun c4 => ?_)
  · refine ww_aload_n dX11_opensOne_25 rfl rfl ?_
    refine ww_cVr (M := m_X11_opensOne) (pc := 26) (v := .int (nI 0)) (h1 := mrS h m n a (nI q) bk op) (st := []) (d := 1) (bc := 0) (bs := 0) (c_MR_fine_f hst hM htf hB hn a bk op q (by omega)) vv_X11_fine dX11_opensOne_26 wg_1421 hM.K0 rfl rfl rfl rfl (Nat.le_of_ble_eq_true rfl) (Nat.le_of_ble_eq_true rfl) (Nat.le_of_ble_eq_true rfl) (Nat.le_of_ble_eq_true rfl) ?_
    refine ww_if_eqN (tgt := 42) dX11_opensOne_29 (by decide) (by omega) (fun c29 => ?_) (fun c29 => ?_)
    · refine ww_aload_n dX11_opensOne_42 rfl rfl ?_
      refine ww_dup dX11_opensOne_43 rfl ?_
      refine ww_get 7 dX11_opensOne_44 hM.K0 rfl (by decide) inX11 wg_1247 (mrS_7 _ _ _ _ _ _ _) ?_
      refine ww_iconst (v := nI 1) dX11_opensOne_47 (by decide) ?_
      refine ww_iaddN dX11_opensOne_48 ?_
      refine ww_pfI tyX11 7 dX11_opensOne_49 hM.K0 rfl (by decide) inX11 tyX11_ok nmX11 wg_1247 rfl rfl ?_
      exact ww_vret dX11_opensOne_52 rfl ⟨rfl, mrS_s7 _ _ _ _ _ _ _ _⟩
    · exact absurd c29 (by decide)
  · exact absurd c4 (by decide)
