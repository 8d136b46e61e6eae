/-! ===== reading: scans, numbers, signs, words (both sides) ===== -/
def scn (p : Nat → Bool) (n : Nat) : Nat → Nat → Nat
  | 0, a => a
  | j + 1, a => if a < n ∧ p a = true then scn p n j (a + 1) else a
/-- the first place from a on, up to n, where p doesn't hold -/
def sc (p : Nat → Bool) (n a : Nat) : Nat := scn p n (n - a) a
theorem sc_stop {p : Nat → Bool} {n a : Nat} (h : ¬ (a < n ∧ p a = true)) : sc p n a = a := by
  unfold sc
  cases n - a with
  | zero => rfl
  | succ j => exact if_neg h
theorem sc_step {p : Nat → Bool} {n a : Nat} (h1 : a < n) (h2 : p a = true) : sc p n a = sc p n (a + 1) := by
  unfold sc
  rw [show n - a = (n - (a + 1)) + 1 by omega]
  exact if_pos ⟨h1, h2⟩
theorem sc_all {p : Nat → Bool} {n : Nat} : ∀ j a, a + j = n → a ≤ sc p n a ∧ sc p n a ≤ n ∧ (∀ i, a ≤ i → i < sc p n a → p i = true) ∧ (sc p n a < n → p (sc p n a) = false) := by
  intro j
  induction j with
  | zero =>
    intro a ha
    rw [sc_stop (by omega)]
    exact ⟨Nat.le_refl _, by omega, fun i h1 h2 => absurd h2 (by omega), fun h => absurd h (by omega)⟩
  | succ j ih =>
    intro a ha
    cases hp : p a with
    | true =>
      rw [sc_step (by omega) hp]
      obtain ⟨h1, h2, h3, h4⟩ := ih (a + 1) (by omega)
      refine ⟨by omega, h2, fun i g1 g2 => ?_, h4⟩
      rcases Nat.eq_or_lt_of_le g1 with e | e
      · rw [← e]; exact hp
      · exact h3 i e g2
    | false =>
      have hs : ¬ (a < n ∧ p a = true) := fun e => by rw [hp] at e; cases e.2
      rw [sc_stop hs]
      exact ⟨Nat.le_refl _, by omega, fun i h1 h2 => absurd h2 (by omega), fun _ => hp⟩
theorem sc_ge {p : Nat → Bool} {n a : Nat} (h : a ≤ n) : a ≤ sc p n a := (sc_all (n - a) a (by omega)).1
theorem sc_le {p : Nat → Bool} {n a : Nat} (h : a ≤ n) : sc p n a ≤ n := (sc_all (n - a) a (by omega)).2.1
theorem sc_in {p : Nat → Bool} {n a : Nat} (h : a ≤ n) {i : Nat} (h1 : a ≤ i) (h2 : i < sc p n a) : p i = true := (sc_all (n - a) a (by omega)).2.2.1 i h1 h2
theorem sc_out {p : Nat → Bool} {n a : Nat} (h : a ≤ n) (h1 : sc p n a < n) : p (sc p n a) = false := (sc_all (n - a) a (by omega)).2.2.2 h1
theorem sc_id {p : Nat → Bool} {n a : Nat} (h : a ≤ n) : sc p n (sc p n a) = sc p n a := sc_stop (fun e => by rw [sc_out h e.1] at e; cases e.2)
/-- behind the blanks -/
def sk (T : Nat → Nat) (n a : Nat) : Nat := sc (fun i => T i == 32) n a
theorem sk_le {T : Nat → Nat} {n a : Nat} (h : a ≤ n) : sk T n a ≤ n := sc_le h
theorem sk_ge {T : Nat → Nat} {n a : Nat} (h : a ≤ n) : a ≤ sk T n a := sc_ge h
theorem sk_id {T : Nat → Nat} {n a : Nat} (h : a ≤ n) : sk T n (sk T n a) = sk T n a := sc_id h
def leB (T : Nat → Nat) (i : Nat) : Bool := decide (97 ≤ T i) && decide (T i ≤ 122)
def dgB (T : Nat → Nat) (i : Nat) : Bool := decide (48 ≤ T i) && decide (T i ≤ 57)
theorem leB_t {T : Nat → Nat} {i : Nat} : leB T i = true ↔ 97 ≤ T i ∧ T i ≤ 122 := by unfold leB; rw [Bool.and_eq_true, decide_eq_true_iff, decide_eq_true_iff]
theorem dgB_t {T : Nat → Nat} {i : Nat} : dgB T i = true ↔ 48 ≤ T i ∧ T i ≤ 57 := by unfold dgB; rw [Bool.and_eq_true, decide_eq_true_iff, decide_eq_true_iff]
theorem leB_f {T : Nat → Nat} {i : Nat} (h : ¬ (97 ≤ T i ∧ T i ≤ 122)) : leB T i = false := Bool.eq_false_iff.mpr (fun e => h (leB_t.mp e))
theorem dgB_f {T : Nat → Nat} {i : Nat} (h : ¬ (48 ≤ T i ∧ T i ≤ 57)) : dgB T i = false := Bool.eq_false_iff.mpr (fun e => h (dgB_t.mp e))
theorem sk_bl {T : Nat → Nat} {n a : Nat} (h1 : a < n) (h2 : T a = 32) : sk T n a = sk T n (a + 1) := sc_step h1 (by show (T a == 32) = true; rw [h2]; rfl)
theorem sk_no {T : Nat → Nat} {n a : Nat} (h : ¬ (a < n ∧ T a = 32)) : sk T n a = a := sc_stop (fun e => h ⟨e.1, by have h9 : (T a == 32) = true := e.2; exact eq_of_beq h9⟩)
theorem sk_n (T : Nat → Nat) (n : Nat) : sk T n n = n := sc_stop (fun e => absurd e.1 (by omega))
theorem sk_nb {T : Nat → Nat} {n a : Nat} (h : a ≤ n) (h1 : sk T n a < n) : T (sk T n a) ≠ 32 := fun e => by
  have h9 : (T (sk T n a) == 32) = false := sc_out (p := fun i => T i == 32) h h1
  rw [e] at h9; cases h9
/-- the number that j digits from a on tell -/
def nmV (T : Nat → Nat) (a : Nat) : Nat → Nat
  | 0 => 0
  | j + 1 => 10 * nmV T a j + (T (a + j) - 48)
/-- what reading comes to: a fault (kind, place), or the place behind it and a value -/
abbrev PR (α : Type) : Type := (Nat × Nat) ⊕ (Nat × α)
def figS (T : Nat → Nat) (n lo hx a : Nat) : PR Nat :=
  if sc (dgB T) n (sk T n a) = sk T n a then .inl (1, sk T n a)
  else if lo ≤ nmV T (sk T n a) (sc (dgB T) n (sk T n a) - sk T n a) ∧ nmV T (sk T n a) (sc (dgB T) n (sk T n a) - sk T n a) < hx then .inr (sc (dgB T) n (sk T n a), nmV T (sk T n a) (sc (dgB T) n (sk T n a) - sk T n a))
  else .inl (2, sk T n a)
def sgnS (T : Nat → Nat) (n c a : Nat) : PR Unit := if sk T n a < n ∧ T (sk T n a) = c then .inr (sk T n a + 1, ()) else .inl (1, sk T n a)
def maB : List Nat → (Nat → Nat) → Nat → Bool
  | [], _, _ => true
  | c :: w, T, a => T a == c && maB w T (a + 1)
/-- the letters from a up to e are this word -/
def eqW (w : List Nat) (T : Nat → Nat) (a e : Nat) : Bool := e == a + w.length && maB w T a
def fdW (T : Nat → Nat) (a e : Nat) : List (List Nat) → Nat → Option Nat
  | [], _ => none
  | w :: ws, k => if eqW w T a e = true then some k else fdW T a e ws (k + 1)
def wrdS (W : List (List Nat)) (T : Nat → Nat) (n a : Nat) : PR Nat := match fdW T (sk T n a) (sc (leB T) n (sk T n a)) W 0 with
  | none => .inl (1, sk T n a)
  | some k => .inr (sc (leB T) n (sk T n a), k)
def bS {α β : Type} (r : PR α) (f : Nat → α → PR β) : PR β := match r with
  | .inl e => .inl e
  | .inr x => f x.1 x.2
theorem bS_l {α β : Type} (e : Nat × Nat) (f : Nat → α → PR β) : bS (.inl e) f = .inl e := rfl
theorem bS_r {α β : Type} (a : Nat) (v : α) (f : Nat → α → PR β) : bS (.inr (a, v)) f = f a v := rfl
theorem figS_r {T : Nat → Nat} {n lo hx a b v : Nat} (ha : a ≤ n) (h : figS T n lo hx a = .inr (b, v)) : sk T n a < b ∧ b ≤ n ∧ lo ≤ v ∧ v < hx := by
  have h1 := sk_le (T := T) ha
  have h2 := sc_le (p := dgB T) h1
  have h3 := sc_ge (p := dgB T) h1
  unfold figS at h
  split at h
  · cases h
  · rename_i hne
    split at h
    · rename_i hv; cases h; exact ⟨by omega, h2, hv.1, hv.2⟩
    · cases h
theorem figS_l {T : Nat → Nat} {n lo hx a k q : Nat} (h : figS T n lo hx a = .inl (k, q)) : (k = 1 ∨ k = 2) ∧ q = sk T n a := by
  unfold figS at h
  split at h
  · cases h; exact ⟨Or.inl rfl, rfl⟩
  · split at h
    · cases h
    · cases h; exact ⟨Or.inr rfl, rfl⟩
theorem sgnS_r {T : Nat → Nat} {n c a b : Nat} {u : Unit} (h : sgnS T n c a = .inr (b, u)) : b = sk T n a + 1 ∧ sk T n a < n ∧ T (sk T n a) = c := by
  unfold sgnS at h
  split at h
  · rename_i hc; cases h; exact ⟨rfl, hc⟩
  · cases h
theorem sgnS_l {T : Nat → Nat} {n c a k q : Nat} (h : sgnS T n c a = .inl (k, q)) : k = 1 ∧ q = sk T n a ∧ ¬ (sk T n a < n ∧ T (sk T n a) = c) := by
  unfold sgnS at h
  split at h
  · cases h
  · rename_i hc; cases h; exact ⟨rfl, rfl, hc⟩
theorem eqW_le {w : List Nat} {T : Nat → Nat} {a e : Nat} (h : eqW w T a e = true) : e = a + w.length := by
  unfold eqW at h
  rw [Bool.and_eq_true] at h
  exact eq_of_beq h.1
theorem fdW_k {T : Nat → Nat} {a e : Nat} : ∀ (W : List (List Nat)) (k j : Nat), fdW T a e W k = some j → k ≤ j ∧ j < k + W.length ∧ ∃ w, W[j - k]? = some w ∧ eqW w T a e = true
  | [], k, j, h => by cases h
  | w :: ws, k, j, h => by
    unfold fdW at h
    split at h
    · rename_i hw
      cases h
      exact ⟨Nat.le_refl _, by simp, w, by simp, hw⟩
    · obtain ⟨h1, h2, w2, h3, h4⟩ := fdW_k ws (k + 1) j h
      refine ⟨by omega, by simp only [List.length_cons]; omega, w2, ?_, h4⟩
      rw [show j - k = (j - (k + 1)) + 1 by omega, List.getElem?_cons_succ]
      exact h3
theorem wrdS_r {W : List (List Nat)} {T : Nat → Nat} {n a b k : Nat} (h : wrdS W T n a = .inr (b, k)) : b = sc (leB T) n (sk T n a) ∧ fdW T (sk T n a) b W 0 = some k := by
  unfold wrdS at h
  split at h
  · cases h
  · rename_i j hj; cases h; exact ⟨rfl, hj⟩
theorem wrdS_l {W : List (List Nat)} {T : Nat → Nat} {n a k q : Nat} (h : wrdS W T n a = .inl (k, q)) : k = 1 ∧ q = sk T n a ∧ fdW T (sk T n a) (sc (leB T) n (sk T n a)) W 0 = none := by
  unfold wrdS at h
  split at h
  · rename_i hj; cases h; exact ⟨rfl, rfl, hj⟩
  · cases h
/-- the known words -/
def wLand : List (List Nat) := [[112, 101, 114, 115, 111, 110], [111, 119, 110], [100, 117, 116, 121]]
def wLaw : List (List Nat) := [[110, 117, 109, 98, 101, 114], [114, 101, 110, 116], [119, 97, 121], [111, 119, 110, 101, 114], [112, 97, 114, 116, 115], [117, 115, 101, 100], [100, 97, 121], [108, 101, 97, 115, 116], [109, 111, 115, 116]]
def wWork : List (List Nat) := [[117, 115, 101], [115, 101, 108, 108], [114, 101, 110, 116], [100, 97, 121], [97, 103, 97, 105, 110]]
theorem wrdS_lt {W : List (List Nat)} {T : Nat → Nat} {n a b k : Nat} (hW : ∀ w ∈ W, w ≠ []) (ha : a ≤ n) (h : wrdS W T n a = .inr (b, k)) : sk T n a < b ∧ b ≤ n ∧ k < W.length := by
  obtain ⟨h1, h2⟩ := wrdS_r h
  obtain ⟨-, g2, w, g3, g4⟩ := fdW_k W 0 k h2
  have g5 := eqW_le g4
  have g6 := hW w (List.mem_of_getElem? g3)
  have g7 : 0 < w.length := List.length_pos_iff.mpr g6
  exact ⟨by omega, by rw [h1]; exact sc_le (sk_le ha), by omega⟩
/-! the class's side -/
def BT (tf : Nat → Int32) (T : Nat → Nat) : Prop := ∀ i, tf i = nI (T i) ∧ T i < 256
def RdK (h : PH) (tf : Nat → Int32) : Prop := hp_K h 1 = (5, 6) ∧ hp_K h 2 = (20, 600) ∧ hp_F h 1 0 = .ref 2 ∧ hp_I h 2 = tf
def rdS (h : PH) (n a k : Nat) (pl : Int32) : PH := hp_sF (hp_sF (hp_sF (hp_sF h 1 2 (.int (nI n))) 1 3 (.int (nI a))) 1 4 (.int (nI k))) 1 5 (.int pl)
theorem rdS_2 (h : PH) (n a k : Nat) (pl : Int32) : hp_F (rdS h n a k pl) 1 2 = .int (nI n) := rfl
theorem rdS_3 (h : PH) (n a k : Nat) (pl : Int32) : hp_F (rdS h n a k pl) 1 3 = .int (nI a) := rfl
theorem rdS_4 (h : PH) (n a k : Nat) (pl : Int32) : hp_F (rdS h n a k pl) 1 4 = .int (nI k) := rfl
theorem rdS_5 (h : PH) (n a k : Nat) (pl : Int32) : hp_F (rdS h n a k pl) 1 5 = .int pl := rfl
theorem rdS_o {h : PH} {b j : Nat} {v : Value} (n a k : Nat) (pl : Int32) (hb : b ≠ 1) (e : hp_F h b j = v) : hp_F (rdS h n a k pl) b j = v := by
  unfold rdS
  exact hp_F_na hb (hp_F_na hb (hp_F_na hb (hp_F_na hb e)))
theorem rdS_j {h : PH} {j : Nat} {v : Value} (n a k : Nat) (pl : Int32) (hj : j < 2) (e : hp_F h 1 j = v) : hp_F (rdS h n a k pl) 1 j = v := by
  unfold rdS
  exact hp_F_nj (by omega) (hp_F_nj (by omega) (hp_F_nj (by omega) (hp_F_nj (by omega) e)))
theorem rdS_F (h : PH) (n a k : Nat) (pl : Int32) (b j : Nat) : hp_F (rdS h n a k pl) b j = if b = 1 ∧ j = 5 then .int pl else if b = 1 ∧ j = 4 then .int (nI k) else if b = 1 ∧ j = 3 then .int (nI a) else if b = 1 ∧ j = 2 then .int (nI n) else hp_F h b j := rfl
theorem rdS_s3 (h : PH) (n a k : Nat) (pl : Int32) (a2 : Nat) : hp_sF (rdS h n a k pl) 1 3 (.int (nI a2)) = rdS h n a2 k pl := by
  refine hp_ext rfl (fun _ => rfl) (fun b j => ?_) (fun _ => rfl) (fun _ => rfl)
  show (if b = 1 ∧ j = 3 then _ else hp_F (rdS h n a k pl) b j) = _
  rw [rdS_F, rdS_F]
  by_cases e : b = 1 ∧ j = 3
  · rw [if_pos e, if_neg (by omega), if_neg (by omega), if_pos e]
  · rw [if_neg e, if_neg e, if_neg e]
theorem rdS_s453 (h : PH) (n a k : Nat) (pl : Int32) (k2 : Nat) (p2 : Int32) (a2 : Nat) : hp_sF (hp_sF (hp_sF (rdS h n a k pl) 1 4 (.int (nI k2))) 1 5 (.int p2)) 1 3 (.int (nI a2)) = rdS h n a2 k2 p2 := by
  refine hp_ext rfl (fun _ => rfl) (fun b j => ?_) (fun _ => rfl) (fun _ => rfl)
  show (if b = 1 ∧ j = 3 then _ else if b = 1 ∧ j = 5 then _ else if b = 1 ∧ j = 4 then _ else hp_F (rdS h n a k pl) b j) = _
  rw [rdS_F, rdS_F]
  by_cases e3 : b = 1 ∧ j = 3
  · rw [if_pos e3, if_neg (by omega), if_neg (by omega), if_pos e3]
  · rw [if_neg e3, if_neg e3, if_neg e3]
    by_cases e5 : b = 1 ∧ j = 5
    · rw [if_pos e5, if_pos e5]
    · rw [if_neg e5, if_neg e5, if_neg e5]
      by_cases e4 : b = 1 ∧ j = 4
      · rw [if_pos e4, if_pos e4]
      · rw [if_neg e4, if_neg e4, if_neg e4]
theorem RdK.rd {h : PH} {tf : Nat → Int32} (hR : RdK h tf) (n a k : Nat) (pl : Int32) : RdK (rdS h n a k pl) tf := ⟨hR.1, hR.2.1, rdS_j n a k pl (by decide) hR.2.2.1, hR.2.2.2⟩
def chI (T : Nat → Nat) (n a : Nat) : Int32 := if a < n then nI (T a) else -1
set_option maxHeartbeats 4000000 in
set_option maxRecDepth 100000 in
theorem l_Rd_ahead {l : Launch} {Z : EE} (hst : l.stackTraces = false) {h : PH} {tf : Nat → Int32} (hR : RdK h tf) {T : Nat → Nat} (hB : BT tf T) {n : Nat} (hn : n ≤ 600) (k : Nat) (pl : Int32) : ∀ (j a : Nat), a + j = n → WW l Z m_X5_ahead 0 0 0 0 [.ref 1] [] (rdS h n a k pl) (RT (some (.int (chI T n (sk T n a)))) (rdS h n (sk T n a) k pl)) := by
  intro j
  induction j with
  | zero =>
    intro a ha
    have ha0 : a = n := by omega
    subst ha0
    rw [sk_n]
    refine ww_aload_n dX5_ahead_0 rfl rfl ?_
    refine ww_get 3 dX5_ahead_1 hR.1 rfl (by decide) inX5 wg_45 (rdS_3 _ _ _ _ _) ?_
    refine ww_aload_n dX5_ahead_4 rfl rfl ?_
    refine ww_get 2 dX5_ahead_5 hR.1 rfl (by decide) inX5 wg_41 (rdS_2 _ _ _ _ _) ?_
    refine ww_icmp_geN (tgt := 38) dX5_ahead_8 (by decide) (by omega) (by omega) (fun c8 => ?_) (fun c8 => ?_)
    · refine ww_aload_n dX5_ahead_38 rfl rfl ?_
      refine ww_get 3 dX5_ahead_39 hR.1 rfl (by decide) inX5 wg_45 (rdS_3 _ _ _ _ _) ?_
      refine ww_aload_n dX5_ahead_42 rfl rfl ?_
      refine ww_get 2 dX5_ahead_43 hR.1 rfl (by decide) inX5 wg_41 (rdS_2 _ _ _ _ _) ?_
      refine ww_icmp_geN (tgt := 61) dX5_ahead_46 (by decide) (by omega) (by omega) (fun c46 => ?_) (fun c46 => ?_)
      · refine ww_iconst (v := -1) dX5_ahead_61 (by decide) ?_
        exact ww_iret dX5_ahead_62 rfl ⟨by unfold chI; rw [if_neg (by omega)], rfl⟩
      · exfalso; omega
    · exfalso; omega
  | succ j ih =>
    intro a ha
    have hTa := (hB a).2
    refine ww_aload_n dX5_ahead_0 rfl rfl ?_
    refine ww_get 3 dX5_ahead_1 hR.1 rfl (by decide) inX5 wg_45 (rdS_3 _ _ _ _ _) ?_
    refine ww_aload_n dX5_ahead_4 rfl rfl ?_
    refine ww_get 2 dX5_ahead_5 hR.1 rfl (by decide) inX5 wg_41 (rdS_2 _ _ _ _ _) ?_
    refine ww_icmp_geN (tgt := 38) dX5_ahead_8 (by decide) (by omega) (by omega) (fun c8 => ?_) (fun c8 => ?_)
    · exfalso; omega
    · refine ww_aload_n dX5_ahead_11 rfl rfl ?_
      refine ww_get 0 dX5_ahead_12 hR.1 rfl (by decide) inX5 wg_38 (rdS_j _ _ _ _ (by decide) hR.2.2.1) ?_
      refine ww_aload_n dX5_ahead_15 rfl rfl ?_
      refine ww_get 3 dX5_ahead_16 hR.1 rfl (by decide) inX5 wg_45 (rdS_3 _ _ _ _ _) ?_
      refine ww_ialdF dX5_ahead_19 hR.2.1 hR.2.2.2 (by omega) (by omega) ?_
      have hT20 := (hB a).2
      refine ww_sk (st2 := [.int (nI (T a))]) (by rw [(hB a).1]) ?_
      refine ww_bipush (v := nI 32) dX5_ahead_20 (by decide) ?_
      refine ww_icmp_neN (tgt := 38) dX5_ahead_22 (by decide) (by omega) (by omega) (fun c22 => ?_) (fun c22 => ?_)
      · rw [sk_no (fun e => c22 e.2)]
        refine ww_aload_n dX5_ahead_38 rfl rfl ?_
        refine ww_get 3 dX5_ahead_39 hR.1 rfl (by decide) inX5 wg_45 (rdS_3 _ _ _ _ _) ?_
        refine ww_aload_n dX5_ahead_42 rfl rfl ?_
        refine ww_get 2 dX5_ahead_43 hR.1 rfl (by decide) inX5 wg_41 (rdS_2 _ _ _ _ _) ?_
        refine ww_icmp_geN (tgt := 61) dX5_ahead_46 (by decide) (by omega) (by omega) (fun c46 => ?_) (fun c46 => ?_)
        · exfalso; omega
        · refine ww_aload_n dX5_ahead_49 rfl rfl ?_
          refine ww_get 0 dX5_ahead_50 hR.1 rfl (by decide) inX5 wg_38 (rdS_j _ _ _ _ (by decide) hR.2.2.1) ?_
          refine ww_aload_n dX5_ahead_53 rfl rfl ?_
          refine ww_get 3 dX5_ahead_54 hR.1 rfl (by decide) inX5 wg_45 (rdS_3 _ _ _ _ _) ?_
          refine ww_ialdF dX5_ahead_57 hR.2.1 hR.2.2.2 (by omega) (by omega) ?_
          have hT58 := (hB a).2
          refine ww_sk (st2 := [.int (nI (T a))]) (by rw [(hB a).1]) ?_
          refine ww_goto (tgt := 62) dX5_ahead_58 (by decide) ?_
          exact ww_iret dX5_ahead_62 rfl ⟨by unfold chI; rw [if_pos (by omega)], rfl⟩
      · refine ww_aload_n dX5_ahead_25 rfl rfl ?_
        refine ww_dup dX5_ahead_26 rfl ?_
        refine ww_get 3 dX5_ahead_27 hR.1 rfl (by decide) inX5 wg_45 (rdS_3 _ _ _ _ _) ?_
        refine ww_iconst (v := nI 1) dX5_ahead_30 (by decide) ?_
        refine ww_iaddN dX5_ahead_31 ?_
        refine ww_pfI tyX5 3 dX5_ahead_32 hR.1 rfl (by decide) inX5 tyX5_ok nmX5 wg_45 rfl rfl ?_
        refine ww_goto (tgt := 0) dX5_ahead_35 (by decide) ?_
        rw [sk_bl (by omega) c22]
        refine ww_hp (rdS_s3 h n a k pl (a + 1)) ?_
        exact ih (a + 1) (by omega)
set_option maxHeartbeats 4000000 in
set_option maxRecDepth 100000 in
theorem c_Rd_ahead {l : Launch} {Z : EE} (hst : l.stackTraces = false) {h : PH} {tf : Nat → Int32} (hR : RdK h tf) {T : Nat → Nat} (hB : BT tf T) {n : Nat} (hn : n ≤ 600) (k : Nat) (pl : Int32) (a : Nat) (ha : a ≤ n) : CC l Z m_X5_ahead 0 0 0 [.ref 1] (rdS h n a k pl) (RT (some (.int (chI T n (sk T n a)))) (rdS h n (sk T n a) k pl)) := by
  refine ee_entry hst (by decide +kernel) rfl rfl (by simp [Value.category]) (Nat.le_of_ble_eq_true rfl) ?_
  refine ww_lv (lv2 := [.ref 1]) rfl ?_
  exact l_Rd_ahead hst hR hB hn k pl (n - a) a (by omega)
theorem chI_in {T : Nat → Nat} {n a : Nat} (h : a < n) : chI T n a = nI (T a) := if_pos h
theorem chI_out {T : Nat → Nat} {n a : Nat} (h : ¬ a < n) : chI T n a = -1 := if_neg h
theorem chI_ne {T : Nat → Nat} {n a c : Nat} (hc : c < 2 ^ 31) (hT : T a < 256) (h : ¬ (a < n ∧ T a = c)) : chI T n a ≠ nI c := by
  intro e
  by_cases hl : a < n
  · rw [chI_in hl] at e
    exact h ⟨hl, (nI_eq (by omega) hc).mp e⟩
  · rw [chI_out hl] at e
    exact nI_m1 hc e.symm
theorem chI_eq {T : Nat → Nat} {n a c : Nat} (h1 : a < n) (h2 : T a = c) : chI T n a = nI c := by rw [chI_in h1, h2]
set_option maxHeartbeats 4000000 in
set_option maxRecDepth 100000 in
theorem c_Rd_fail0 {l : Launch} {Z : EE} (hst : l.stackTraces = false) {h : PH} {tf : Nat → Int32} (hR : RdK h tf) {T : Nat → Nat} (hB : BT tf T) {n : Nat} (hn : n ≤ 600) (a : Nat) (pl : Int32) (f : Nat) (w : Int32) : CC l Z m_X5_fail 0 0 0 [.ref 1, .int (nI f), .int w] (rdS h n a 0 pl) (RT none (rdS h n n f w)) := by
  refine ee_entry hst (by decide +kernel) rfl rfl (by simp [Value.category]) (Nat.le_of_ble_eq_true rfl) ?_
  refine ww_lv (lv2 := [.ref 1, .int (nI f), .int w]) rfl ?_
  refine ww_aload_n dX5_fail_0 rfl rfl ?_
  refine ww_get 4 dX5_fail_1 hR.1 rfl (by decide) inX5 wg_47 (rdS_4 _ _ _ _ _) ?_
  refine ww_if_neN (tgt := 17) dX5_fail_4 (by decide) (by omega) (fun c4 => ?_) (fun c4 => ?_)
  · exact absurd c4 (by decide)
  · refine ww_aload_n dX5_fail_7 rfl rfl ?_
    refine ww_iload_n dX5_fail_8 rfl rfl ?_
    refine ww_pfI tyX5 4 dX5_fail_9 hR.1 rfl (by decide) inX5 tyX5_ok nmX5 wg_47 rfl rfl ?_
    refine ww_aload_n dX5_fail_12 rfl rfl ?_
    refine ww_iload_n dX5_fail_13 rfl rfl ?_
    refine ww_pfI tyX5 5 dX5_fail_14 hR.1 rfl (by decide) inX5 tyX5_ok nmX5 wg_48 rfl rfl ?_
    refine ww_aload_n dX5_fail_17 rfl rfl ?_
    refine ww_aload_n dX5_fail_18 rfl rfl ?_
    refine ww_get 2 dX5_fail_19 hR.1 rfl (by decide) inX5 wg_41 (hp_F_nj (by decide) (hp_F_nj (by decide) (rdS_2 _ _ _ _ _))) ?_
    refine ww_pfI tyX5 3 dX5_fail_22 hR.1 rfl (by decide) inX5 tyX5_ok nmX5 wg_45 rfl rfl ?_
    exact ww_vret dX5_fail_25 rfl ⟨rfl, rdS_s453 h n a 0 pl f w n⟩
set_option maxHeartbeats 4000000 in
set_option maxRecDepth 100000 in
theorem c_Rd_fail1 {l : Launch} {Z : EE} (hst : l.stackTraces = false) {h : PH} {tf : Nat → Int32} (hR : RdK h tf) {T : Nat → Nat} (hB : BT tf T) {n : Nat} (hn : n ≤ 600) (a k : Nat) (hk : 0 < k) (hk9 : k < 10) (pl : Int32) (f : Nat) (w : Int32) : CC l Z m_X5_fail 0 0 0 [.ref 1, .int (nI f), .int w] (rdS h n a k pl) (RT none (rdS h n n k pl)) := by
  refine ee_entry hst (by decide +kernel) rfl rfl (by simp [Value.category]) (Nat.le_of_ble_eq_true rfl) ?_
  refine ww_lv (lv2 := [.ref 1, .int (nI f), .int w]) rfl ?_
  refine ww_aload_n dX5_fail_0 rfl rfl ?_
  refine ww_get 4 dX5_fail_1 hR.1 rfl (by decide) inX5 wg_47 (rdS_4 _ _ _ _ _) ?_
  refine ww_if_neN (tgt := 17) dX5_fail_4 (by decide) (by omega) (fun c4 => ?_) (fun c4 => ?_)
  · refine ww_aload_n dX5_fail_17 rfl rfl ?_
    refine ww_aload_n dX5_fail_18 rfl rfl ?_
    refine ww_get 2 dX5_fail_19 hR.1 rfl (by decide) inX5 wg_41 (rdS_2 _ _ _ _ _) ?_
    refine ww_pfI tyX5 3 dX5_fail_22 hR.1 rfl (by decide) inX5 tyX5_ok nmX5 wg_45 rfl rfl ?_
    exact ww_vret dX5_fail_25 rfl ⟨rfl, rdS_s3 h n a k pl n⟩
  · exfalso; omega
set_option maxHeartbeats 4000000 in
set_option maxRecDepth 100000 in
theorem c_Rd_sign_r {l : Launch} {Z : EE} (hst : l.stackTraces = false) {h : PH} {tf : Nat → Int32} (hR : RdK h tf) {T : Nat → Nat} (hB : BT tf T) {n : Nat} (hn : n ≤ 600) (a : Nat) (ha : a ≤ n) (c : Nat) (hc : c < 2 ^ 31) {b : Nat} {u : Unit} (hr : sgnS T n c a = .inr (b, u)) : CC l Z m_X5_sign 1 0 0 [.ref 1, .int (nI c)] (rdS h n a 0 (-1)) (RT none (rdS h n b 0 (-1))) := by
  refine ee_entry hst (by decide +kernel) rfl rfl (by simp [Value.category]) (Nat.le_of_ble_eq_true rfl) ?_
  refine ww_lv (lv2 := [.ref 1, .int (nI c)]) rfl ?_
  have hs1 := sk_le (T := T) ha
  have hs2 := sk_ge (T := T) ha
  obtain ⟨hb0, hb1, hb2⟩ := sgnS_r hr
  subst hb0
  refine ww_aload_n dX5_sign_0 rfl rfl ?_
  refine ww_cVr (M := m_X5_sign) (pc := 1) (v := .int (chI T n (sk T n a))) (h1 := rdS h n (sk T n a) 0 (-1)) (st := []) (d := 1) (bc := 0) (bs := 0) (c_Rd_ahead hst hR hB hn 0 (-1) a (by omega)) vv_X5_ahead dX5_sign_1 wg_502 hR.1 rfl rfl rfl rfl (Nat.le_of_ble_eq_true rfl) (Nat.le_of_ble_eq_true rfl) (Nat.le_of_ble_eq_true rfl) (Nat.le_of_ble_eq_true rfl) ?_
  refine ww_iload_n dX5_sign_4 rfl rfl ?_
  refine ww_icmp_ne (tgt := 21) dX5_sign_5 (by decide) (fun c5 => ?_) (fun c5 => ?_)
  · exact absurd (chI_eq hb1 hb2) c5
  · refine ww_aload_n dX5_sign_8 rfl rfl ?_
    refine ww_dup dX5_sign_9 rfl ?_
    refine ww_get 3 dX5_sign_10 hR.1 rfl (by decide) inX5 wg_45 (rdS_3 _ _ _ _ _) ?_
    refine ww_iconst (v := nI 1) dX5_sign_13 (by decide) ?_
    refine ww_iaddN dX5_sign_14 ?_
    refine ww_pfI tyX5 3 dX5_sign_15 hR.1 rfl (by decide) inX5 tyX5_ok nmX5 wg_45 rfl rfl ?_
    refine ww_goto (tgt := 30) dX5_sign_18 (by decide) ?_
    exact ww_vret dX5_sign_30 rfl ⟨rfl, rdS_s3 _ _ _ _ _ _⟩
set_option maxHeartbeats 4000000 in
set_option maxRecDepth 100000 in
theorem c_Rd_sign_l {l : Launch} {Z : EE} (hst : l.stackTraces = false) {h : PH} {tf : Nat → Int32} (hR : RdK h tf) {T : Nat → Nat} (hB : BT tf T) {n : Nat} (hn : n ≤ 600) (a : Nat) (ha : a ≤ n) (c : Nat) (hc : c < 2 ^ 31) {k q : Nat} (hr : sgnS T n c a = .inl (k, q)) : CC l Z m_X5_sign 1 0 0 [.ref 1, .int (nI c)] (rdS h n a 0 (-1)) (RT none (rdS h n n k (nI q))) := by
  refine ee_entry hst (by decide +kernel) rfl rfl (by simp [Value.category]) (Nat.le_of_ble_eq_true rfl) ?_
  refine ww_lv (lv2 := [.ref 1, .int (nI c)]) rfl ?_
  have hs1 := sk_le (T := T) ha
  have hs2 := sk_ge (T := T) ha
  obtain ⟨hb0, hb1, hb2⟩ := sgnS_l hr
  subst hb0 hb1
  refine ww_aload_n dX5_sign_0 rfl rfl ?_
  refine ww_cVr (M := m_X5_sign) (pc := 1) (v := .int (chI T n (sk T n a))) (h1 := rdS h n (sk T n a) 0 (-1)) (st := []) (d := 1) (bc := 0) (bs := 0) (c_Rd_ahead hst hR hB hn 0 (-1) a (by omega)) vv_X5_ahead dX5_sign_1 wg_502 hR.1 rfl rfl rfl rfl (Nat.le_of_ble_eq_true rfl) (Nat.le_of_ble_eq_true rfl) (Nat.le_of_ble_eq_true rfl) (Nat.le_of_ble_eq_true rfl) ?_
  refine ww_iload_n dX5_sign_4 rfl rfl ?_
  refine ww_icmp_ne (tgt := 21) dX5_sign_5 (by decide) (fun c5 => ?_) (fun c5 => ?_)
  · refine ww_aload_n dX5_sign_21 rfl rfl ?_
    refine ww_iconst (v := nI 1) dX5_sign_22 (by decide) ?_
    refine ww_aload_n dX5_sign_23 rfl rfl ?_
    refine ww_get 3 dX5_sign_24 hR.1 rfl (by decide) inX5 wg_45 (rdS_3 _ _ _ _ _) ?_
    refine ww_cV0 (M := m_X5_sign) (pc := 27) (h1 := rdS h n n 1 (nI (sk T n a))) (st := []) (d := 1) (bc := 0) (bs := 0) (c_Rd_fail0 hst hR hB hn (sk T n a) (-1) 1 (nI (sk T n a))) vv_X5_fail dX5_sign_27 wg_559 hR.1 rfl rfl rfl rfl (Nat.le_of_ble_eq_true rfl) (Nat.le_of_ble_eq_true rfl) (Nat.le_of_ble_eq_true rfl) (Nat.le_of_ble_eq_true rfl) ?_
    exact ww_vret dX5_sign_30 rfl ⟨rfl, rfl⟩
  · exact absurd c5 (chI_ne hc (hB _).2 hb2)
set_option maxHeartbeats 4000000 in
set_option maxRecDepth 100000 in
theorem c_Rd_sign_f {l : Launch} {Z : EE} (hst : l.stackTraces = false) {h : PH} {tf : Nat → Int32} (hR : RdK h tf) {T : Nat → Nat} (hB : BT tf T) {n : Nat} (hn : n ≤ 600) (k : Nat) (hk : 0 < k) (hk9 : k < 10) (pl : Int32) (c : Nat) (hc : c < 2 ^ 31) : CC l Z m_X5_sign 1 0 0 [.ref 1, .int (nI c)] (rdS h n n k pl) (RT none (rdS h n n k pl)) := by
  refine ee_entry hst (by decide +kernel) rfl rfl (by simp [Value.category]) (Nat.le_of_ble_eq_true rfl) ?_
  refine ww_lv (lv2 := [.ref 1, .int (nI c)]) rfl ?_
  refine ww_aload_n dX5_sign_0 rfl rfl ?_
  refine ww_cVr (M := m_X5_sign) (pc := 1) (v := .int (chI T n (sk T n n))) (h1 := rdS h n (sk T n n) k pl) (st := []) (d := 1) (bc := 0) (bs := 0) (c_Rd_ahead hst hR hB hn k pl n (by omega)) vv_X5_ahead dX5_sign_1 wg_502 hR.1 rfl rfl rfl rfl (Nat.le_of_ble_eq_true rfl) (Nat.le_of_ble_eq_true rfl) (Nat.le_of_ble_eq_true rfl) (Nat.le_of_ble_eq_true rfl) ?_
  refine ww_iload_n dX5_sign_4 rfl rfl ?_
  refine ww_icmp_ne (tgt := 21) dX5_sign_5 (by decide) (fun c5 => ?_) (fun c5 => ?_)
  · refine ww_aload_n dX5_sign_21 rfl rfl ?_
    refine ww_iconst (v := nI 1) dX5_sign_22 (by decide) ?_
    refine ww_aload_n dX5_sign_23 rfl rfl ?_
    refine ww_get 3 dX5_sign_24 hR.1 rfl (by decide) inX5 wg_45 (rdS_3 _ _ _ _ _) ?_
    refine ww_cV0 (M := m_X5_sign) (pc := 27) (h1 := rdS h n n k pl) (st := []) (d := 1) (bc := 0) (bs := 0) (c_Rd_fail1 hst hR hB hn (sk T n n) k hk hk9 pl 1 (nI (sk T n n))) vv_X5_fail dX5_sign_27 wg_559 hR.1 rfl rfl rfl rfl (Nat.le_of_ble_eq_true rfl) (Nat.le_of_ble_eq_true rfl) (Nat.le_of_ble_eq_true rfl) (Nat.le_of_ble_eq_true rfl) ?_
    exact ww_vret dX5_sign_30 rfl ⟨rfl, rfl⟩
  · exact absurd c5 (by rw [sk_n, chI_out (by omega)]; exact fun e => nI_m1 hc e.symm)
set_option maxHeartbeats 4000000 in
set_option maxRecDepth 100000 in
theorem c_Rd_ahead_f {l : Launch} {Z : EE} (hst : l.stackTraces = false) {h : PH} {tf : Nat → Int32} (hR : RdK h tf) {T : Nat → Nat} (hB : BT tf T) {n : Nat} (hn : n ≤ 600) (k : Nat) (hk : 0 < k) (hk9 : k < 10) (pl : Int32) : CC l Z m_X5_ahead 0 0 0 [.ref 1] (rdS h n n k pl) (RT (some (.int (-1))) (rdS h n n k pl)) := by
  have h9 := c_Rd_ahead (Z := Z) hst hR hB hn k pl n (Nat.le_refl _)
  rw [sk_n, chI_out (by omega)] at h9
  exact h9
set_option maxHeartbeats 4000000 in
set_option maxRecDepth 100000 in
theorem c_Rd_finish_t {l : Launch} {Z : EE} (hst : l.stackTraces = false) {h : PH} {tf : Nat → Int32} (hR : RdK h tf) {T : Nat → Nat} (hB : BT tf T) {n : Nat} (hn : n ≤ 600) (a : Nat) (ha : a ≤ n) (hf : sk T n a = n) : CC l Z m_X5_finish 1 0 0 [.ref 1] (rdS h n a 0 (-1)) (RT (some (.int (nI 1))) (rdS h n n 0 (-1))) := by
  refine ee_entry hst (by decide +kernel) rfl rfl (by simp [Value.category]) (Nat.le_of_ble_eq_true rfl) ?_
  refine ww_lv (lv2 := [.ref 1]) rfl ?_
  have hs1 := sk_le (T := T) ha
  have hs2 := sk_ge (T := T) ha
  refine ww_aload_n dX5_finish_0 rfl rfl ?_
  refine ww_cVr (M := m_X5_finish) (pc := 1) (v := .int (chI T n (sk T n a))) (h1 := rdS h n (sk T n a) 0 (-1)) (st := []) (d := 1) (bc := 0) (bs := 0) (c_Rd_ahead hst hR hB hn 0 (-1) a (by omega)) vv_X5_ahead dX5_finish_1 wg_502 hR.1 rfl rfl rfl rfl (Nat.le_of_ble_eq_true rfl) (Nat.le_of_ble_eq_true rfl) (Nat.le_of_ble_eq_true rfl) (Nat.le_of_ble_eq_true rfl) ?_
  refine ww_iconst (v := -1) dX5_finish_4 (by decide) ?_
  refine ww_icmp_eq (tgt := 17) dX5_finish_5 (by decide) (fun c5 => ?_) (fun c5 => ?_)
  · refine ww_aload_n dX5_finish_17 rfl rfl ?_
    refine ww_get 4 dX5_finish_18 hR.1 rfl (by decide) inX5 wg_47 (rdS_4 _ _ _ _ _) ?_
    refine ww_if_neN (tgt := 28) dX5_finish_21 (by decide) (by omega) (fun c21 => ?_) (fun c21 => ?_)
    · exact absurd c21 (by decide)
    · refine ww_iconst (v := nI 1) dX5_finish_24 (by decide) ?_
      refine ww_goto (tgt := 29) dX5_finish_25 (by decide) ?_
      exact ww_zret dX5_finish_29 rfl (by first | rfl | exact nar_bI _) ⟨rfl, by rw [hf]⟩
  · exact absurd (by rw [hf, chI_out (by omega)]) c5
set_option maxHeartbeats 4000000 in
set_option maxRecDepth 100000 in
theorem c_Rd_finish_n {l : Launch} {Z : EE} (hst : l.stackTraces = false) {h : PH} {tf : Nat → Int32} (hR : RdK h tf) {T : Nat → Nat} (hB : BT tf T) {n : Nat} (hn : n ≤ 600) (a : Nat) (ha : a ≤ n) (hf : sk T n a < n) : CC l Z m_X5_finish 1 0 0 [.ref 1] (rdS h n a 0 (-1)) (RT (some (.int (nI 0))) (rdS h n n 1 (nI (sk T n a)))) := by
  refine ee_entry hst (by decide +kernel) rfl rfl (by simp [Value.category]) (Nat.le_of_ble_eq_true rfl) ?_
  refine ww_lv (lv2 := [.ref 1]) rfl ?_
  have hs1 := sk_le (T := T) ha
  have hs2 := sk_ge (T := T) ha
  have hTa := (hB (sk T n a)).2
  refine ww_aload_n dX5_finish_0 rfl rfl ?_
  refine ww_cVr (M := m_X5_finish) (pc := 1) (v := .int (chI T n (sk T n a))) (h1 := rdS h n (sk T n a) 0 (-1)) (st := []) (d := 1) (bc := 0) (bs := 0) (c_Rd_ahead hst hR hB hn 0 (-1) a (by omega)) vv_X5_ahead dX5_finish_1 wg_502 hR.1 rfl rfl rfl rfl (Nat.le_of_ble_eq_true rfl) (Nat.le_of_ble_eq_true rfl) (Nat.le_of_ble_eq_true rfl) (Nat.le_of_ble_eq_true rfl) ?_
  refine ww_iconst (v := -1) dX5_finish_4 (by decide) ?_
  refine ww_icmp_eq (tgt := 17) dX5_finish_5 (by decide) (fun c5 => ?_) (fun c5 => ?_)
  · exact absurd c5 (by rw [chI_in hf]; exact nI_m1 (by omega))
  · refine ww_aload_n dX5_finish_8 rfl rfl ?_
    refine ww_iconst (v := nI 1) dX5_finish_9 (by decide) ?_
    refine ww_aload_n dX5_finish_10 rfl rfl ?_
    refine ww_get 3 dX5_finish_11 hR.1 rfl (by decide) inX5 wg_45 (rdS_3 _ _ _ _ _) ?_
    refine ww_cV0 (M := m_X5_finish) (pc := 14) (h1 := rdS h n n 1 (nI (sk T n a))) (st := []) (d := 1) (bc := 0) (bs := 0) (c_Rd_fail0 hst hR hB hn (sk T n a) (-1) 1 (nI (sk T n a))) vv_X5_fail dX5_finish_14 wg_559 hR.1 rfl rfl rfl rfl (Nat.le_of_ble_eq_true rfl) (Nat.le_of_ble_eq_true rfl) (Nat.le_of_ble_eq_true rfl) (Nat.le_of_ble_eq_true rfl) ?_
    refine ww_aload_n dX5_finish_17 rfl rfl ?_
    refine ww_get 4 dX5_finish_18 hR.1 rfl (by decide) inX5 wg_47 (rdS_4 _ _ _ _ _) ?_
    refine ww_if_neN (tgt := 28) dX5_finish_21 (by decide) (by omega) (fun c21 => ?_) (fun c21 => ?_)
    · refine ww_iconst (v := nI 0) dX5_finish_28 (by decide) ?_
      exact ww_zret dX5_finish_29 rfl (by first | rfl | exact nar_bI _) ⟨rfl, rfl⟩
    · exact absurd c21 (by decide)
set_option maxHeartbeats 4000000 in
set_option maxRecDepth 100000 in
theorem c_Rd_finish_f {l : Launch} {Z : EE} (hst : l.stackTraces = false) {h : PH} {tf : Nat → Int32} (hR : RdK h tf) {T : Nat → Nat} (hB : BT tf T) {n : Nat} (hn : n ≤ 600) (k : Nat) (hk : 0 < k) (hk9 : k < 10) (pl : Int32) : CC l Z m_X5_finish 1 0 0 [.ref 1] (rdS h n n k pl) (RT (some (.int (nI 0))) (rdS h n n k pl)) := by
  refine ee_entry hst (by decide +kernel) rfl rfl (by simp [Value.category]) (Nat.le_of_ble_eq_true rfl) ?_
  refine ww_lv (lv2 := [.ref 1]) rfl ?_
  refine ww_aload_n dX5_finish_0 rfl rfl ?_
  refine ww_cVr (M := m_X5_finish) (pc := 1) (v := .int (chI T n (sk T n n))) (h1 := rdS h n (sk T n n) k pl) (st := []) (d := 1) (bc := 0) (bs := 0) (c_Rd_ahead hst hR hB hn k pl n (by omega)) vv_X5_ahead dX5_finish_1 wg_502 hR.1 rfl rfl rfl rfl (Nat.le_of_ble_eq_true rfl) (Nat.le_of_ble_eq_true rfl) (Nat.le_of_ble_eq_true rfl) (Nat.le_of_ble_eq_true rfl) ?_
  refine ww_iconst (v := -1) dX5_finish_4 (by decide) ?_
  refine ww_icmp_eq (tgt := 17) dX5_finish_5 (by decide) (fun c5 => ?_) (fun c5 => ?_)
  · refine ww_aload_n dX5_finish_17 rfl rfl ?_
    refine ww_get 4 dX5_finish_18 hR.1 rfl (by decide) inX5 wg_47 (rdS_4 _ _ _ _ _) ?_
    refine ww_if_neN (tgt := 28) dX5_finish_21 (by decide) (by omega) (fun c21 => ?_) (fun c21 => ?_)
    · refine ww_iconst (v := nI 0) dX5_finish_28 (by decide) ?_
      exact ww_zret dX5_finish_29 rfl (by first | rfl | exact nar_bI _) ⟨rfl, by rw [sk_n]⟩
    · exfalso; omega
  · exact absurd (by rw [sk_n, chI_out (by omega)]) c5
set_option maxHeartbeats 4000000 in
set_option maxRecDepth 100000 in
theorem c_Rd_answer {l : Launch} {Z : EE} (hst : l.stackTraces = false) {h : PH} {tf : Nat → Int32} (hR : RdK h tf) {T : Nat → Nat} (hB : BT tf T) {n : Nat} (hn : n ≤ 600) (a k : Nat) (pl : Int32) : CC l Z m_X5_answer 0 0 0 [.ref 1] (rdS h n a k pl) (RT (some (.int (nI k - nI 10))) (rdS h n a k pl)) := by
  refine ee_entry hst (by decide +kernel) rfl rfl (by simp [Value.category]) (Nat.le_of_ble_eq_true rfl) ?_
  refine ww_lv (lv2 := [.ref 1]) rfl ?_
  refine ww_aload_n dX5_answer_0 rfl rfl ?_
  refine ww_get 4 dX5_answer_1 hR.1 rfl (by decide) inX5 wg_47 (rdS_4 _ _ _ _ _) ?_
  refine ww_bipush (v := nI 10) dX5_answer_4 (by decide) ?_
  refine ww_isub dX5_answer_6 ?_
  exact ww_iret dX5_answer_7 rfl ⟨rfl, rfl⟩
theorem rdS_open (h : PH) (n : Nat) : hp_sF (hp_sF (hp_sF (hp_sF (hp_sF h 1 2 (.int (nI n))) 1 1 (.int (nI 0))) 1 3 (.int (nI 0))) 1 4 (.int (nI 0))) 1 5 (.int (-1)) = rdS (hp_sF h 1 1 (.int (nI 0))) n 0 0 (-1) := by
  refine hp_ext rfl (fun _ => rfl) (fun b j => ?_) (fun _ => rfl) (fun _ => rfl)
  rw [rdS_F]
  show (if b = 1 ∧ j = 5 then _ else if b = 1 ∧ j = 4 then _ else if b = 1 ∧ j = 3 then _ else if b = 1 ∧ j = 1 then _ else if b = 1 ∧ j = 2 then _ else hp_F h b j) = (if _ then _ else if _ then _ else if _ then _ else if _ then _ else (if b = 1 ∧ j = 1 then _ else hp_F h b j))
  by_cases e2 : b = 1 ∧ j = 2
  · rw [if_neg (by omega), if_neg (by omega), if_neg (by omega), if_neg (by omega), if_pos e2, if_neg (by omega), if_neg (by omega), if_neg (by omega), if_pos e2]
  · rw [if_neg e2, if_neg e2]
set_option maxHeartbeats 4000000 in
set_option maxRecDepth 100000 in
theorem c_Rd_open {l : Launch} {Z : EE} (hst : l.stackTraces = false) {h : PH} {tf : Nat → Int32} (hR : RdK h tf) (n : Nat) : CC l Z m_X5_open 0 0 0 [.ref 1, .int (nI n)] h (RT none (rdS (hp_sF h 1 1 (.int (nI 0))) n 0 0 (-1))) := by
  refine ee_entry hst (by decide +kernel) rfl rfl (by simp [Value.category]) (Nat.le_of_ble_eq_true rfl) ?_
  refine ww_lv (lv2 := [.ref 1, .int (nI n)]) rfl ?_
  refine ww_aload_n dX5_open_0 rfl rfl ?_
  refine ww_iload_n dX5_open_1 rfl rfl ?_
  refine ww_pfI tyX5 2 dX5_open_2 hR.1 rfl (by decide) inX5 tyX5_ok nmX5 wg_41 rfl rfl ?_
  refine ww_aload_n dX5_open_5 rfl rfl ?_
  refine ww_iconst (v := nI 0) dX5_open_6 (by decide) ?_
  refine ww_pfI tyX5 1 dX5_open_7 hR.1 rfl (by decide) inX5 tyX5_ok nmX5 wg_39 rfl rfl ?_
  refine ww_aload_n dX5_open_10 rfl rfl ?_
  refine ww_iconst (v := nI 0) dX5_open_11 (by decide) ?_
  refine ww_pfI tyX5 3 dX5_open_12 hR.1 rfl (by decide) inX5 tyX5_ok nmX5 wg_45 rfl rfl ?_
  refine ww_aload_n dX5_open_15 rfl rfl ?_
  refine ww_iconst (v := nI 0) dX5_open_16 (by decide) ?_
  refine ww_pfI tyX5 4 dX5_open_17 hR.1 rfl (by decide) inX5 tyX5_ok nmX5 wg_47 rfl rfl ?_
  refine ww_aload_n dX5_open_20 rfl rfl ?_
  refine ww_iconst (v := -1) dX5_open_21 (by decide) ?_
  refine ww_pfI tyX5 5 dX5_open_22 hR.1 rfl (by decide) inX5 tyX5_ok nmX5 wg_48 rfl rfl ?_
  exact ww_vret dX5_open_25 rfl ⟨rfl, rdS_open h n⟩
theorem mnI_N {a b : Nat} (ha : a < 2 ^ 31) (hb : b < 2 ^ 31) : mnI (nI a) (nI b) = nI (min a b) := by
  unfold mnI
  by_cases h : b < a
  · rw [if_pos (nI_lt h ha), Nat.min_eq_right (by omega)]
  · rw [if_neg (fun e => h ((nI_ltI hb ha).mp e)), Nat.min_eq_left (by omega)]
theorem nm_cap (v c : Nat) : min 1000000 (min 1000000 v * 10 + c) = min 1000000 (10 * v + c) := by omega
set_option maxHeartbeats 4000000 in
set_option maxRecDepth 100000 in
theorem l_Rd_fig {l : Launch} {Z : EE} (hst : l.stackTraces = false) {h : PH} {tf : Nat → Int32} (hR : RdK h tf) {T : Nat → Nat} (hB : BT tf T) {n : Nat} (hn : n ≤ 600) (lo : Nat) (hi : Int32) (a1 : Nat) {Post : Res → PH → Prop} : ∀ (j i : Nat), a1 + i + j = n → WW l Z m_X5_figure 1 0 0 90 [.ref 1, .int (nI lo), .int hi, .int (nI a1), .int (nI (min 1000000 (nmV T a1 (sc (dgB T) n (a1 + i) - a1))))] [] (rdS h n (sc (dgB T) n (a1 + i)) 0 (-1)) Post → WW l Z m_X5_figure 1 0 0 13 [.ref 1, .int (nI lo), .int hi, .int (nI a1), .int (nI (min 1000000 (nmV T a1 i)))] [] (rdS h n (a1 + i) 0 (-1)) Post := by
  intro j
  induction j with
  | zero =>
    intro i hi9 hexit
    have hi0 : a1 + i = n := by omega
    rw [sc_stop (by omega)] at hexit
    refine ww_aload_n dX5_figure_13 rfl rfl ?_
    refine ww_get 3 dX5_figure_14 hR.1 rfl (by decide) inX5 wg_45 (rdS_3 _ _ _ _ _) ?_
    refine ww_aload_n dX5_figure_17 rfl rfl ?_
    refine ww_get 2 dX5_figure_18 hR.1 rfl (by decide) inX5 wg_41 (rdS_2 _ _ _ _ _) ?_
    refine ww_icmp_geN (tgt := 90) dX5_figure_21 (by decide) (by omega) (by omega) (fun c21 => ?_) (fun c21 => ?_)
    · rw [show a1 + i - a1 = i by omega] at hexit
      exact hexit
    · exfalso; omega
  | succ j ih =>
    intro i hi9 hexit
    have hTa := (hB (a1 + i)).2
    refine ww_aload_n dX5_figure_13 rfl rfl ?_
    refine ww_get 3 dX5_figure_14 hR.1 rfl (by decide) inX5 wg_45 (rdS_3 _ _ _ _ _) ?_
    refine ww_aload_n dX5_figure_17 rfl rfl ?_
    refine ww_get 2 dX5_figure_18 hR.1 rfl (by decide) inX5 wg_41 (rdS_2 _ _ _ _ _) ?_
    refine ww_icmp_geN (tgt := 90) dX5_figure_21 (by decide) (by omega) (by omega) (fun c21 => ?_) (fun c21 => ?_)
    · exfalso; omega
    · refine ww_aload_n dX5_figure_24 rfl rfl ?_
      refine ww_get 0 dX5_figure_25 hR.1 rfl (by decide) inX5 wg_38 (rdS_j _ _ _ _ (by decide) hR.2.2.1) ?_
      refine ww_aload_n dX5_figure_28 rfl rfl ?_
      refine ww_get 3 dX5_figure_29 hR.1 rfl (by decide) inX5 wg_45 (rdS_3 _ _ _ _ _) ?_
      refine ww_ialdF dX5_figure_32 hR.2.1 hR.2.2.2 (by omega) (by omega) ?_
      have hT33 := (hB (a1 + i)).2
      refine ww_sk (st2 := [.int (nI (T (a1 + i)))]) (by rw [(hB (a1 + i)).1]) ?_
      refine ww_bipush (v := nI 48) dX5_figure_33 (by decide) ?_
      refine ww_icmp_ltN (tgt := 90) dX5_figure_35 (by decide) (by omega) (by omega) (fun c35 => ?_) (fun c35 => ?_)
      · have hst9 : sc (dgB T) n (a1 + i) = a1 + i := sc_stop (fun e => by have e9 := dgB_t.mp e.2; omega)
        rw [hst9, show a1 + i - a1 = i by omega] at hexit
        exact hexit
      · refine ww_aload_n dX5_figure_38 rfl rfl ?_
        refine ww_get 0 dX5_figure_39 hR.1 rfl (by decide) inX5 wg_38 (rdS_j _ _ _ _ (by decide) hR.2.2.1) ?_
        refine ww_aload_n dX5_figure_42 rfl rfl ?_
        refine ww_get 3 dX5_figure_43 hR.1 rfl (by decide) inX5 wg_45 (rdS_3 _ _ _ _ _) ?_
        refine ww_ialdF dX5_figure_46 hR.2.1 hR.2.2.2 (by omega) (by omega) ?_
        have hT47 := (hB (a1 + i)).2
        refine ww_sk (st2 := [.int (nI (T (a1 + i)))]) (by rw [(hB (a1 + i)).1]) ?_
        refine ww_bipush (v := nI 57) dX5_figure_47 (by decide) ?_
        refine ww_icmp_gtN (tgt := 90) dX5_figure_49 (by decide) (by omega) (by omega) (fun c49 => ?_) (fun c49 => ?_)
        · have hst9 : sc (dgB T) n (a1 + i) = a1 + i := sc_stop (fun e => by have e9 := dgB_t.mp e.2; omega)
          rw [hst9, show a1 + i - a1 = i by omega] at hexit
          exact hexit
        · refine ww_ldc (v := nI 1000000) dX5_figure_52 wg_568 ?_
          refine ww_iload dX5_figure_54 rfl ?_
          refine ww_bipush (v := nI 10) dX5_figure_56 (by decide) ?_
          refine ww_imulN dX5_figure_58 ?_
          refine ww_aload_n dX5_figure_59 rfl rfl ?_
          refine ww_get 0 dX5_figure_60 hR.1 rfl (by decide) inX5 wg_38 (rdS_j _ _ _ _ (by decide) hR.2.2.1) ?_
          refine ww_aload_n dX5_figure_63 rfl rfl ?_
          refine ww_get 3 dX5_figure_64 hR.1 rfl (by decide) inX5 wg_45 (rdS_3 _ _ _ _ _) ?_
          refine ww_ialdF dX5_figure_67 hR.2.1 hR.2.2.2 (by omega) (by omega) ?_
          have hT68 := (hB (a1 + i)).2
          refine ww_sk (st2 := [.int (nI (T (a1 + i))), .int (nI ((min 1000000 (nmV T a1 i)) * 10)), .int (nI 1000000)]) (by rw [(hB (a1 + i)).1]) ?_
          refine ww_iaddN dX5_figure_68 ?_
          refine ww_bipush (v := nI 48) dX5_figure_69 (by decide) ?_
          refine ww_isubN dX5_figure_71 (by omega) ?_
          refine ww_cSr (M := m_X5_figure) (pc := 72) (v := .int (nI (min 1000000 ((((min 1000000 (nmV T a1 i)) * 10) + (T (a1 + i))) - 48)))) (h1 := rdS h n (a1 + i) 0 (-1)) (st := []) (d := 1) (bc := 0) (bs := 0) (by have h9 := c_min (Z := Z) hst (nI 1000000) (nI ((((min 1000000 (nmV T a1 i)) * 10) + (T (a1 + i))) - 48)) (rdS h n (a1 + i) 0 (-1)); rw [mnI_N (by omega) (by omega)] at h9; exact h9) vv_J9_min_7cf53 dX5_figure_72 wg_569 rfl rfl rfl (Nat.le_of_ble_eq_true rfl) (Nat.le_of_ble_eq_true rfl) (Nat.le_of_ble_eq_true rfl) (Nat.le_of_ble_eq_true rfl) ?_
          refine ww_sti (lv2 := [.ref 1, .int (nI lo), .int hi, .int (nI a1), .int (nI (min 1000000 ((((min 1000000 (nmV T a1 i)) * 10) + (T (a1 + i))) - 48)))]) dX5_figure_75 rfl (by decide) rfl ?_
          refine ww_aload_n dX5_figure_77 rfl rfl ?_
          refine ww_dup dX5_figure_78 rfl ?_
          refine ww_get 3 dX5_figure_79 hR.1 rfl (by decide) inX5 wg_45 (rdS_3 _ _ _ _ _) ?_
          refine ww_iconst (v := nI 1) dX5_figure_82 (by decide) ?_
          refine ww_iaddN dX5_figure_83 ?_
          refine ww_pfI tyX5 3 dX5_figure_84 hR.1 rfl (by decide) inX5 tyX5_ok nmX5 wg_45 rfl rfl ?_
          refine ww_goto (tgt := 13) dX5_figure_87 (by decide) ?_
          have hg : dgB T (a1 + i) = true := dgB_t.mpr ⟨by omega, by omega⟩
          rw [sc_step (by omega) hg] at hexit
          refine ww_hp (rdS_s3 h n (a1 + i) 0 (-1) (a1 + i + 1)) ?_
          refine ww_lv (lv2 := [.ref 1, .int (nI lo), .int hi, .int (nI a1), .int (nI (min 1000000 (nmV T a1 (i + 1))))]) (by rw [show min 1000000 (nmV T a1 i) * 10 + T (a1 + i) - 48 = min 1000000 (nmV T a1 i) * 10 + (T (a1 + i) - 48) by omega, nm_cap]; rfl) ?_
          exact ih (i + 1) (by omega) hexit
set_option maxHeartbeats 4000000 in
set_option maxRecDepth 100000 in
theorem c_Rd_fig_r {l : Launch} {Z : EE} (hst : l.stackTraces = false) {h : PH} {tf : Nat → Int32} (hR : RdK h tf) {T : Nat → Nat} (hB : BT tf T) {n : Nat} (hn : n ≤ 600) (a : Nat) (ha : a ≤ n) (lo hx : Nat) (hi : Int32) (hlo : lo ≤ 1000) (hhx : hx ≤ 1000) (hhi : ∀ v : Nat, v < 2 ^ 31 → (nI v ≤ hi ↔ v < hx)) {b v : Nat} (hr : figS T n lo hx a = .inr (b, v)) : CC l Z m_X5_figure 1 0 0 [.ref 1, .int (nI lo), .int hi] (rdS h n a 0 (-1)) (RT (some (.int (nI v))) (rdS h n b 0 (-1))) := by
  refine ee_entry hst (by decide +kernel) rfl rfl (by simp [Value.category]) (Nat.le_of_ble_eq_true rfl) ?_
  refine ww_lv (lv2 := [.ref 1, .int (nI lo), .int hi, UU, UU]) rfl ?_
  have hs1 := sk_le (T := T) ha
  have hs2 := sk_ge (T := T) ha
  have hs3 := sc_le (p := dgB T) hs1
  have hs4 := sc_ge (p := dgB T) hs1
  obtain ⟨q1, q2, q3, q4⟩ := figS_r ha hr
  have hb9 : b = sc (dgB T) n (sk T n a) ∧ v = nmV T (sk T n a) (sc (dgB T) n (sk T n a) - sk T n a) := by
    unfold figS at hr
    split at hr
    · cases hr
    · split at hr
      · cases hr; exact ⟨rfl, rfl⟩
      · cases hr
  obtain ⟨rfl, hv0⟩ := hb9
  have hm : min 1000000 (nmV T (sk T n a) (sc (dgB T) n (sk T n a) - sk T n a)) = v := by omega
  refine ww_aload_n dX5_figure_0 rfl rfl ?_
  refine ww_cVr (M := m_X5_figure) (pc := 1) (v := .int (chI T n (sk T n a))) (h1 := rdS h n (sk T n a) 0 (-1)) (st := []) (d := 1) (bc := 0) (bs := 0) (c_Rd_ahead hst hR hB hn 0 (-1) a (by omega)) vv_X5_ahead dX5_figure_1 wg_502 hR.1 rfl rfl rfl rfl (Nat.le_of_ble_eq_true rfl) (Nat.le_of_ble_eq_true rfl) (Nat.le_of_ble_eq_true rfl) (Nat.le_of_ble_eq_true rfl) ?_
  refine ww_pop dX5_figure_4 rfl ?_
  refine ww_aload_n dX5_figure_5 rfl rfl ?_
  refine ww_get 3 dX5_figure_6 hR.1 rfl (by decide) inX5 wg_45 (rdS_3 _ _ _ _ _) ?_
  refine ww_sti_n (lv2 := [.ref 1, .int (nI lo), .int hi, .int (nI (sk T n a)), UU]) dX5_figure_9 rfl rfl (by decide) rfl ?_
  refine ww_iconst (v := nI 0) dX5_figure_10 (by decide) ?_
  refine ww_sti (lv2 := [.ref 1, .int (nI lo), .int hi, .int (nI (sk T n a)), .int (nI 0)]) dX5_figure_11 rfl (by decide) rfl ?_
  refine l_Rd_fig hst hR hB hn lo hi (sk T n a) (n - sk T n a) 0 (by omega) ?_
  simp only [Nat.add_zero]
  refine ww_aload_n dX5_figure_90 rfl rfl ?_
  refine ww_get 3 dX5_figure_91 hR.1 rfl (by decide) inX5 wg_45 (rdS_3 _ _ _ _ _) ?_
  refine ww_iload_n dX5_figure_94 rfl rfl ?_
  refine ww_icmp_neN (tgt := 106) dX5_figure_95 (by decide) (by omega) (by omega) (fun c95 => ?_) (fun c95 => ?_)
  · refine ww_iload dX5_figure_106 rfl ?_
    refine ww_iload_n dX5_figure_108 rfl rfl ?_
    refine ww_icmp_ltN (tgt := 118) dX5_figure_109 (by decide) (by omega) (by omega) (fun c109 => ?_) (fun c109 => ?_)
    · exfalso; omega
    · refine ww_iload dX5_figure_112 rfl ?_
      refine ww_iload_n dX5_figure_114 rfl rfl ?_
      refine ww_icmp_le (tgt := 126) dX5_figure_115 (by decide) (fun c115 => ?_) (fun c115 => ?_)
      · refine ww_iload dX5_figure_126 rfl ?_
        exact ww_iret dX5_figure_128 rfl ⟨by rw [hm], rfl⟩
      · exact absurd ((hhi _ (by omega)).mpr (by omega)) c115
  · exfalso; omega
set_option maxHeartbeats 4000000 in
set_option maxRecDepth 100000 in
theorem c_Rd_fig_l {l : Launch} {Z : EE} (hst : l.stackTraces = false) {h : PH} {tf : Nat → Int32} (hR : RdK h tf) {T : Nat → Nat} (hB : BT tf T) {n : Nat} (hn : n ≤ 600) (a : Nat) (ha : a ≤ n) (lo hx : Nat) (hi : Int32) (hlo : lo ≤ 1000) (hhx : hx ≤ 1000) (hhi : ∀ v : Nat, v < 2 ^ 31 → (nI v ≤ hi ↔ v < hx)) {k q : Nat} (hr : figS T n lo hx a = .inl (k, q)) : CC l Z m_X5_figure 1 0 0 [.ref 1, .int (nI lo), .int hi] (rdS h n a 0 (-1)) (RT (some (.int (nI lo))) (rdS h n n k (nI q))) := by
  refine ee_entry hst (by decide +kernel) rfl rfl (by simp [Value.category]) (Nat.le_of_ble_eq_true rfl) ?_
  refine ww_lv (lv2 := [.ref 1, .int (nI lo), .int hi, UU, UU]) rfl ?_
  have hs1 := sk_le (T := T) ha
  have hs2 := sk_ge (T := T) ha
  have hs3 := sc_le (p := dgB T) hs1
  have hs4 := sc_ge (p := dgB T) hs1
  have hq := (figS_l hr).2
  subst hq
  refine ww_aload_n dX5_figure_0 rfl rfl ?_
  refine ww_cVr (M := m_X5_figure) (pc := 1) (v := .int (chI T n (sk T n a))) (h1 := rdS h n (sk T n a) 0 (-1)) (st := []) (d := 1) (bc := 0) (bs := 0) (c_Rd_ahead hst hR hB hn 0 (-1) a (by omega)) vv_X5_ahead dX5_figure_1 wg_502 hR.1 rfl rfl rfl rfl (Nat.le_of_ble_eq_true rfl) (Nat.le_of_ble_eq_true rfl) (Nat.le_of_ble_eq_true rfl) (Nat.le_of_ble_eq_true rfl) ?_
  refine ww_pop dX5_figure_4 rfl ?_
  refine ww_aload_n dX5_figure_5 rfl rfl ?_
  refine ww_get 3 dX5_figure_6 hR.1 rfl (by decide) inX5 wg_45 (rdS_3 _ _ _ _ _) ?_
  refine ww_sti_n (lv2 := [.ref 1, .int (nI lo), .int hi, .int (nI (sk T n a)), UU]) dX5_figure_9 rfl rfl (by decide) rfl ?_
  refine ww_iconst (v := nI 0) dX5_figure_10 (by decide) ?_
  refine ww_sti (lv2 := [.ref 1, .int (nI lo), .int hi, .int (nI (sk T n a)), .int (nI 0)]) dX5_figure_11 rfl (by decide) rfl ?_
  refine l_Rd_fig hst hR hB hn lo hi (sk T n a) (n - sk T n a) 0 (by omega) ?_
  simp only [Nat.add_zero]
  refine ww_aload_n dX5_figure_90 rfl rfl ?_
  refine ww_get 3 dX5_figure_91 hR.1 rfl (by decide) inX5 wg_45 (rdS_3 _ _ _ _ _) ?_
  refine ww_iload_n dX5_figure_94 rfl rfl ?_
  refine ww_icmp_neN (tgt := 106) dX5_figure_95 (by decide) (by omega) (by omega) (fun c95 => ?_) (fun c95 => ?_)
  · refine ww_iload dX5_figure_106 rfl ?_
    refine ww_iload_n dX5_figure_108 rfl rfl ?_
    refine ww_icmp_ltN (tgt := 118) dX5_figure_109 (by decide) (by omega) (by omega) (fun c109 => ?_) (fun c109 => ?_)
    · refine ww_aload_n dX5_figure_118 rfl rfl ?_
      refine ww_iconst (v := nI 2) dX5_figure_119 (by decide) ?_
      refine ww_iload_n dX5_figure_120 rfl rfl ?_
      refine ww_cV0 (M := m_X5_figure) (pc := 121) (h1 := rdS h n n 2 (nI (sk T n a))) (st := []) (d := 1) (bc := 0) (bs := 0) (c_Rd_fail0 hst hR hB hn (sc (dgB T) n (sk T n a)) (-1) 2 (nI (sk T n a))) vv_X5_fail dX5_figure_121 wg_559 hR.1 rfl rfl rfl rfl (Nat.le_of_ble_eq_true rfl) (Nat.le_of_ble_eq_true rfl) (Nat.le_of_ble_eq_true rfl) (Nat.le_of_ble_eq_true rfl) ?_
      refine ww_iload_n dX5_figure_124 rfl rfl ?_
      exact ww_iret dX5_figure_125 rfl ⟨rfl, by unfold figS at hr; first | (rw [if_pos (by omega)] at hr; cases hr; rfl) | (rw [if_neg (by omega), if_neg (fun e => by first | omega | (have h8 : ¬ min 1000000 (nmV T (sk T n a) (sc (dgB T) n (sk T n a) - sk T n a)) < hx := fun e9 => c115 ((hhi _ (by omega)).mpr e9); omega))] at hr; cases hr; rfl)⟩
    · refine ww_iload dX5_figure_112 rfl ?_
      refine ww_iload_n dX5_figure_114 rfl rfl ?_
      refine ww_icmp_le (tgt := 126) dX5_figure_115 (by decide) (fun c115 => ?_) (fun c115 => ?_)
      · exfalso; have h9 := (hhi _ (by omega)).mp c115; unfold figS at hr; rw [if_neg (by omega), if_pos ⟨by omega, by omega⟩] at hr; cases hr
      · refine ww_aload_n dX5_figure_118 rfl rfl ?_
        refine ww_iconst (v := nI 2) dX5_figure_119 (by decide) ?_
        refine ww_iload_n dX5_figure_120 rfl rfl ?_
        refine ww_cV0 (M := m_X5_figure) (pc := 121) (h1 := rdS h n n 2 (nI (sk T n a))) (st := []) (d := 1) (bc := 0) (bs := 0) (c_Rd_fail0 hst hR hB hn (sc (dgB T) n (sk T n a)) (-1) 2 (nI (sk T n a))) vv_X5_fail dX5_figure_121 wg_559 hR.1 rfl rfl rfl rfl (Nat.le_of_ble_eq_true rfl) (Nat.le_of_ble_eq_true rfl) (Nat.le_of_ble_eq_true rfl) (Nat.le_of_ble_eq_true rfl) ?_
        refine ww_iload_n dX5_figure_124 rfl rfl ?_
        exact ww_iret dX5_figure_125 rfl ⟨rfl, by unfold figS at hr; first | (rw [if_pos (by omega)] at hr; cases hr; rfl) | (rw [if_neg (by omega), if_neg (fun e => by first | omega | (have h8 : ¬ min 1000000 (nmV T (sk T n a) (sc (dgB T) n (sk T n a) - sk T n a)) < hx := fun e9 => c115 ((hhi _ (by omega)).mpr e9); omega))] at hr; cases hr; rfl)⟩
  · refine ww_aload_n dX5_figure_98 rfl rfl ?_
    refine ww_iconst (v := nI 1) dX5_figure_99 (by decide) ?_
    refine ww_iload_n dX5_figure_100 rfl rfl ?_
    refine ww_cV0 (M := m_X5_figure) (pc := 101) (h1 := rdS h n n 1 (nI (sk T n a))) (st := []) (d := 1) (bc := 0) (bs := 0) (c_Rd_fail0 hst hR hB hn (sc (dgB T) n (sk T n a)) (-1) 1 (nI (sk T n a))) vv_X5_fail dX5_figure_101 wg_559 hR.1 rfl rfl rfl rfl (Nat.le_of_ble_eq_true rfl) (Nat.le_of_ble_eq_true rfl) (Nat.le_of_ble_eq_true rfl) (Nat.le_of_ble_eq_true rfl) ?_
    refine ww_iload_n dX5_figure_104 rfl rfl ?_
    exact ww_iret dX5_figure_105 rfl ⟨rfl, by unfold figS at hr; first | (rw [if_pos (by omega)] at hr; cases hr; rfl) | (rw [if_neg (by omega), if_neg (fun e => by first | omega | (have h8 : ¬ min 1000000 (nmV T (sk T n a) (sc (dgB T) n (sk T n a) - sk T n a)) < hx := fun e9 => c115 ((hhi _ (by omega)).mpr e9); omega))] at hr; cases hr; rfl)⟩
set_option maxHeartbeats 4000000 in
set_option maxRecDepth 100000 in
theorem c_Rd_fig_f {l : Launch} {Z : EE} (hst : l.stackTraces = false) {h : PH} {tf : Nat → Int32} (hR : RdK h tf) {T : Nat → Nat} (hB : BT tf T) {n : Nat} (hn : n ≤ 600) (k : Nat) (hk : 0 < k) (hk9 : k < 10) (pl : Int32) (lo : Nat) (hi : Int32) : CC l Z m_X5_figure 1 0 0 [.ref 1, .int (nI lo), .int hi] (rdS h n n k pl) (RT (some (.int (nI lo))) (rdS h n n k pl)) := by
  refine ee_entry hst (by decide +kernel) rfl rfl (by simp [Value.category]) (Nat.le_of_ble_eq_true rfl) ?_
  refine ww_lv (lv2 := [.ref 1, .int (nI lo), .int hi, UU, UU]) rfl ?_
  refine ww_aload_n dX5_figure_0 rfl rfl ?_
  refine ww_cVr (M := m_X5_figure) (pc := 1) (v := .int (-1)) (h1 := rdS h n n k pl) (st := []) (d := 1) (bc := 0) (bs := 0) (c_Rd_ahead_f hst hR hB hn k hk hk9 pl) vv_X5_ahead dX5_figure_1 wg_502 hR.1 rfl rfl rfl rfl (Nat.le_of_ble_eq_true rfl) (Nat.le_of_ble_eq_true rfl) (Nat.le_of_ble_eq_true rfl) (Nat.le_of_ble_eq_true rfl) ?_
  refine ww_pop dX5_figure_4 rfl ?_
  refine ww_aload_n dX5_figure_5 rfl rfl ?_
  refine ww_get 3 dX5_figure_6 hR.1 rfl (by decide) inX5 wg_45 (rdS_3 _ _ _ _ _) ?_
  refine ww_sti_n (lv2 := [.ref 1, .int (nI lo), .int hi, .int (nI n), UU]) dX5_figure_9 rfl rfl (by decide) rfl ?_
  refine ww_iconst (v := nI 0) dX5_figure_10 (by decide) ?_
  refine ww_sti (lv2 := [.ref 1, .int (nI lo), .int hi, .int (nI n), .int (nI 0)]) dX5_figure_11 rfl (by decide) rfl ?_
  refine ww_aload_n dX5_figure_13 rfl rfl ?_
  refine ww_get 3 dX5_figure_14 hR.1 rfl (by decide) inX5 wg_45 (rdS_3 _ _ _ _ _) ?_
  refine ww_aload_n dX5_figure_17 rfl rfl ?_
  refine ww_get 2 dX5_figure_18 hR.1 rfl (by decide) inX5 wg_41 (rdS_2 _ _ _ _ _) ?_
  refine ww_icmp_geN (tgt := 90) dX5_figure_21 (by decide) (by omega) (by omega) (fun c21 => ?_) (fun c21 => ?_)
  · refine ww_aload_n dX5_figure_90 rfl rfl ?_
    refine ww_get 3 dX5_figure_91 hR.1 rfl (by decide) inX5 wg_45 (rdS_3 _ _ _ _ _) ?_
    refine ww_iload_n dX5_figure_94 rfl rfl ?_
    refine ww_icmp_neN (tgt := 106) dX5_figure_95 (by decide) (by omega) (by omega) (fun c95 => ?_) (fun c95 => ?_)
    · exfalso; omega
    · refine ww_aload_n dX5_figure_98 rfl rfl ?_
      refine ww_iconst (v := nI 1) dX5_figure_99 (by decide) ?_
      refine ww_iload_n dX5_figure_100 rfl rfl ?_
      refine ww_cV0 (M := m_X5_figure) (pc := 101) (h1 := rdS h n n k pl) (st := []) (d := 1) (bc := 0) (bs := 0) (c_Rd_fail1 hst hR hB hn n k hk hk9 pl 1 (nI n)) vv_X5_fail dX5_figure_101 wg_559 hR.1 rfl rfl rfl rfl (Nat.le_of_ble_eq_true rfl) (Nat.le_of_ble_eq_true rfl) (Nat.le_of_ble_eq_true rfl) (Nat.le_of_ble_eq_true rfl) ?_
      refine ww_iload_n dX5_figure_104 rfl rfl ?_
      exact ww_iret dX5_figure_105 rfl ⟨rfl, rfl⟩
  · exfalso; omega
set_option maxHeartbeats 4000000 in
set_option maxRecDepth 100000 in
theorem l_Rd_let {l : Launch} {Z : EE} (hst : l.stackTraces = false) {h : PH} {tf : Nat → Int32} (hR : RdK h tf) {T : Nat → Nat} (hB : BT tf T) {n : Nat} (hn : n ≤ 600) (k : Nat) (pl : Int32) (a : Nat) : ∀ (j s : Nat), s + j = n → a ≤ s → WW l Z m_X5_lettersAhead 0 0 0 5 [.ref 1, .int (nI s)] [] (rdS h n a k pl) (RT (some (.int (nI (sc (leB T) n s - a)))) (rdS h n a k pl)) := by
  intro j
  induction j with
  | zero =>
    intro s hs ha
    have hs0 : s = n := by omega
    rw [sc_stop (by omega)]
    refine ww_iload_n dX5_lettersAhead_5 rfl rfl ?_
    refine ww_aload_n dX5_lettersAhead_6 rfl rfl ?_
    refine ww_get 2 dX5_lettersAhead_7 hR.1 rfl (by decide) inX5 wg_41 (rdS_2 _ _ _ _ _) ?_
    refine ww_icmp_geN (tgt := 41) dX5_lettersAhead_10 (by decide) (by omega) (by omega) (fun c10 => ?_) (fun c10 => ?_)
    · refine ww_iload_n dX5_lettersAhead_41 rfl rfl ?_
      refine ww_aload_n dX5_lettersAhead_42 rfl rfl ?_
      refine ww_get 3 dX5_lettersAhead_43 hR.1 rfl (by decide) inX5 wg_45 (rdS_3 _ _ _ _ _) ?_
      refine ww_isubN dX5_lettersAhead_46 (by omega) ?_
      exact ww_iret dX5_lettersAhead_47 rfl ⟨rfl, rfl⟩
    · exfalso; omega
  | succ j ih =>
    intro s hs ha
    have hTa := (hB s).2
    refine ww_iload_n dX5_lettersAhead_5 rfl rfl ?_
    refine ww_aload_n dX5_lettersAhead_6 rfl rfl ?_
    refine ww_get 2 dX5_lettersAhead_7 hR.1 rfl (by decide) inX5 wg_41 (rdS_2 _ _ _ _ _) ?_
    refine ww_icmp_geN (tgt := 41) dX5_lettersAhead_10 (by decide) (by omega) (by omega) (fun c10 => ?_) (fun c10 => ?_)
    · exfalso; omega
    · refine ww_aload_n dX5_lettersAhead_13 rfl rfl ?_
      refine ww_get 0 dX5_lettersAhead_14 hR.1 rfl (by decide) inX5 wg_38 (rdS_j _ _ _ _ (by decide) hR.2.2.1) ?_
      refine ww_iload_n dX5_lettersAhead_17 rfl rfl ?_
      refine ww_ialdF dX5_lettersAhead_18 hR.2.1 hR.2.2.2 (by omega) (by omega) ?_
      have hT19 := (hB s).2
      refine ww_sk (st2 := [.int (nI (T s))]) (by rw [(hB s).1]) ?_
      refine ww_bipush (v := nI 97) dX5_lettersAhead_19 (by decide) ?_
      refine ww_icmp_ltN (tgt := 41) dX5_lettersAhead_21 (by decide) (by omega) (by omega) (fun c21 => ?_) (fun c21 => ?_)
      · rw [sc_stop (fun e => by have e9 := leB_t.mp e.2; omega)]
        refine ww_iload_n dX5_lettersAhead_41 rfl rfl ?_
        refine ww_aload_n dX5_lettersAhead_42 rfl rfl ?_
        refine ww_get 3 dX5_lettersAhead_43 hR.1 rfl (by decide) inX5 wg_45 (rdS_3 _ _ _ _ _) ?_
        refine ww_isubN dX5_lettersAhead_46 (by omega) ?_
        exact ww_iret dX5_lettersAhead_47 rfl ⟨rfl, rfl⟩
      · refine ww_aload_n dX5_lettersAhead_24 rfl rfl ?_
        refine ww_get 0 dX5_lettersAhead_25 hR.1 rfl (by decide) inX5 wg_38 (rdS_j _ _ _ _ (by decide) hR.2.2.1) ?_
        refine ww_iload_n dX5_lettersAhead_28 rfl rfl ?_
        refine ww_ialdF dX5_lettersAhead_29 hR.2.1 hR.2.2.2 (by omega) (by omega) ?_
        have hT30 := (hB s).2
        refine ww_sk (st2 := [.int (nI (T s))]) (by rw [(hB s).1]) ?_
        refine ww_bipush (v := nI 122) dX5_lettersAhead_30 (by decide) ?_
        refine ww_icmp_gtN (tgt := 41) dX5_lettersAhead_32 (by decide) (by omega) (by omega) (fun c32 => ?_) (fun c32 => ?_)
        · rw [sc_stop (fun e => by have e9 := leB_t.mp e.2; omega)]
          refine ww_iload_n dX5_lettersAhead_41 rfl rfl ?_
          refine ww_aload_n dX5_lettersAhead_42 rfl rfl ?_
          refine ww_get 3 dX5_lettersAhead_43 hR.1 rfl (by decide) inX5 wg_45 (rdS_3 _ _ _ _ _) ?_
          refine ww_isubN dX5_lettersAhead_46 (by omega) ?_
          exact ww_iret dX5_lettersAhead_47 rfl ⟨rfl, rfl⟩
        · refine ww_incN (c := 1) (lv2 := [.ref 1, .int (nI (s + 1))]) dX5_lettersAhead_35 rfl rfl rfl (by decide) rfl ?_
          refine ww_goto (tgt := 5) dX5_lettersAhead_38 (by decide) ?_
          rw [sc_step (by omega) (leB_t.mpr ⟨by omega, by omega⟩)]
          exact ih (s + 1) (by omega) (by omega)
set_option maxHeartbeats 4000000 in
set_option maxRecDepth 100000 in
theorem c_Rd_let {l : Launch} {Z : EE} (hst : l.stackTraces = false) {h : PH} {tf : Nat → Int32} (hR : RdK h tf) {T : Nat → Nat} (hB : BT tf T) {n : Nat} (hn : n ≤ 600) (k : Nat) (pl : Int32) (a : Nat) (ha : a ≤ n) : CC l Z m_X5_lettersAhead 0 0 0 [.ref 1] (rdS h n a k pl) (RT (some (.int (nI (sc (leB T) n a - a)))) (rdS h n a k pl)) := by
  refine ee_entry hst (by decide +kernel) rfl rfl (by simp [Value.category]) (Nat.le_of_ble_eq_true rfl) ?_
  refine ww_lv (lv2 := [.ref 1, UU]) rfl ?_
  refine ww_aload_n dX5_lettersAhead_0 rfl rfl ?_
  refine ww_get 3 dX5_lettersAhead_1 hR.1 rfl (by decide) inX5 wg_45 (rdS_3 _ _ _ _ _) ?_
  refine ww_sti_n (lv2 := [.ref 1, .int (nI a)]) dX5_lettersAhead_4 rfl rfl (by decide) rfl ?_
  exact l_Rd_let hst hR hB hn k pl a (n - a) a (by omega) (Nat.le_refl _)
def mtB (i : Nat) (T : Nat → Nat) (a f : Nat) : Nat → Nat → Bool
  | 0, _ => true
  | c + 1, j => if tcN i (f + j) = T (a + j) then mtB i T a f c (j + 1) else false
theorem mtB_t {i : Nat} {T : Nat → Nat} {a f c j : Nat} (h : tcN i (f + j) = T (a + j)) : mtB i T a f (c + 1) j = mtB i T a f c (j + 1) := if_pos h
theorem mtB_f {i : Nat} {T : Nat → Nat} {a f c j : Nat} (h : ¬ tcN i (f + j) = T (a + j)) : mtB i T a f (c + 1) j = false := if_neg h
def txw (i : Nat) : Nat → Nat → List Nat
  | _, 0 => []
  | f, c + 1 => tcN i f :: txw i (f + 1) c
theorem mtB_ma (i : Nat) (T : Nat → Nat) (a f : Nat) : ∀ c j, mtB i T a f c j = maB (txw i (f + j) c) T (a + j)
  | 0, j => rfl
  | c + 1, j => by
    by_cases h : tcN i (f + j) = T (a + j)
    · rw [mtB_t h, mtB_ma i T a f c (j + 1)]
      show _ = (T (a + j) == tcN i (f + j) && maB (txw i (f + j + 1) c) T (a + j + 1))
      rw [h, beq_self_eq_true, Bool.true_and]; rfl
    · rw [mtB_f h]
      show _ = (T (a + j) == tcN i (f + j) && _)
      rw [beq_false_of_ne (fun e => h e.symm), Bool.false_and]
def wfd (i : Nat) (T : Nat → Nat) (a ln : Nat) : Nat → Nat → Nat → Nat → Option Nat
  | 0, _, _, _ => none
  | c + 1, x, w, f => if x = tcL i ∨ tcN i x = 32 then (if 0 < ln ∧ x - f = ln ∧ mtB i T a f ln 0 = true then some w else wfd i T a ln c (x + 1) (w + 1) (x + 1)) else wfd i T a ln c (x + 1) w f
theorem wfd_c {i : Nat} {T : Nat → Nat} {a ln c x w f : Nat} (h : ¬ (x = tcL i ∨ tcN i x = 32)) : wfd i T a ln (c + 1) x w f = wfd i T a ln c (x + 1) w f := if_neg h
theorem wfd_s {i : Nat} {T : Nat → Nat} {a ln c x w f : Nat} (h : x = tcL i ∨ tcN i x = 32) : wfd i T a ln (c + 1) x w f = if 0 < ln ∧ x - f = ln ∧ mtB i T a f ln 0 = true then some w else wfd i T a ln c (x + 1) (w + 1) (x + 1) := if_pos h
theorem wfd_s0 {i : Nat} {T : Nat → Nat} {a ln c x w f : Nat} (h : x = tcL i ∨ tcN i x = 32) (h2 : ¬ (0 < ln ∧ x - f = ln ∧ mtB i T a f ln 0 = true)) : wfd i T a ln (c + 1) x w f = wfd i T a ln c (x + 1) (w + 1) (x + 1) := (wfd_s h).trans (if_neg h2)
theorem wfd_s1 {i : Nat} {T : Nat → Nat} {a ln c x w f : Nat} (h : x = tcL i ∨ tcN i x = 32) (h2 : 0 < ln ∧ x - f = ln ∧ mtB i T a f ln 0 = true) : wfd i T a ln (c + 1) x w f = some w := (wfd_s h).trans (if_pos h2)
theorem wfd_k {i : Nat} {T : Nat → Nat} {a ln w f : Nat} : ∀ k c x, (∀ j, j < k → ¬ (x + j = tcL i ∨ tcN i (x + j) = 32)) → wfd i T a ln (c + k) x w f = wfd i T a ln c (x + k) w f
  | 0, c, x, _ => rfl
  | k + 1, c, x, h => by
    rw [show c + (k + 1) = (c + k) + 1 by omega, wfd_c (show ¬ (x = tcL i ∨ tcN i x = 32) from by have h9 := h 0 (by omega); rw [Nat.add_zero] at h9; exact h9), wfd_k k c (x + 1) (fun j hj => by have h9 := h (j + 1) (by omega); rw [show x + 1 + j = x + (j + 1) by omega]; exact h9), show x + 1 + k = x + (k + 1) by omega]
/-- one word more: it is the one, or the next -/
theorem wfd_w {i : Nat} {T : Nat → Nat} {a ln w x : Nat} {W : List (List Nat)} (k c : Nat) (hk : 0 < k) (h : ∀ j, j < k → ¬ (x + j = tcL i ∨ tcN i (x + j) = 32)) (hs : x + k = tcL i ∨ tcN i (x + k) = 32) (hl : (txw i x k).length = k)
    (hn : wfd i T a ln c (x + k + 1) (w + 1) (x + k + 1) = fdW T a (a + ln) W (w + 1)) : wfd i T a ln (c + 1 + k) x w x = fdW T a (a + ln) (txw i x k :: W) w := by
  rw [wfd_k k (c + 1) x h]
  have he : (0 < ln ∧ x + k - x = ln ∧ mtB i T a x ln 0 = true) ↔ eqW (txw i x k) T a (a + ln) = true := by
    unfold eqW
    rw [Bool.and_eq_true, beq_iff_eq, hl]
    constructor
    · rintro ⟨h1, h2, h3⟩
      have hk2 : ln = k := by omega
      subst hk2
      rw [mtB_ma, Nat.add_zero, Nat.add_zero] at h3
      exact ⟨rfl, h3⟩
    · rintro ⟨h1, h2⟩
      have hk2 : ln = k := by omega
      subst hk2
      refine ⟨hk, by omega, ?_⟩
      rw [mtB_ma, Nat.add_zero, Nat.add_zero]
      exact h2
  by_cases hc : 0 < ln ∧ x + k - x = ln ∧ mtB i T a x ln 0 = true
  · rw [wfd_s1 hs hc]
    show _ = if eqW (txw i x k) T a (a + ln) = true then some w else _
    rw [if_pos (he.mp hc)]
  · rw [wfd_s0 hs hc, hn]
    show _ = if eqW (txw i x k) T a (a + ln) = true then some w else _
    rw [if_neg (fun e => hc (he.mpr e))]
theorem wfd_1 (T : Nat → Nat) (a ln : Nat) : wfd 1 T a ln 16 0 0 0 = fdW T a (a + ln) wLand 0 := by
  exact (wfd_w (i := 1) (w := 0) (x := 0) 6 9 (by decide) (by decide +kernel) (by decide +kernel) (by decide +kernel) (wfd_w (i := 1) (w := 1) (x := 7) 3 5 (by decide) (by decide +kernel) (by decide +kernel) (by decide +kernel) (wfd_w (i := 1) (w := 2) (x := 11) 4 0 (by decide) (by decide +kernel) (by decide +kernel) (by decide +kernel) rfl)))
theorem wfd_2 (T : Nat → Nat) (a ln : Nat) : wfd 2 T a ln 48 0 0 0 = fdW T a (a + ln) wLaw 0 := by
  exact (wfd_w (i := 2) (w := 0) (x := 0) 6 41 (by decide) (by decide +kernel) (by decide +kernel) (by decide +kernel) (wfd_w (i := 2) (w := 1) (x := 7) 4 36 (by decide) (by decide +kernel) (by decide +kernel) (by decide +kernel) (wfd_w (i := 2) (w := 2) (x := 12) 3 32 (by decide) (by decide +kernel) (by decide +kernel) (by decide +kernel) (wfd_w (i := 2) (w := 3) (x := 16) 5 26 (by decide) (by decide +kernel) (by decide +kernel) (by decide +kernel) (wfd_w (i := 2) (w := 4) (x := 22) 5 20 (by decide) (by decide +kernel) (by decide +kernel) (by decide +kernel) (wfd_w (i := 2) (w := 5) (x := 28) 4 15 (by decide) (by decide +kernel) (by decide +kernel) (by decide +kernel) (wfd_w (i := 2) (w := 6) (x := 33) 3 11 (by decide) (by decide +kernel) (by decide +kernel) (by decide +kernel) (wfd_w (i := 2) (w := 7) (x := 37) 5 5 (by decide) (by decide +kernel) (by decide +kernel) (by decide +kernel) (wfd_w (i := 2) (w := 8) (x := 43) 4 0 (by decide) (by decide +kernel) (by decide +kernel) (by decide +kernel) rfl)))))))))
theorem wfd_3 (T : Nat → Nat) (a ln : Nat) : wfd 3 T a ln 24 0 0 0 = fdW T a (a + ln) wWork 0 := by
  exact (wfd_w (i := 3) (w := 0) (x := 0) 3 20 (by decide) (by decide +kernel) (by decide +kernel) (by decide +kernel) (wfd_w (i := 3) (w := 1) (x := 4) 4 15 (by decide) (by decide +kernel) (by decide +kernel) (by decide +kernel) (wfd_w (i := 3) (w := 2) (x := 9) 4 10 (by decide) (by decide +kernel) (by decide +kernel) (by decide +kernel) (wfd_w (i := 3) (w := 3) (x := 14) 3 6 (by decide) (by decide +kernel) (by decide +kernel) (by decide +kernel) (wfd_w (i := 3) (w := 4) (x := 18) 5 0 (by decide) (by decide +kernel) (by decide +kernel) (by decide +kernel) rfl)))))
set_option maxHeartbeats 4000000 in
set_option maxRecDepth 100000 in
theorem l_Rd_isA {l : Launch} {Z : EE} (hst : l.stackTraces = false) {h : PH} {tf : Nat → Int32} (hR : RdK h tf) {T : Nat → Nat} (hB : BT tf T) {n : Nat} (hn : n ≤ 600) (k : Nat) (pl : Int32) (a : Nat) (i : Nat) (hi : i < 21) (f ln : Nat) (hf : f + ln ≤ tcL i) (hl : a + ln ≤ n) : ∀ (c j : Nat), j + c = ln → WW l Z m_X5_isAhead 4 0 0 3 [.ref 1, .ref (1000000 + (1 + i)), .int (nI f), .int (nI ln), .int (nI j)] [] (rdS h n a k pl) (RT (some (.int (bI (mtB i T a f c j)))) (rdS h n a k pl)) := by
  have hL := tcL_le hi
  have hL2 : tcL i ≤ 47 := hL
  intro c
  induction c with
  | zero =>
    intro j hj
    refine ww_iload dX5_isAhead_3 rfl ?_
    refine ww_iload_n dX5_isAhead_5 rfl rfl ?_
    refine ww_icmp_geN (tgt := 40) dX5_isAhead_6 (by decide) (by omega) (by omega) (fun c6 => ?_) (fun c6 => ?_)
    · refine ww_iconst (v := nI 1) dX5_isAhead_40 (by decide) ?_
      exact ww_zret dX5_isAhead_41 rfl (by first | rfl | exact nar_bI _) ⟨rfl, rfl⟩
    · exfalso; omega
  | succ c ih =>
    intro j hj
    have hTa := (hB (a + j)).2
    have hx := tx_lt (i := i) (j := f + j) hi (by omega)
    refine ww_iload dX5_isAhead_3 rfl ?_
    refine ww_iload_n dX5_isAhead_5 rfl rfl ?_
    refine ww_icmp_geN (tgt := 40) dX5_isAhead_6 (by decide) (by omega) (by omega) (fun c6 => ?_) (fun c6 => ?_)
    · exfalso; omega
    · refine ww_aload_n dX5_isAhead_9 rfl rfl ?_
      refine ww_iload_n dX5_isAhead_10 rfl rfl ?_
      refine ww_iload dX5_isAhead_11 rfl ?_
      refine ww_iaddN dX5_isAhead_13 ?_
      refine ww_cT (M := m_X5_isAhead) (pc := 14) (d := 4) (v := .int (nI (tcN i (f + j)))) (st := []) (i := i) (by omega) (c_T_charAt hst i hi (f + j) (by show _ < tcL i; omega) (rdS h n a k pl)) vv_J0_charAt_5068e rfl dX5_isAhead_14 wg_517 rfl rfl rfl (Nat.le_of_ble_eq_true rfl) (Nat.le_of_ble_eq_true rfl) ?_
      refine ww_aload_n dX5_isAhead_17 rfl rfl ?_
      refine ww_get 0 dX5_isAhead_18 hR.1 rfl (by decide) inX5 wg_38 (rdS_j _ _ _ _ (by decide) hR.2.2.1) ?_
      refine ww_aload_n dX5_isAhead_21 rfl rfl ?_
      refine ww_get 3 dX5_isAhead_22 hR.1 rfl (by decide) inX5 wg_45 (rdS_3 _ _ _ _ _) ?_
      refine ww_iload dX5_isAhead_25 rfl ?_
      refine ww_iaddN dX5_isAhead_27 ?_
      refine ww_ialdF dX5_isAhead_28 hR.2.1 hR.2.2.2 (by omega) (by omega) ?_
      have hT29 := (hB (a + j)).2
      refine ww_sk (st2 := [.int (nI (T (a + j))), .int (nI (tcN i (f + j)))]) (by rw [(hB (a + j)).1]) ?_
      refine ww_icmp_eqN (tgt := 34) dX5_isAhead_29 (by decide) (by omega) (by omega) (fun c29 => ?_) (fun c29 => ?_)
      · refine ww_incN (c := 1) (lv2 := [.ref 1, .ref (1000000 + (1 + i)), .int (nI f), .int (nI ln), .int (nI (j + 1))]) dX5_isAhead_34 rfl rfl rfl (by decide) rfl ?_
        refine ww_goto (tgt := 3) dX5_isAhead_37 (by decide) ?_
        rw [mtB_t c29]
        exact ih (j + 1) (by omega)
      · refine ww_iconst (v := nI 0) dX5_isAhead_32 (by decide) ?_
        exact ww_zret dX5_isAhead_33 rfl (by first | rfl | exact nar_bI _) ⟨by rw [mtB_f c29]; rfl, rfl⟩
set_option maxHeartbeats 4000000 in
set_option maxRecDepth 100000 in
theorem c_Rd_isA {l : Launch} {Z : EE} (hst : l.stackTraces = false) {h : PH} {tf : Nat → Int32} (hR : RdK h tf) {T : Nat → Nat} (hB : BT tf T) {n : Nat} (hn : n ≤ 600) (k : Nat) (pl : Int32) (a : Nat) (i : Nat) (hi : i < 21) (f ln : Nat) (hf : f + ln ≤ tcL i) (hl : a + ln ≤ n) : CC l Z m_X5_isAhead 4 0 0 [.ref 1, .ref (1000000 + (1 + i)), .int (nI f), .int (nI ln)] (rdS h n a k pl) (RT (some (.int (bI (mtB i T a f ln 0)))) (rdS h n a k pl)) := by
  refine ee_entry hst (by decide +kernel) rfl rfl (by simp [Value.category]) (Nat.le_of_ble_eq_true rfl) ?_
  refine ww_lv (lv2 := [.ref 1, .ref (1000000 + (1 + i)), .int (nI f), .int (nI ln), UU]) rfl ?_
  refine ww_iconst (v := nI 0) dX5_isAhead_0 (by decide) ?_
  refine ww_sti (lv2 := [.ref 1, .ref (1000000 + (1 + i)), .int (nI f), .int (nI ln), .int (nI 0)]) dX5_isAhead_1 rfl (by decide) rfl ?_
  exact l_Rd_isA hst hR hB hn k pl a i hi f ln hf hl ln 0 (by omega)
set_option maxHeartbeats 4000000 in
set_option maxRecDepth 100000 in
theorem l_Rd_word_n {l : Launch} {Z : EE} (hst : l.stackTraces = false) {h : PH} {tf : Nat → Int32} (hR : RdK h tf) {T : Nat → Nat} (hB : BT tf T) {n : Nat} (hn : n ≤ 600) (a : Nat) (i : Nat) (hi : i < 21) (ln : Nat) (hl : a + ln ≤ n) : ∀ (c x w f : Nat), x + c = tcL i + 1 → f ≤ x → w ≤ x → wfd i T a ln c x w f = none → WW l Z m_X5_word 5 0 0 18 [.ref 1, .ref (1000000 + (1 + i)), .int (nI ln), .int (nI w), .int (nI f), .int (nI x)] [] (rdS h n a 0 (-1)) (RT (some (.int (-1))) (rdS h n n 1 (nI a))) := by
  have hL := tcL_le hi
  have hL2 : tcL i ≤ 47 := hL
  intro c
  induction c with
  | zero =>
    intro x w f hx hf hw hr
    refine ww_iload dX5_word_18 rfl ?_
    refine ww_aload_n dX5_word_20 rfl rfl ?_
    refine ww_cT (M := m_X5_word) (pc := 21) (d := 5) (v := .int (nI (tcL i))) (st := [.int (nI x)]) (i := i) (by omega) (c_T_length hst i hi (rdS h n a 0 (-1))) vv_J0_length_8abf5 rfl dX5_word_21 wg_507 rfl rfl rfl (Nat.le_of_ble_eq_true rfl) (Nat.le_of_ble_eq_true rfl) ?_
    refine ww_icmp_gtN (tgt := 98) dX5_word_24 (by decide) (by omega) (by omega) (fun c24 => ?_) (fun c24 => ?_)
    · refine ww_aload_n dX5_word_98 rfl rfl ?_
      refine ww_iconst (v := nI 1) dX5_word_99 (by decide) ?_
      refine ww_aload_n dX5_word_100 rfl rfl ?_
      refine ww_get 3 dX5_word_101 hR.1 rfl (by decide) inX5 wg_45 (rdS_3 _ _ _ _ _) ?_
      refine ww_cV0 (M := m_X5_word) (pc := 104) (h1 := rdS h n n 1 (nI a)) (st := []) (d := 5) (bc := 0) (bs := 0) (c_Rd_fail0 hst hR hB hn a (-1) 1 (nI a)) vv_X5_fail dX5_word_104 wg_559 hR.1 rfl rfl rfl rfl (Nat.le_of_ble_eq_true rfl) (Nat.le_of_ble_eq_true rfl) (Nat.le_of_ble_eq_true rfl) (Nat.le_of_ble_eq_true rfl) ?_
      refine ww_iconst (v := -1) dX5_word_107 (by decide) ?_
      exact ww_iret dX5_word_108 rfl ⟨rfl, rfl⟩
    · exfalso; omega
  | succ c ih =>
    intro x w f hx hf hw hr
    have hTx : x < 48 → tcN i x < 128 := fun h9 => tx_lt hi h9
    have hTx2 := hTx (by omega)
    refine ww_iload dX5_word_18 rfl ?_
    refine ww_aload_n dX5_word_20 rfl rfl ?_
    refine ww_cT (M := m_X5_word) (pc := 21) (d := 5) (v := .int (nI (tcL i))) (st := [.int (nI x)]) (i := i) (by omega) (c_T_length hst i hi (rdS h n a 0 (-1))) vv_J0_length_8abf5 rfl dX5_word_21 wg_507 rfl rfl rfl (Nat.le_of_ble_eq_true rfl) (Nat.le_of_ble_eq_true rfl) ?_
    refine ww_icmp_gtN (tgt := 98) dX5_word_24 (by decide) (by omega) (by omega) (fun c24 => ?_) (fun c24 => ?_)
    · exfalso; omega
    · refine ww_iload dX5_word_27 rfl ?_
      refine ww_aload_n dX5_word_29 rfl rfl ?_
      refine ww_cT (M := m_X5_word) (pc := 30) (d := 5) (v := .int (nI (tcL i))) (st := [.int (nI x)]) (i := i) (by omega) (c_T_length hst i hi (rdS h n a 0 (-1))) vv_J0_length_8abf5 rfl dX5_word_30 wg_507 rfl rfl rfl (Nat.le_of_ble_eq_true rfl) (Nat.le_of_ble_eq_true rfl) ?_
      refine ww_icmp_eqN (tgt := 47) dX5_word_33 (by decide) (by omega) (by omega) (fun c33 => ?_) (fun c33 => ?_)
      · refine ww_iload_n dX5_word_47 rfl rfl ?_
        refine ww_if_leN (tgt := 83) dX5_word_48 (by decide) (by omega) (fun c48 => ?_) (fun c48 => ?_)
        · refine ww_incN (c := 1) (lv2 := [.ref 1, .ref (1000000 + (1 + i)), .int (nI ln), .int (nI (w + 1)), .int (nI f), .int (nI x)]) dX5_word_83 rfl rfl rfl (by decide) rfl ?_
          refine ww_iload dX5_word_86 rfl ?_
          refine ww_iconst (v := nI 1) dX5_word_88 (by decide) ?_
          refine ww_iaddN dX5_word_89 ?_
          refine ww_sti (lv2 := [.ref 1, .ref (1000000 + (1 + i)), .int (nI ln), .int (nI (w + 1)), .int (nI (x + 1)), .int (nI x)]) dX5_word_90 rfl (by decide) rfl ?_
          refine ww_incN (c := 1) (lv2 := [.ref 1, .ref (1000000 + (1 + i)), .int (nI ln), .int (nI (w + 1)), .int (nI (x + 1)), .int (nI (x + 1))]) dX5_word_92 rfl rfl rfl (by decide) rfl ?_
          refine ww_goto (tgt := 18) dX5_word_95 (by decide) ?_
          rw [wfd_s0 (by omega) (fun e => by first | omega | (have e9 := e.2.2; rw [c68] at e9; cases e9))] at hr
          exact ih (x + 1) (w + 1) (x + 1) (by omega) (by omega) (by omega) hr
        · refine ww_iload dX5_word_51 rfl ?_
          refine ww_iload dX5_word_53 rfl ?_
          refine ww_isubN dX5_word_55 (by omega) ?_
          refine ww_iload_n dX5_word_56 rfl rfl ?_
          refine ww_icmp_neN (tgt := 83) dX5_word_57 (by decide) (by omega) (by omega) (fun c57 => ?_) (fun c57 => ?_)
          · refine ww_incN (c := 1) (lv2 := [.ref 1, .ref (1000000 + (1 + i)), .int (nI ln), .int (nI (w + 1)), .int (nI f), .int (nI x)]) dX5_word_83 rfl rfl rfl (by decide) rfl ?_
            refine ww_iload dX5_word_86 rfl ?_
            refine ww_iconst (v := nI 1) dX5_word_88 (by decide) ?_
            refine ww_iaddN dX5_word_89 ?_
            refine ww_sti (lv2 := [.ref 1, .ref (1000000 + (1 + i)), .int (nI ln), .int (nI (w + 1)), .int (nI (x + 1)), .int (nI x)]) dX5_word_90 rfl (by decide) rfl ?_
            refine ww_incN (c := 1) (lv2 := [.ref 1, .ref (1000000 + (1 + i)), .int (nI ln), .int (nI (w + 1)), .int (nI (x + 1)), .int (nI (x + 1))]) dX5_word_92 rfl rfl rfl (by decide) rfl ?_
            refine ww_goto (tgt := 18) dX5_word_95 (by decide) ?_
            rw [wfd_s0 (by omega) (fun e => by first | omega | (have e9 := e.2.2; rw [c68] at e9; cases e9))] at hr
            exact ih (x + 1) (w + 1) (x + 1) (by omega) (by omega) (by omega) hr
          · refine ww_aload_n dX5_word_60 rfl rfl ?_
            refine ww_aload_n dX5_word_61 rfl rfl ?_
            refine ww_iload dX5_word_62 rfl ?_
            refine ww_iload_n dX5_word_64 rfl rfl ?_
            refine ww_cVr (M := m_X5_word) (pc := 65) (v := .int (bI (mtB i T a f ln 0))) (h1 := rdS h n a 0 (-1)) (st := []) (d := 5) (bc := 0) (bs := 0) (c_Rd_isA hst hR hB hn 0 (-1) a i hi f ln (by omega) (by omega)) vv_X5_isAhead dX5_word_65 wg_555 hR.1 rfl rfl rfl rfl (Nat.le_of_ble_eq_true rfl) (Nat.le_of_ble_eq_true rfl) (Nat.le_of_ble_eq_true rfl) (Nat.le_of_ble_eq_true rfl) ?_
            refine ww_if_eqB (tgt := 83) dX5_word_68 (by decide) (fun c68 => ?_) (fun c68 => ?_)
            · refine ww_incN (c := 1) (lv2 := [.ref 1, .ref (1000000 + (1 + i)), .int (nI ln), .int (nI (w + 1)), .int (nI f), .int (nI x)]) dX5_word_83 rfl rfl rfl (by decide) rfl ?_
              refine ww_iload dX5_word_86 rfl ?_
              refine ww_iconst (v := nI 1) dX5_word_88 (by decide) ?_
              refine ww_iaddN dX5_word_89 ?_
              refine ww_sti (lv2 := [.ref 1, .ref (1000000 + (1 + i)), .int (nI ln), .int (nI (w + 1)), .int (nI (x + 1)), .int (nI x)]) dX5_word_90 rfl (by decide) rfl ?_
              refine ww_incN (c := 1) (lv2 := [.ref 1, .ref (1000000 + (1 + i)), .int (nI ln), .int (nI (w + 1)), .int (nI (x + 1)), .int (nI (x + 1))]) dX5_word_92 rfl rfl rfl (by decide) rfl ?_
              refine ww_goto (tgt := 18) dX5_word_95 (by decide) ?_
              rw [wfd_s0 (by omega) (fun e => by first | omega | (have e9 := e.2.2; rw [c68] at e9; cases e9))] at hr
              exact ih (x + 1) (w + 1) (x + 1) (by omega) (by omega) (by omega) hr
            · refine ww_aload_n dX5_word_71 rfl rfl ?_
              refine ww_dup dX5_word_72 rfl ?_
              refine ww_get 3 dX5_word_73 hR.1 rfl (by decide) inX5 wg_45 (rdS_3 _ _ _ _ _) ?_
              refine ww_iload_n dX5_word_76 rfl rfl ?_
              refine ww_iaddN dX5_word_77 ?_
              refine ww_pfI tyX5 3 dX5_word_78 hR.1 rfl (by decide) inX5 tyX5_ok nmX5 wg_45 rfl rfl ?_
              refine ww_iload_n dX5_word_81 rfl rfl ?_
              exact ww_iret dX5_word_82 rfl (by rw [wfd_s1 (by omega) ⟨by omega, by omega, c68⟩] at hr; cases hr)
      · refine ww_aload_n dX5_word_36 rfl rfl ?_
        refine ww_iload dX5_word_37 rfl ?_
        refine ww_cT (M := m_X5_word) (pc := 39) (d := 5) (v := .int (nI (tcN i x))) (st := []) (i := i) (by omega) (c_T_charAt hst i hi x (by show _ < tcL i; omega) (rdS h n a 0 (-1))) vv_J0_charAt_5068e rfl dX5_word_39 wg_517 rfl rfl rfl (Nat.le_of_ble_eq_true rfl) (Nat.le_of_ble_eq_true rfl) ?_
        refine ww_bipush (v := nI 32) dX5_word_42 (by decide) ?_
        refine ww_icmp_neN (tgt := 92) dX5_word_44 (by decide) (by omega) (by omega) (fun c44 => ?_) (fun c44 => ?_)
        · refine ww_incN (c := 1) (lv2 := [.ref 1, .ref (1000000 + (1 + i)), .int (nI ln), .int (nI w), .int (nI f), .int (nI (x + 1))]) dX5_word_92 rfl rfl rfl (by decide) rfl ?_
          refine ww_goto (tgt := 18) dX5_word_95 (by decide) ?_
          rw [wfd_c (fun e => by omega)] at hr
          exact ih (x + 1) w f (by omega) (by omega) (by omega) hr
        · refine ww_iload_n dX5_word_47 rfl rfl ?_
          refine ww_if_leN (tgt := 83) dX5_word_48 (by decide) (by omega) (fun c48 => ?_) (fun c48 => ?_)
          · refine ww_incN (c := 1) (lv2 := [.ref 1, .ref (1000000 + (1 + i)), .int (nI ln), .int (nI (w + 1)), .int (nI f), .int (nI x)]) dX5_word_83 rfl rfl rfl (by decide) rfl ?_
            refine ww_iload dX5_word_86 rfl ?_
            refine ww_iconst (v := nI 1) dX5_word_88 (by decide) ?_
            refine ww_iaddN dX5_word_89 ?_
            refine ww_sti (lv2 := [.ref 1, .ref (1000000 + (1 + i)), .int (nI ln), .int (nI (w + 1)), .int (nI (x + 1)), .int (nI x)]) dX5_word_90 rfl (by decide) rfl ?_
            refine ww_incN (c := 1) (lv2 := [.ref 1, .ref (1000000 + (1 + i)), .int (nI ln), .int (nI (w + 1)), .int (nI (x + 1)), .int (nI (x + 1))]) dX5_word_92 rfl rfl rfl (by decide) rfl ?_
            refine ww_goto (tgt := 18) dX5_word_95 (by decide) ?_
            rw [wfd_s0 (by omega) (fun e => by first | omega | (have e9 := e.2.2; rw [c68] at e9; cases e9))] at hr
            exact ih (x + 1) (w + 1) (x + 1) (by omega) (by omega) (by omega) hr
          · refine ww_iload dX5_word_51 rfl ?_
            refine ww_iload dX5_word_53 rfl ?_
            refine ww_isubN dX5_word_55 (by omega) ?_
            refine ww_iload_n dX5_word_56 rfl rfl ?_
            refine ww_icmp_neN (tgt := 83) dX5_word_57 (by decide) (by omega) (by omega) (fun c57 => ?_) (fun c57 => ?_)
            · refine ww_incN (c := 1) (lv2 := [.ref 1, .ref (1000000 + (1 + i)), .int (nI ln), .int (nI (w + 1)), .int (nI f), .int (nI x)]) dX5_word_83 rfl rfl rfl (by decide) rfl ?_
              refine ww_iload dX5_word_86 rfl ?_
              refine ww_iconst (v := nI 1) dX5_word_88 (by decide) ?_
              refine ww_iaddN dX5_word_89 ?_
              refine ww_sti (lv2 := [.ref 1, .ref (1000000 + (1 + i)), .int (nI ln), .int (nI (w + 1)), .int (nI (x + 1)), .int (nI x)]) dX5_word_90 rfl (by decide) rfl ?_
              refine ww_incN (c := 1) (lv2 := [.ref 1, .ref (1000000 + (1 + i)), .int (nI ln), .int (nI (w + 1)), .int (nI (x + 1)), .int (nI (x + 1))]) dX5_word_92 rfl rfl rfl (by decide) rfl ?_
              refine ww_goto (tgt := 18) dX5_word_95 (by decide) ?_
              rw [wfd_s0 (by omega) (fun e => by first | omega | (have e9 := e.2.2; rw [c68] at e9; cases e9))] at hr
              exact ih (x + 1) (w + 1) (x + 1) (by omega) (by omega) (by omega) hr
            · refine ww_aload_n dX5_word_60 rfl rfl ?_
              refine ww_aload_n dX5_word_61 rfl rfl ?_
              refine ww_iload dX5_word_62 rfl ?_
              refine ww_iload_n dX5_word_64 rfl rfl ?_
              refine ww_cVr (M := m_X5_word) (pc := 65) (v := .int (bI (mtB i T a f ln 0))) (h1 := rdS h n a 0 (-1)) (st := []) (d := 5) (bc := 0) (bs := 0) (c_Rd_isA hst hR hB hn 0 (-1) a i hi f ln (by omega) (by omega)) vv_X5_isAhead dX5_word_65 wg_555 hR.1 rfl rfl rfl rfl (Nat.le_of_ble_eq_true rfl) (Nat.le_of_ble_eq_true rfl) (Nat.le_of_ble_eq_true rfl) (Nat.le_of_ble_eq_true rfl) ?_
              refine ww_if_eqB (tgt := 83) dX5_word_68 (by decide) (fun c68 => ?_) (fun c68 => ?_)
              · refine ww_incN (c := 1) (lv2 := [.ref 1, .ref (1000000 + (1 + i)), .int (nI ln), .int (nI (w + 1)), .int (nI f), .int (nI x)]) dX5_word_83 rfl rfl rfl (by decide) rfl ?_
                refine ww_iload dX5_word_86 rfl ?_
                refine ww_iconst (v := nI 1) dX5_word_88 (by decide) ?_
                refine ww_iaddN dX5_word_89 ?_
                refine ww_sti (lv2 := [.ref 1, .ref (1000000 + (1 + i)), .int (nI ln), .int (nI (w + 1)), .int (nI (x + 1)), .int (nI x)]) dX5_word_90 rfl (by decide) rfl ?_
                refine ww_incN (c := 1) (lv2 := [.ref 1, .ref (1000000 + (1 + i)), .int (nI ln), .int (nI (w + 1)), .int (nI (x + 1)), .int (nI (x + 1))]) dX5_word_92 rfl rfl rfl (by decide) rfl ?_
                refine ww_goto (tgt := 18) dX5_word_95 (by decide) ?_
                rw [wfd_s0 (by omega) (fun e => by first | omega | (have e9 := e.2.2; rw [c68] at e9; cases e9))] at hr
                exact ih (x + 1) (w + 1) (x + 1) (by omega) (by omega) (by omega) hr
              · refine ww_aload_n dX5_word_71 rfl rfl ?_
                refine ww_dup dX5_word_72 rfl ?_
                refine ww_get 3 dX5_word_73 hR.1 rfl (by decide) inX5 wg_45 (rdS_3 _ _ _ _ _) ?_
                refine ww_iload_n dX5_word_76 rfl rfl ?_
                refine ww_iaddN dX5_word_77 ?_
                refine ww_pfI tyX5 3 dX5_word_78 hR.1 rfl (by decide) inX5 tyX5_ok nmX5 wg_45 rfl rfl ?_
                refine ww_iload_n dX5_word_81 rfl rfl ?_
                exact ww_iret dX5_word_82 rfl (by rw [wfd_s1 (by omega) ⟨by omega, by omega, c68⟩] at hr; cases hr)
set_option maxHeartbeats 4000000 in
set_option maxRecDepth 100000 in
theorem l_Rd_word_s {l : Launch} {Z : EE} (hst : l.stackTraces = false) {h : PH} {tf : Nat → Int32} (hR : RdK h tf) {T : Nat → Nat} (hB : BT tf T) {n : Nat} (hn : n ≤ 600) (a : Nat) (i : Nat) (hi : i < 21) (ln : Nat) (hl : a + ln ≤ n) {v : Nat} : ∀ (c x w f : Nat), x + c = tcL i + 1 → f ≤ x → w ≤ x → wfd i T a ln c x w f = some v → WW l Z m_X5_word 5 0 0 18 [.ref 1, .ref (1000000 + (1 + i)), .int (nI ln), .int (nI w), .int (nI f), .int (nI x)] [] (rdS h n a 0 (-1)) (RT (some (.int (nI v))) (rdS h n (a + ln) 0 (-1))) := by
  have hL := tcL_le hi
  have hL2 : tcL i ≤ 47 := hL
  intro c
  induction c with
  | zero =>
    intro x w f hx hf hw hr
    cases hr
  | succ c ih =>
    intro x w f hx hf hw hr
    have hTx : x < 48 → tcN i x < 128 := fun h9 => tx_lt hi h9
    have hTx2 := hTx (by omega)
    refine ww_iload dX5_word_18 rfl ?_
    refine ww_aload_n dX5_word_20 rfl rfl ?_
    refine ww_cT (M := m_X5_word) (pc := 21) (d := 5) (v := .int (nI (tcL i))) (st := [.int (nI x)]) (i := i) (by omega) (c_T_length hst i hi (rdS h n a 0 (-1))) vv_J0_length_8abf5 rfl dX5_word_21 wg_507 rfl rfl rfl (Nat.le_of_ble_eq_true rfl) (Nat.le_of_ble_eq_true rfl) ?_
    refine ww_icmp_gtN (tgt := 98) dX5_word_24 (by decide) (by omega) (by omega) (fun c24 => ?_) (fun c24 => ?_)
    · exfalso; omega
    · refine ww_iload dX5_word_27 rfl ?_
      refine ww_aload_n dX5_word_29 rfl rfl ?_
      refine ww_cT (M := m_X5_word) (pc := 30) (d := 5) (v := .int (nI (tcL i))) (st := [.int (nI x)]) (i := i) (by omega) (c_T_length hst i hi (rdS h n a 0 (-1))) vv_J0_length_8abf5 rfl dX5_word_30 wg_507 rfl rfl rfl (Nat.le_of_ble_eq_true rfl) (Nat.le_of_ble_eq_true rfl) ?_
      refine ww_icmp_eqN (tgt := 47) dX5_word_33 (by decide) (by omega) (by omega) (fun c33 => ?_) (fun c33 => ?_)
      · refine ww_iload_n dX5_word_47 rfl rfl ?_
        refine ww_if_leN (tgt := 83) dX5_word_48 (by decide) (by omega) (fun c48 => ?_) (fun c48 => ?_)
        · refine ww_incN (c := 1) (lv2 := [.ref 1, .ref (1000000 + (1 + i)), .int (nI ln), .int (nI (w + 1)), .int (nI f), .int (nI x)]) dX5_word_83 rfl rfl rfl (by decide) rfl ?_
          refine ww_iload dX5_word_86 rfl ?_
          refine ww_iconst (v := nI 1) dX5_word_88 (by decide) ?_
          refine ww_iaddN dX5_word_89 ?_
          refine ww_sti (lv2 := [.ref 1, .ref (1000000 + (1 + i)), .int (nI ln), .int (nI (w + 1)), .int (nI (x + 1)), .int (nI x)]) dX5_word_90 rfl (by decide) rfl ?_
          refine ww_incN (c := 1) (lv2 := [.ref 1, .ref (1000000 + (1 + i)), .int (nI ln), .int (nI (w + 1)), .int (nI (x + 1)), .int (nI (x + 1))]) dX5_word_92 rfl rfl rfl (by decide) rfl ?_
          refine ww_goto (tgt := 18) dX5_word_95 (by decide) ?_
          rw [wfd_s0 (by omega) (fun e => by first | omega | (have e9 := e.2.2; rw [c68] at e9; cases e9))] at hr
          exact ih (x + 1) (w + 1) (x + 1) (by omega) (by omega) (by omega) hr
        · refine ww_iload dX5_word_51 rfl ?_
          refine ww_iload dX5_word_53 rfl ?_
          refine ww_isubN dX5_word_55 (by omega) ?_
          refine ww_iload_n dX5_word_56 rfl rfl ?_
          refine ww_icmp_neN (tgt := 83) dX5_word_57 (by decide) (by omega) (by omega) (fun c57 => ?_) (fun c57 => ?_)
          · refine ww_incN (c := 1) (lv2 := [.ref 1, .ref (1000000 + (1 + i)), .int (nI ln), .int (nI (w + 1)), .int (nI f), .int (nI x)]) dX5_word_83 rfl rfl rfl (by decide) rfl ?_
            refine ww_iload dX5_word_86 rfl ?_
            refine ww_iconst (v := nI 1) dX5_word_88 (by decide) ?_
            refine ww_iaddN dX5_word_89 ?_
            refine ww_sti (lv2 := [.ref 1, .ref (1000000 + (1 + i)), .int (nI ln), .int (nI (w + 1)), .int (nI (x + 1)), .int (nI x)]) dX5_word_90 rfl (by decide) rfl ?_
            refine ww_incN (c := 1) (lv2 := [.ref 1, .ref (1000000 + (1 + i)), .int (nI ln), .int (nI (w + 1)), .int (nI (x + 1)), .int (nI (x + 1))]) dX5_word_92 rfl rfl rfl (by decide) rfl ?_
            refine ww_goto (tgt := 18) dX5_word_95 (by decide) ?_
            rw [wfd_s0 (by omega) (fun e => by first | omega | (have e9 := e.2.2; rw [c68] at e9; cases e9))] at hr
            exact ih (x + 1) (w + 1) (x + 1) (by omega) (by omega) (by omega) hr
          · refine ww_aload_n dX5_word_60 rfl rfl ?_
            refine ww_aload_n dX5_word_61 rfl rfl ?_
            refine ww_iload dX5_word_62 rfl ?_
            refine ww_iload_n dX5_word_64 rfl rfl ?_
            refine ww_cVr (M := m_X5_word) (pc := 65) (v := .int (bI (mtB i T a f ln 0))) (h1 := rdS h n a 0 (-1)) (st := []) (d := 5) (bc := 0) (bs := 0) (c_Rd_isA hst hR hB hn 0 (-1) a i hi f ln (by omega) (by omega)) vv_X5_isAhead dX5_word_65 wg_555 hR.1 rfl rfl rfl rfl (Nat.le_of_ble_eq_true rfl) (Nat.le_of_ble_eq_true rfl) (Nat.le_of_ble_eq_true rfl) (Nat.le_of_ble_eq_true rfl) ?_
            refine ww_if_eqB (tgt := 83) dX5_word_68 (by decide) (fun c68 => ?_) (fun c68 => ?_)
            · refine ww_incN (c := 1) (lv2 := [.ref 1, .ref (1000000 + (1 + i)), .int (nI ln), .int (nI (w + 1)), .int (nI f), .int (nI x)]) dX5_word_83 rfl rfl rfl (by decide) rfl ?_
              refine ww_iload dX5_word_86 rfl ?_
              refine ww_iconst (v := nI 1) dX5_word_88 (by decide) ?_
              refine ww_iaddN dX5_word_89 ?_
              refine ww_sti (lv2 := [.ref 1, .ref (1000000 + (1 + i)), .int (nI ln), .int (nI (w + 1)), .int (nI (x + 1)), .int (nI x)]) dX5_word_90 rfl (by decide) rfl ?_
              refine ww_incN (c := 1) (lv2 := [.ref 1, .ref (1000000 + (1 + i)), .int (nI ln), .int (nI (w + 1)), .int (nI (x + 1)), .int (nI (x + 1))]) dX5_word_92 rfl rfl rfl (by decide) rfl ?_
              refine ww_goto (tgt := 18) dX5_word_95 (by decide) ?_
              rw [wfd_s0 (by omega) (fun e => by first | omega | (have e9 := e.2.2; rw [c68] at e9; cases e9))] at hr
              exact ih (x + 1) (w + 1) (x + 1) (by omega) (by omega) (by omega) hr
            · refine ww_aload_n dX5_word_71 rfl rfl ?_
              refine ww_dup dX5_word_72 rfl ?_
              refine ww_get 3 dX5_word_73 hR.1 rfl (by decide) inX5 wg_45 (rdS_3 _ _ _ _ _) ?_
              refine ww_iload_n dX5_word_76 rfl rfl ?_
              refine ww_iaddN dX5_word_77 ?_
              refine ww_pfI tyX5 3 dX5_word_78 hR.1 rfl (by decide) inX5 tyX5_ok nmX5 wg_45 rfl rfl ?_
              refine ww_iload_n dX5_word_81 rfl rfl ?_
              exact ww_iret dX5_word_82 rfl ⟨(by rw [wfd_s1 (by omega) ⟨by omega, by omega, c68⟩] at hr; cases hr; rfl), rdS_s3 _ _ _ _ _ _⟩
      · refine ww_aload_n dX5_word_36 rfl rfl ?_
        refine ww_iload dX5_word_37 rfl ?_
        refine ww_cT (M := m_X5_word) (pc := 39) (d := 5) (v := .int (nI (tcN i x))) (st := []) (i := i) (by omega) (c_T_charAt hst i hi x (by show _ < tcL i; omega) (rdS h n a 0 (-1))) vv_J0_charAt_5068e rfl dX5_word_39 wg_517 rfl rfl rfl (Nat.le_of_ble_eq_true rfl) (Nat.le_of_ble_eq_true rfl) ?_
        refine ww_bipush (v := nI 32) dX5_word_42 (by decide) ?_
        refine ww_icmp_neN (tgt := 92) dX5_word_44 (by decide) (by omega) (by omega) (fun c44 => ?_) (fun c44 => ?_)
        · refine ww_incN (c := 1) (lv2 := [.ref 1, .ref (1000000 + (1 + i)), .int (nI ln), .int (nI w), .int (nI f), .int (nI (x + 1))]) dX5_word_92 rfl rfl rfl (by decide) rfl ?_
          refine ww_goto (tgt := 18) dX5_word_95 (by decide) ?_
          rw [wfd_c (fun e => by omega)] at hr
          exact ih (x + 1) w f (by omega) (by omega) (by omega) hr
        · refine ww_iload_n dX5_word_47 rfl rfl ?_
          refine ww_if_leN (tgt := 83) dX5_word_48 (by decide) (by omega) (fun c48 => ?_) (fun c48 => ?_)
          · refine ww_incN (c := 1) (lv2 := [.ref 1, .ref (1000000 + (1 + i)), .int (nI ln), .int (nI (w + 1)), .int (nI f), .int (nI x)]) dX5_word_83 rfl rfl rfl (by decide) rfl ?_
            refine ww_iload dX5_word_86 rfl ?_
            refine ww_iconst (v := nI 1) dX5_word_88 (by decide) ?_
            refine ww_iaddN dX5_word_89 ?_
            refine ww_sti (lv2 := [.ref 1, .ref (1000000 + (1 + i)), .int (nI ln), .int (nI (w + 1)), .int (nI (x + 1)), .int (nI x)]) dX5_word_90 rfl (by decide) rfl ?_
            refine ww_incN (c := 1) (lv2 := [.ref 1, .ref (1000000 + (1 + i)), .int (nI ln), .int (nI (w + 1)), .int (nI (x + 1)), .int (nI (x + 1))]) dX5_word_92 rfl rfl rfl (by decide) rfl ?_
            refine ww_goto (tgt := 18) dX5_word_95 (by decide) ?_
            rw [wfd_s0 (by omega) (fun e => by first | omega | (have e9 := e.2.2; rw [c68] at e9; cases e9))] at hr
            exact ih (x + 1) (w + 1) (x + 1) (by omega) (by omega) (by omega) hr
          · refine ww_iload dX5_word_51 rfl ?_
            refine ww_iload dX5_word_53 rfl ?_
            refine ww_isubN dX5_word_55 (by omega) ?_
            refine ww_iload_n dX5_word_56 rfl rfl ?_
            refine ww_icmp_neN (tgt := 83) dX5_word_57 (by decide) (by omega) (by omega) (fun c57 => ?_) (fun c57 => ?_)
            · refine ww_incN (c := 1) (lv2 := [.ref 1, .ref (1000000 + (1 + i)), .int (nI ln), .int (nI (w + 1)), .int (nI f), .int (nI x)]) dX5_word_83 rfl rfl rfl (by decide) rfl ?_
              refine ww_iload dX5_word_86 rfl ?_
              refine ww_iconst (v := nI 1) dX5_word_88 (by decide) ?_
              refine ww_iaddN dX5_word_89 ?_
              refine ww_sti (lv2 := [.ref 1, .ref (1000000 + (1 + i)), .int (nI ln), .int (nI (w + 1)), .int (nI (x + 1)), .int (nI x)]) dX5_word_90 rfl (by decide) rfl ?_
              refine ww_incN (c := 1) (lv2 := [.ref 1, .ref (1000000 + (1 + i)), .int (nI ln), .int (nI (w + 1)), .int (nI (x + 1)), .int (nI (x + 1))]) dX5_word_92 rfl rfl rfl (by decide) rfl ?_
              refine ww_goto (tgt := 18) dX5_word_95 (by decide) ?_
              rw [wfd_s0 (by omega) (fun e => by first | omega | (have e9 := e.2.2; rw [c68] at e9; cases e9))] at hr
              exact ih (x + 1) (w + 1) (x + 1) (by omega) (by omega) (by omega) hr
            · refine ww_aload_n dX5_word_60 rfl rfl ?_
              refine ww_aload_n dX5_word_61 rfl rfl ?_
              refine ww_iload dX5_word_62 rfl ?_
              refine ww_iload_n dX5_word_64 rfl rfl ?_
              refine ww_cVr (M := m_X5_word) (pc := 65) (v := .int (bI (mtB i T a f ln 0))) (h1 := rdS h n a 0 (-1)) (st := []) (d := 5) (bc := 0) (bs := 0) (c_Rd_isA hst hR hB hn 0 (-1) a i hi f ln (by omega) (by omega)) vv_X5_isAhead dX5_word_65 wg_555 hR.1 rfl rfl rfl rfl (Nat.le_of_ble_eq_true rfl) (Nat.le_of_ble_eq_true rfl) (Nat.le_of_ble_eq_true rfl) (Nat.le_of_ble_eq_true rfl) ?_
              refine ww_if_eqB (tgt := 83) dX5_word_68 (by decide) (fun c68 => ?_) (fun c68 => ?_)
              · refine ww_incN (c := 1) (lv2 := [.ref 1, .ref (1000000 + (1 + i)), .int (nI ln), .int (nI (w + 1)), .int (nI f), .int (nI x)]) dX5_word_83 rfl rfl rfl (by decide) rfl ?_
                refine ww_iload dX5_word_86 rfl ?_
                refine ww_iconst (v := nI 1) dX5_word_88 (by decide) ?_
                refine ww_iaddN dX5_word_89 ?_
                refine ww_sti (lv2 := [.ref 1, .ref (1000000 + (1 + i)), .int (nI ln), .int (nI (w + 1)), .int (nI (x + 1)), .int (nI x)]) dX5_word_90 rfl (by decide) rfl ?_
                refine ww_incN (c := 1) (lv2 := [.ref 1, .ref (1000000 + (1 + i)), .int (nI ln), .int (nI (w + 1)), .int (nI (x + 1)), .int (nI (x + 1))]) dX5_word_92 rfl rfl rfl (by decide) rfl ?_
                refine ww_goto (tgt := 18) dX5_word_95 (by decide) ?_
                rw [wfd_s0 (by omega) (fun e => by first | omega | (have e9 := e.2.2; rw [c68] at e9; cases e9))] at hr
                exact ih (x + 1) (w + 1) (x + 1) (by omega) (by omega) (by omega) hr
              · refine ww_aload_n dX5_word_71 rfl rfl ?_
                refine ww_dup dX5_word_72 rfl ?_
                refine ww_get 3 dX5_word_73 hR.1 rfl (by decide) inX5 wg_45 (rdS_3 _ _ _ _ _) ?_
                refine ww_iload_n dX5_word_76 rfl rfl ?_
                refine ww_iaddN dX5_word_77 ?_
                refine ww_pfI tyX5 3 dX5_word_78 hR.1 rfl (by decide) inX5 tyX5_ok nmX5 wg_45 rfl rfl ?_
                refine ww_iload_n dX5_word_81 rfl rfl ?_
                exact ww_iret dX5_word_82 rfl ⟨(by rw [wfd_s1 (by omega) ⟨by omega, by omega, c68⟩] at hr; cases hr; rfl), rdS_s3 _ _ _ _ _ _⟩
set_option maxHeartbeats 4000000 in
set_option maxRecDepth 100000 in
theorem c_Rd_word_l {l : Launch} {Z : EE} (hst : l.stackTraces = false) {h : PH} {tf : Nat → Int32} (hR : RdK h tf) {T : Nat → Nat} (hB : BT tf T) {n : Nat} (hn : n ≤ 600) (a : Nat) (ha : a ≤ n) (i : Nat) (hi : i < 21) {W : List (List Nat)} (hW : ∀ ln, wfd i T (sk T n a) ln (tcL i + 1) 0 0 0 = fdW T (sk T n a) (sk T n a + ln) W 0) {k q : Nat} (hr : wrdS W T n a = .inl (k, q)) : CC l Z m_X5_word 5 0 0 [.ref 1, .ref (1000000 + (1 + i))] (rdS h n a 0 (-1)) (RT (some (.int (-1))) (rdS h n n k (nI q))) := by
  refine ee_entry hst (by decide +kernel) rfl rfl (by simp [Value.category]) (Nat.le_of_ble_eq_true rfl) ?_
  refine ww_lv (lv2 := [.ref 1, .ref (1000000 + (1 + i)), UU, UU, UU, UU]) rfl ?_
  have hs1 := sk_le (T := T) ha
  have hs2 := sk_ge (T := T) ha
  have hs3 := sc_le (p := leB T) hs1
  have hs4 := sc_ge (p := leB T) hs1
  refine ww_aload_n dX5_word_0 rfl rfl ?_
  refine ww_cVr (M := m_X5_word) (pc := 1) (v := .int (chI T n (sk T n a))) (h1 := rdS h n (sk T n a) 0 (-1)) (st := []) (d := 5) (bc := 0) (bs := 0) (c_Rd_ahead hst hR hB hn 0 (-1) a (by omega)) vv_X5_ahead dX5_word_1 wg_502 hR.1 rfl rfl rfl rfl (Nat.le_of_ble_eq_true rfl) (Nat.le_of_ble_eq_true rfl) (Nat.le_of_ble_eq_true rfl) (Nat.le_of_ble_eq_true rfl) ?_
  refine ww_pop dX5_word_4 rfl ?_
  refine ww_aload_n dX5_word_5 rfl rfl ?_
  refine ww_cVr (M := m_X5_word) (pc := 6) (v := .int (nI (sc (leB T) n (sk T n a) - (sk T n a)))) (h1 := rdS h n (sk T n a) 0 (-1)) (st := []) (d := 5) (bc := 0) (bs := 0) (c_Rd_let hst hR hB hn 0 (-1) (sk T n a) (by omega)) vv_X5_lettersAhead dX5_word_6 wg_503 hR.1 rfl rfl rfl rfl (Nat.le_of_ble_eq_true rfl) (Nat.le_of_ble_eq_true rfl) (Nat.le_of_ble_eq_true rfl) (Nat.le_of_ble_eq_true rfl) ?_
  refine ww_sti_n (lv2 := [.ref 1, .ref (1000000 + (1 + i)), .int (nI (sc (leB T) n (sk T n a) - (sk T n a))), UU, UU, UU]) dX5_word_9 rfl rfl (by decide) rfl ?_
  refine ww_iconst (v := nI 0) dX5_word_10 (by decide) ?_
  refine ww_sti_n (lv2 := [.ref 1, .ref (1000000 + (1 + i)), .int (nI (sc (leB T) n (sk T n a) - (sk T n a))), .int (nI 0), UU, UU]) dX5_word_11 rfl rfl (by decide) rfl ?_
  refine ww_iconst (v := nI 0) dX5_word_12 (by decide) ?_
  refine ww_sti (lv2 := [.ref 1, .ref (1000000 + (1 + i)), .int (nI (sc (leB T) n (sk T n a) - (sk T n a))), .int (nI 0), .int (nI 0), UU]) dX5_word_13 rfl (by decide) rfl ?_
  refine ww_iconst (v := nI 0) dX5_word_15 (by decide) ?_
  refine ww_sti (lv2 := [.ref 1, .ref (1000000 + (1 + i)), .int (nI (sc (leB T) n (sk T n a) - (sk T n a))), .int (nI 0), .int (nI 0), .int (nI 0)]) dX5_word_16 rfl (by decide) rfl ?_
  have h9 := hW (sc (leB T) n (sk T n a) - sk T n a)
  rw [show sk T n a + (sc (leB T) n (sk T n a) - sk T n a) = sc (leB T) n (sk T n a) by omega] at h9
  obtain ⟨rfl, rfl, hq⟩ := wrdS_l hr
  exact l_Rd_word_n hst hR hB hn (sk T n a) i hi _ (by omega) (tcL i + 1) 0 0 0 (by omega) (by omega) (by omega) (h9.trans hq)
set_option maxHeartbeats 4000000 in
set_option maxRecDepth 100000 in
theorem c_Rd_word_r {l : Launch} {Z : EE} (hst : l.stackTraces = false) {h : PH} {tf : Nat → Int32} (hR : RdK h tf) {T : Nat → Nat} (hB : BT tf T) {n : Nat} (hn : n ≤ 600) (a : Nat) (ha : a ≤ n) (i : Nat) (hi : i < 21) {W : List (List Nat)} (hW : ∀ ln, wfd i T (sk T n a) ln (tcL i + 1) 0 0 0 = fdW T (sk T n a) (sk T n a + ln) W 0) {b v : Nat} (hr : wrdS W T n a = .inr (b, v)) : CC l Z m_X5_word 5 0 0 [.ref 1, .ref (1000000 + (1 + i))] (rdS h n a 0 (-1)) (RT (some (.int (nI v))) (rdS h n b 0 (-1))) := by
  refine ee_entry hst (by decide +kernel) rfl rfl (by simp [Value.category]) (Nat.le_of_ble_eq_true rfl) ?_
  refine ww_lv (lv2 := [.ref 1, .ref (1000000 + (1 + i)), UU, UU, UU, UU]) rfl ?_
  have hs1 := sk_le (T := T) ha
  have hs2 := sk_ge (T := T) ha
  have hs3 := sc_le (p := leB T) hs1
  have hs4 := sc_ge (p := leB T) hs1
  refine ww_aload_n dX5_word_0 rfl rfl ?_
  refine ww_cVr (M := m_X5_word) (pc := 1) (v := .int (chI T n (sk T n a))) (h1 := rdS h n (sk T n a) 0 (-1)) (st := []) (d := 5) (bc := 0) (bs := 0) (c_Rd_ahead hst hR hB hn 0 (-1) a (by omega)) vv_X5_ahead dX5_word_1 wg_502 hR.1 rfl rfl rfl rfl (Nat.le_of_ble_eq_true rfl) (Nat.le_of_ble_eq_true rfl) (Nat.le_of_ble_eq_true rfl) (Nat.le_of_ble_eq_true rfl) ?_
  refine ww_pop dX5_word_4 rfl ?_
  refine ww_aload_n dX5_word_5 rfl rfl ?_
  refine ww_cVr (M := m_X5_word) (pc := 6) (v := .int (nI (sc (leB T) n (sk T n a) - (sk T n a)))) (h1 := rdS h n (sk T n a) 0 (-1)) (st := []) (d := 5) (bc := 0) (bs := 0) (c_Rd_let hst hR hB hn 0 (-1) (sk T n a) (by omega)) vv_X5_lettersAhead dX5_word_6 wg_503 hR.1 rfl rfl rfl rfl (Nat.le_of_ble_eq_true rfl) (Nat.le_of_ble_eq_true rfl) (Nat.le_of_ble_eq_true rfl) (Nat.le_of_ble_eq_true rfl) ?_
  refine ww_sti_n (lv2 := [.ref 1, .ref (1000000 + (1 + i)), .int (nI (sc (leB T) n (sk T n a) - (sk T n a))), UU, UU, UU]) dX5_word_9 rfl rfl (by decide) rfl ?_
  refine ww_iconst (v := nI 0) dX5_word_10 (by decide) ?_
  refine ww_sti_n (lv2 := [.ref 1, .ref (1000000 + (1 + i)), .int (nI (sc (leB T) n (sk T n a) - (sk T n a))), .int (nI 0), UU, UU]) dX5_word_11 rfl rfl (by decide) rfl ?_
  refine ww_iconst (v := nI 0) dX5_word_12 (by decide) ?_
  refine ww_sti (lv2 := [.ref 1, .ref (1000000 + (1 + i)), .int (nI (sc (leB T) n (sk T n a) - (sk T n a))), .int (nI 0), .int (nI 0), UU]) dX5_word_13 rfl (by decide) rfl ?_
  refine ww_iconst (v := nI 0) dX5_word_15 (by decide) ?_
  refine ww_sti (lv2 := [.ref 1, .ref (1000000 + (1 + i)), .int (nI (sc (leB T) n (sk T n a) - (sk T n a))), .int (nI 0), .int (nI 0), .int (nI 0)]) dX5_word_16 rfl (by decide) rfl ?_
  have h9 := hW (sc (leB T) n (sk T n a) - sk T n a)
  rw [show sk T n a + (sc (leB T) n (sk T n a) - sk T n a) = sc (leB T) n (sk T n a) by omega] at h9
  obtain ⟨rfl, hq⟩ := wrdS_r hr
  have h8 := l_Rd_word_s (Z := Z) hst hR hB hn (sk T n a) i hi (sc (leB T) n (sk T n a) - sk T n a) (by omega) (tcL i + 1) 0 0 0 (by omega) (by omega) (by omega) (h9.trans hq)
  rw [show sk T n a + (sc (leB T) n (sk T n a) - sk T n a) = sc (leB T) n (sk T n a) by omega] at h8
  exact h8
set_option maxHeartbeats 4000000 in
set_option maxRecDepth 100000 in
theorem c_Rd_let_f {l : Launch} {Z : EE} (hst : l.stackTraces = false) {h : PH} {tf : Nat → Int32} (hR : RdK h tf) {T : Nat → Nat} (hB : BT tf T) {n : Nat} (hn : n ≤ 600) (k : Nat) (hk : 0 < k) (hk9 : k < 10) (pl : Int32) : CC l Z m_X5_lettersAhead 0 0 0 [.ref 1] (rdS h n n k pl) (RT (some (.int (nI 0))) (rdS h n n k pl)) := by
  have h9 := c_Rd_let (Z := Z) hst hR hB hn k pl n (Nat.le_refl _)
  rw [sc_stop (by omega), Nat.sub_self] at h9
  exact h9
set_option maxHeartbeats 4000000 in
set_option maxRecDepth 100000 in
theorem l_Rd_word_f {l : Launch} {Z : EE} (hst : l.stackTraces = false) {h : PH} {tf : Nat → Int32} (hR : RdK h tf) {T : Nat → Nat} (hB : BT tf T) {n : Nat} (hn : n ≤ 600) (k : Nat) (hk : 0 < k) (hk9 : k < 10) (pl : Int32) (i : Nat) (hi : i < 21) : ∀ (c x w f : Nat), x + c = tcL i + 1 → WW l Z m_X5_word 5 0 0 18 [.ref 1, .ref (1000000 + (1 + i)), .int (nI 0), .int (nI w), .int (nI f), .int (nI x)] [] (rdS h n n k pl) (RT (some (.int (-1))) (rdS h n n k pl)) := by
  have hL := tcL_le hi
  have hL2 : tcL i ≤ 47 := hL
  intro c
  induction c with
  | zero =>
    intro x w f hx
    refine ww_iload dX5_word_18 rfl ?_
    refine ww_aload_n dX5_word_20 rfl rfl ?_
    refine ww_cT (M := m_X5_word) (pc := 21) (d := 5) (v := .int (nI (tcL i))) (st := [.int (nI x)]) (i := i) (by omega) (c_T_length hst i hi (rdS h n n k pl)) vv_J0_length_8abf5 rfl dX5_word_21 wg_507 rfl rfl rfl (Nat.le_of_ble_eq_true rfl) (Nat.le_of_ble_eq_true rfl) ?_
    refine ww_icmp_gtN (tgt := 98) dX5_word_24 (by decide) (by omega) (by omega) (fun c24 => ?_) (fun c24 => ?_)
    · refine ww_aload_n dX5_word_98 rfl rfl ?_
      refine ww_iconst (v := nI 1) dX5_word_99 (by decide) ?_
      refine ww_aload_n dX5_word_100 rfl rfl ?_
      refine ww_get 3 dX5_word_101 hR.1 rfl (by decide) inX5 wg_45 (rdS_3 _ _ _ _ _) ?_
      refine ww_cV0 (M := m_X5_word) (pc := 104) (h1 := rdS h n n k pl) (st := []) (d := 5) (bc := 0) (bs := 0) (c_Rd_fail1 hst hR hB hn n k hk hk9 pl 1 (nI n)) vv_X5_fail dX5_word_104 wg_559 hR.1 rfl rfl rfl rfl (Nat.le_of_ble_eq_true rfl) (Nat.le_of_ble_eq_true rfl) (Nat.le_of_ble_eq_true rfl) (Nat.le_of_ble_eq_true rfl) ?_
      refine ww_iconst (v := -1) dX5_word_107 (by decide) ?_
      exact ww_iret dX5_word_108 rfl ⟨rfl, rfl⟩
    · exfalso; omega
  | succ c ih =>
    intro x w f hx
    have hTx2 := tx_lt (i := i) (j := x) hi (by omega)
    refine ww_iload dX5_word_18 rfl ?_
    refine ww_aload_n dX5_word_20 rfl rfl ?_
    refine ww_cT (M := m_X5_word) (pc := 21) (d := 5) (v := .int (nI (tcL i))) (st := [.int (nI x)]) (i := i) (by omega) (c_T_length hst i hi (rdS h n n k pl)) vv_J0_length_8abf5 rfl dX5_word_21 wg_507 rfl rfl rfl (Nat.le_of_ble_eq_true rfl) (Nat.le_of_ble_eq_true rfl) ?_
    refine ww_icmp_gtN (tgt := 98) dX5_word_24 (by decide) (by omega) (by omega) (fun c24 => ?_) (fun c24 => ?_)
    · exfalso; omega
    · refine ww_iload dX5_word_27 rfl ?_
      refine ww_aload_n dX5_word_29 rfl rfl ?_
      refine ww_cT (M := m_X5_word) (pc := 30) (d := 5) (v := .int (nI (tcL i))) (st := [.int (nI x)]) (i := i) (by omega) (c_T_length hst i hi (rdS h n n k pl)) vv_J0_length_8abf5 rfl dX5_word_30 wg_507 rfl rfl rfl (Nat.le_of_ble_eq_true rfl) (Nat.le_of_ble_eq_true rfl) ?_
      refine ww_icmp_eqN (tgt := 47) dX5_word_33 (by decide) (by omega) (by omega) (fun c33 => ?_) (fun c33 => ?_)
      · refine ww_iload_n dX5_word_47 rfl rfl ?_
        refine ww_if_leN (tgt := 83) dX5_word_48 (by decide) (by omega) (fun c48 => ?_) (fun c48 => ?_)
        · refine ww_incN (c := 1) (lv2 := [.ref 1, .ref (1000000 + (1 + i)), .int (nI 0), .int (nI (w + 1)), .int (nI f), .int (nI x)]) dX5_word_83 rfl rfl rfl (by decide) rfl ?_
          refine ww_iload dX5_word_86 rfl ?_
          refine ww_iconst (v := nI 1) dX5_word_88 (by decide) ?_
          refine ww_iaddN dX5_word_89 ?_
          refine ww_sti (lv2 := [.ref 1, .ref (1000000 + (1 + i)), .int (nI 0), .int (nI (w + 1)), .int (nI (x + 1)), .int (nI x)]) dX5_word_90 rfl (by decide) rfl ?_
          refine ww_incN (c := 1) (lv2 := [.ref 1, .ref (1000000 + (1 + i)), .int (nI 0), .int (nI (w + 1)), .int (nI (x + 1)), .int (nI (x + 1))]) dX5_word_92 rfl rfl rfl (by decide) rfl ?_
          refine ww_goto (tgt := 18) dX5_word_95 (by decide) ?_
          exact ih (x + 1) _ _ (by omega)
        · exfalso; omega
      · refine ww_aload_n dX5_word_36 rfl rfl ?_
        refine ww_iload dX5_word_37 rfl ?_
        refine ww_cT (M := m_X5_word) (pc := 39) (d := 5) (v := .int (nI (tcN i x))) (st := []) (i := i) (by omega) (c_T_charAt hst i hi x (by show _ < tcL i; omega) (rdS h n n k pl)) vv_J0_charAt_5068e rfl dX5_word_39 wg_517 rfl rfl rfl (Nat.le_of_ble_eq_true rfl) (Nat.le_of_ble_eq_true rfl) ?_
        refine ww_bipush (v := nI 32) dX5_word_42 (by decide) ?_
        refine ww_icmp_neN (tgt := 92) dX5_word_44 (by decide) (by omega) (by omega) (fun c44 => ?_) (fun c44 => ?_)
        · refine ww_incN (c := 1) (lv2 := [.ref 1, .ref (1000000 + (1 + i)), .int (nI 0), .int (nI w), .int (nI f), .int (nI (x + 1))]) dX5_word_92 rfl rfl rfl (by decide) rfl ?_
          refine ww_goto (tgt := 18) dX5_word_95 (by decide) ?_
          exact ih (x + 1) _ _ (by omega)
        · refine ww_iload_n dX5_word_47 rfl rfl ?_
          refine ww_if_leN (tgt := 83) dX5_word_48 (by decide) (by omega) (fun c48 => ?_) (fun c48 => ?_)
          · refine ww_incN (c := 1) (lv2 := [.ref 1, .ref (1000000 + (1 + i)), .int (nI 0), .int (nI (w + 1)), .int (nI f), .int (nI x)]) dX5_word_83 rfl rfl rfl (by decide) rfl ?_
            refine ww_iload dX5_word_86 rfl ?_
            refine ww_iconst (v := nI 1) dX5_word_88 (by decide) ?_
            refine ww_iaddN dX5_word_89 ?_
            refine ww_sti (lv2 := [.ref 1, .ref (1000000 + (1 + i)), .int (nI 0), .int (nI (w + 1)), .int (nI (x + 1)), .int (nI x)]) dX5_word_90 rfl (by decide) rfl ?_
            refine ww_incN (c := 1) (lv2 := [.ref 1, .ref (1000000 + (1 + i)), .int (nI 0), .int (nI (w + 1)), .int (nI (x + 1)), .int (nI (x + 1))]) dX5_word_92 rfl rfl rfl (by decide) rfl ?_
            refine ww_goto (tgt := 18) dX5_word_95 (by decide) ?_
            exact ih (x + 1) _ _ (by omega)
          · exfalso; omega
set_option maxHeartbeats 4000000 in
set_option maxRecDepth 100000 in
theorem c_Rd_word_f {l : Launch} {Z : EE} (hst : l.stackTraces = false) {h : PH} {tf : Nat → Int32} (hR : RdK h tf) {T : Nat → Nat} (hB : BT tf T) {n : Nat} (hn : n ≤ 600) (k : Nat) (hk : 0 < k) (hk9 : k < 10) (pl : Int32) (i : Nat) (hi : i < 21) : CC l Z m_X5_word 5 0 0 [.ref 1, .ref (1000000 + (1 + i))] (rdS h n n k pl) (RT (some (.int (-1))) (rdS h n n k pl)) := by
  refine ee_entry hst (by decide +kernel) rfl rfl (by simp [Value.category]) (Nat.le_of_ble_eq_true rfl) ?_
  refine ww_lv (lv2 := [.ref 1, .ref (1000000 + (1 + i)), UU, UU, UU, UU]) rfl ?_
  refine ww_aload_n dX5_word_0 rfl rfl ?_
  refine ww_cVr (M := m_X5_word) (pc := 1) (v := .int (-1)) (h1 := rdS h n n k pl) (st := []) (d := 5) (bc := 0) (bs := 0) (c_Rd_ahead_f hst hR hB hn k hk hk9 pl) vv_X5_ahead dX5_word_1 wg_502 hR.1 rfl rfl rfl rfl (Nat.le_of_ble_eq_true rfl) (Nat.le_of_ble_eq_true rfl) (Nat.le_of_ble_eq_true rfl) (Nat.le_of_ble_eq_true rfl) ?_
  refine ww_pop dX5_word_4 rfl ?_
  refine ww_aload_n dX5_word_5 rfl rfl ?_
  refine ww_cVr (M := m_X5_word) (pc := 6) (v := .int (nI 0)) (h1 := rdS h n n k pl) (st := []) (d := 5) (bc := 0) (bs := 0) (c_Rd_let_f hst hR hB hn k hk hk9 pl) vv_X5_lettersAhead dX5_word_6 wg_503 hR.1 rfl rfl rfl rfl (Nat.le_of_ble_eq_true rfl) (Nat.le_of_ble_eq_true rfl) (Nat.le_of_ble_eq_true rfl) (Nat.le_of_ble_eq_true rfl) ?_
  refine ww_sti_n (lv2 := [.ref 1, .ref (1000000 + (1 + i)), .int (nI 0), UU, UU, UU]) dX5_word_9 rfl rfl (by decide) rfl ?_
  refine ww_iconst (v := nI 0) dX5_word_10 (by decide) ?_
  refine ww_sti_n (lv2 := [.ref 1, .ref (1000000 + (1 + i)), .int (nI 0), .int (nI 0), UU, UU]) dX5_word_11 rfl rfl (by decide) rfl ?_
  refine ww_iconst (v := nI 0) dX5_word_12 (by decide) ?_
  refine ww_sti (lv2 := [.ref 1, .ref (1000000 + (1 + i)), .int (nI 0), .int (nI 0), .int (nI 0), UU]) dX5_word_13 rfl (by decide) rfl ?_
  refine ww_iconst (v := nI 0) dX5_word_15 (by decide) ?_
  refine ww_sti (lv2 := [.ref 1, .ref (1000000 + (1 + i)), .int (nI 0), .int (nI 0), .int (nI 0), .int (nI 0)]) dX5_word_16 rfl (by decide) rfl ?_
  exact l_Rd_word_f hst hR hB hn k hk hk9 pl i hi (tcL i + 1) 0 0 0 (by omega)
