/-! ===== the law's text ===== -/
abbrev LWt : Type := Nat × (Nat → Int32) × (Nat → Int32)
def eL (k v : Nat) (L : LWt) : LWt := (L.1 + 1, upd L.2.1 L.1 (nI k), upd L.2.2 L.1 (nI v))
def opP (c : Nat) : Nat := if c = 42 then 4 else if c = 47 then 5 else 6
def opA (c : Nat) : Nat := if c = 43 then 2 else 3
/-- behind a unit: as many units more as are joined by these signs -/
def prdL (isop : Nat → Bool) (opk : Nat → Nat) (unit : Nat → LWt → PR LWt) (T : Nat → Nat) (n : Nat) : Nat → Nat → LWt → PR LWt
  | 0, a, L => .inr (a, L)
  | j + 1, a, L => if sk T n a < n ∧ isop (T (sk T n a)) = true then bS (unit (sk T n a + 1) L) (fun a1 L1 => prdL isop opk unit T n j a1 (eL (opk (T (sk T n a))) 0 L1)) else .inr (sk T n a, L)
def isP (c : Nat) : Bool := c == 42 || c == 47 || c == 37
def isA (c : Nat) : Bool := c == 43 || c == 45
def prdS (unit : Nat → LWt → PR LWt) (T : Nat → Nat) (n : Nat) (a : Nat) (L : LWt) : PR LWt := bS (unit a L) (fun a1 L1 => prdL isP opP unit T n 150 a1 L1)
def sumS (unit : Nat → LWt → PR LWt) (T : Nat → Nat) (n : Nat) (a : Nat) (L : LWt) : PR LWt := bS (prdS unit T n a L) (fun a1 L1 => prdL isA opA (prdS unit T n) T n 150 a1 L1)
def parS (S : Nat → LWt → PR LWt) (T : Nat → Nat) (n a : Nat) (L : LWt) : PR LWt := bS (sgnS T n 91 a) (fun a2 _ => bS (S a2 L) (fun a3 L3 => bS (sgnS T n 44 a3) (fun a4 _ => bS (S a4 L3) (fun a5 L5 => bS (sgnS T n 93 a5) (fun a6 _ => .inr (a6, L5))))))
def unitF (inner : Option (Nat → LWt → PR LWt)) (T : Nat → Nat) (n a : Nat) (L : LWt) : PR LWt :=
  if sk T n a < n ∧ dgB T (sk T n a) = true then bS (figS T n 0 1000 (sk T n a)) (fun a1 v => .inr (a1, eL 0 v L))
  else if sk T n a < n ∧ T (sk T n a) = 40 then (match inner with
    | none => .inl (3, sk T n a)
    | some S => bS (S (sk T n a + 1) L) (fun a1 L1 => bS (sgnS T n 41 a1) (fun a2 _ => .inr (a2, L1))))
  else bS (wrdS wLaw T n (sk T n a)) (fun a1 w => if 7 ≤ w then (match inner with
    | none => .inl (3, sk T n a)
    | some S => bS (parS S T n a1 L) (fun a6 L5 => .inr (a6, eL w 0 L5))) else .inr (a1, eL 1 w L))
def unitK (T : Nat → Nat) (n : Nat) : Nat → Nat → LWt → PR LWt
  | 0 => unitF none T n
  | k + 1 => unitF (some (sumS (unitK T n k) T n)) T n
def lawS (T : Nat → Nat) (n : Nat) (L : LWt) : PR LWt := bS (sumS (unitK T n 6) T n 0 L) (fun a L1 => if sk T n a < n then .inl (1, sk T n a) else .inr (n, L1))
theorem wLaw_ne : ∀ w ∈ wLaw, w ≠ [] := by decide
theorem dpF_ext {kf kg : Nat → Int32} {m : Nat} (h : ∀ i, i < m → kg i = kf i) : ∀ i, i ≤ m → dpF kg i = dpF kf i
  | 0, _ => rfl
  | i + 1, hi => by
    show (if kg i = nI 0 ∨ kg i = nI 1 then dpF kg i + 1 else dpF kg i - 1) = (if kf i = nI 0 ∨ kf i = nI 1 then dpF kf i + 1 else dpF kf i - 1)
    rw [h i (by omega), dpF_ext h i (by omega)]
/-- L2 is L1 and more instructions: one value more in the end, at most U beyond the first depth on the way -/
def LwX (U : Nat) (L M : LWt) : Prop := L.1 < M.1 ∧ (∀ i, i < L.1 → M.2.1 i = L.2.1 i ∧ M.2.2 i = L.2.2 i) ∧ dpF M.2.1 M.1 = dpF L.2.1 L.1 + 1 ∧
  ∀ i, L.1 ≤ i → i < M.1 → (M.2.1 i = nI 0 ∨ (M.2.1 i = nI 1 ∧ ∃ q : Nat, q < 7 ∧ M.2.2 i = nI q) ∨ ∃ k : Nat, 2 ≤ k ∧ k ≤ 8 ∧ M.2.1 i = nI k ∧ 2 ≤ dpF M.2.1 i) ∧ dpF M.2.1 i ≤ dpF L.2.1 L.1 + U
theorem LwX.mono {U V : Nat} {L M : LWt} (h : LwX U L M) (hUV : U ≤ V) : LwX V L M := ⟨h.1, h.2.1, h.2.2.1, fun i h1 h2 => ⟨(h.2.2.2 i h1 h2).1, by have h9 := (h.2.2.2 i h1 h2).2; omega⟩⟩
theorem eL_in {k v : Nat} {L : LWt} {i : Nat} (h : i < L.1) : (eL k v L).2.1 i = L.2.1 i ∧ (eL k v L).2.2 i = L.2.2 i := ⟨pk_un (by omega), pk_un (by omega)⟩
theorem eL_at (k v : Nat) (L : LWt) : (eL k v L).2.1 L.1 = nI k ∧ (eL k v L).2.2 L.1 = nI v := ⟨pk_us, pk_us⟩
theorem LwX.leaf0 (v : Nat) (L : LWt) : LwX 0 L (eL 0 v L) := by
  have hd : dpF (eL 0 v L).2.1 L.1 = dpF L.2.1 L.1 := dpF_ext (fun i hi => (eL_in hi).1) L.1 (Nat.le_refl _)
  refine ⟨Nat.lt_succ_self _, fun i hi => eL_in hi, ?_, fun i h1 h2 => ?_⟩
  · show (if (eL 0 v L).2.1 L.1 = nI 0 ∨ _ then dpF (eL 0 v L).2.1 L.1 + 1 else _) = _
    rw [if_pos (Or.inl (eL_at 0 v L).1), hd]
  · have e : i = L.1 := by have h3 : i < L.1 + 1 := h2; omega
    subst e
    exact ⟨Or.inl (eL_at 0 v L).1, by omega⟩
theorem LwX.leaf1 {w : Nat} (hw : w < 7) (L : LWt) : LwX 0 L (eL 1 w L) := by
  have hd : dpF (eL 1 w L).2.1 L.1 = dpF L.2.1 L.1 := dpF_ext (fun i hi => (eL_in hi).1) L.1 (Nat.le_refl _)
  refine ⟨Nat.lt_succ_self _, fun i hi => eL_in hi, ?_, fun i h1 h2 => ?_⟩
  · show (if (eL 1 w L).2.1 L.1 = nI 0 ∨ (eL 1 w L).2.1 L.1 = nI 1 then dpF (eL 1 w L).2.1 L.1 + 1 else _) = _
    rw [if_pos (Or.inr (eL_at 1 w L).1), hd]
  · have e : i = L.1 := by have h3 : i < L.1 + 1 := h2; omega
    subst e
    exact ⟨Or.inr (Or.inl ⟨(eL_at 1 w L).1, w, hw, (eL_at 1 w L).2⟩), by omega⟩
/-- two of them, joined -/
theorem LwX.join {U V k : Nat} {L M N : LWt} (h1 : LwX U L M) (h2 : LwX V M N) (hk1 : 2 ≤ k) (hk2 : k ≤ 8) : LwX (max U (max (V + 1) 2)) L (eL k 0 N) := by
  obtain ⟨a1, a2, a3, a4⟩ := h1
  obtain ⟨b1, b2, b3, b4⟩ := h2
  have dM : ∀ i, i ≤ M.1 → dpF N.2.1 i = dpF M.2.1 i := dpF_ext (fun i hi => (b2 i hi).1)
  have dN : ∀ i, i ≤ N.1 → dpF (eL k 0 N).2.1 i = dpF N.2.1 i := dpF_ext (fun i hi => (eL_in hi).1)
  have n0 : ¬ (eL k 0 N).2.1 N.1 = nI 0 := by rw [(eL_at k 0 N).1]; exact nI_ne (by omega) (by omega) (by omega)
  have n1 : ¬ (eL k 0 N).2.1 N.1 = nI 1 := by rw [(eL_at k 0 N).1]; exact nI_ne (by omega) (by omega) (by omega)
  refine ⟨by show L.1 < N.1 + 1; omega, fun i hi => ?_, ?_, fun i g1 g2 => ?_⟩
  · have e1 := eL_in (k := k) (v := 0) (L := N) (i := i) (by omega)
    have e2 := b2 i (by omega)
    have e3 := a2 i hi
    exact ⟨e1.1.trans (e2.1.trans e3.1), e1.2.trans (e2.2.trans e3.2)⟩
  · show (if (eL k 0 N).2.1 N.1 = nI 0 ∨ (eL k 0 N).2.1 N.1 = nI 1 then _ else dpF (eL k 0 N).2.1 N.1 - 1) = _
    rw [if_neg (fun e => e.elim n0 n1), dN N.1 (Nat.le_refl _), b3, a3]
    omega
  · have g3 : i < N.1 + 1 := g2
    rcases Nat.lt_or_ge i N.1 with q | q
    · have e1 := eL_in (k := k) (v := 0) (L := N) (i := i) q
      rcases Nat.lt_or_ge i M.1 with q2 | q2
      · have e2 := b2 i q2
        obtain ⟨c1, c2⟩ := a4 i g1 q2
        rw [e1.1, e1.2, e2.1, e2.2, dN i (by omega), dM i (by omega)]
        exact ⟨c1, by omega⟩
      · obtain ⟨c1, c2⟩ := b4 i q2 q
        rw [e1.1, e1.2, dN i (by omega)]
        exact ⟨c1, by omega⟩
    · have e : i = N.1 := by omega
      subst e
      rw [dN N.1 (Nat.le_refl _), b3, a3]
      exact ⟨Or.inr (Or.inr ⟨k, hk1, hk2, (eL_at k 0 N).1, by omega⟩), by omega⟩
/-- what a reading part gives: faults within the text, or a longer place and more instructions, no more than bytes -/
def LgO (n a U : Nat) (L : LWt) (r : PR LWt) : Prop := match r with
  | .inl e => (0 < e.1 ∧ e.1 < 10) ∧ e.2 ≤ n
  | .inr x => a < x.1 ∧ x.1 ≤ n ∧ x.2.1 + a ≤ L.1 + x.1 ∧ LwX U L x.2
def GoodU (n U : Nat) (unit : Nat → LWt → PR LWt) : Prop := ∀ a L, a ≤ n → LgO n a U L (unit a L)
theorem LgO.l {n a U : Nat} {L : LWt} {r : PR LWt} (h : LgO n a U L r) {k q : Nat} (e : r = .inl (k, q)) : (0 < k ∧ k < 10) ∧ q ≤ n := by rw [e] at h; exact h
theorem LgO.r {n a U : Nat} {L : LWt} {r : PR LWt} (h : LgO n a U L r) {b : Nat} {M : LWt} (e : r = .inr (b, M)) : a < b ∧ b ≤ n ∧ M.1 + a ≤ L.1 + b ∧ LwX U L M := by rw [e] at h; exact h
/-- the loop from a state that is already one value more than L0 -/
theorem prdL_G {isop : Nat → Bool} {opk : Nat → Nat} {unit : Nat → LWt → PR LWt} {T : Nat → Nat} {n U : Nat} (hU : GoodU n U unit) (hop : ∀ c, 2 ≤ opk c ∧ opk c ≤ 8) : ∀ (j a : Nat) (L0 L : LWt) (a0 V : Nat), max (U + 1) 2 ≤ V → a0 < a → a ≤ n → L.1 + a0 ≤ L0.1 + a → LwX V L0 L → LgO n a0 V L0 (prdL isop opk unit T n j a L)
  | 0, a, L0, L, a0, V, hV, h0, ha, hL, hX => ⟨h0, ha, hL, hX⟩
  | j + 1, a, L0, L, a0, V, hV, h0, ha, hL, hX => by
    have s1 := sk_le (T := T) ha
    have s2 := sk_ge (T := T) ha
    unfold prdL
    by_cases hc : sk T n a < n ∧ isop (T (sk T n a)) = true
    · rw [if_pos hc]
      have hu := hU (sk T n a + 1) L (by omega)
      rcases hr : unit (sk T n a + 1) L with ⟨k, q⟩ | ⟨a1, L1⟩
      · rw [bS_l]; exact hu.l hr
      · rw [bS_r]
        obtain ⟨e1, e2, e3, e4⟩ := hu.r hr
        have ho := hop (T (sk T n a))
        exact prdL_G hU hop j a1 L0 _ a0 V hV (by omega) e2 (by show L1.1 + 1 + a0 ≤ L0.1 + a1; omega) ((hX.join e4 ho.1 ho.2).mono (by omega))
    · rw [if_neg hc]
      exact ⟨by show a0 < sk T n a; omega, s1, by show L.1 + a0 ≤ L0.1 + sk T n a; omega, hX⟩
theorem opP_ok (c : Nat) : 2 ≤ opP c ∧ opP c ≤ 8 := by unfold opP; split; omega; split <;> omega
theorem opA_ok (c : Nat) : 2 ≤ opA c ∧ opA c ≤ 8 := by unfold opA; split <;> omega
theorem prdS_G {unit : Nat → LWt → PR LWt} {T : Nat → Nat} {n U : Nat} (hU : GoodU n U unit) : GoodU n (U + 2) (prdS unit T n) := fun a L ha => by
  have hu := hU a L ha
  unfold prdS
  rcases hr : unit a L with ⟨k, q⟩ | ⟨a1, L1⟩
  · rw [bS_l]; exact hu.l hr
  · rw [bS_r]
    obtain ⟨e1, e2, e3, e4⟩ := hu.r hr
    exact prdL_G hU opP_ok 150 a1 L L1 a (U + 2) (by omega) e1 e2 e3 (e4.mono (by omega))
theorem sumS_G {unit : Nat → LWt → PR LWt} {T : Nat → Nat} {n U : Nat} (hU : GoodU n U unit) : GoodU n (U + 3) (sumS unit T n) := fun a L ha => by
  have hu := prdS_G (T := T) hU a L ha
  unfold sumS
  rcases hr : prdS unit T n a L with ⟨k, q⟩ | ⟨a1, L1⟩
  · rw [bS_l]; exact hu.l hr
  · rw [bS_r]
    obtain ⟨e1, e2, e3, e4⟩ := hu.r hr
    exact prdL_G (prdS_G hU) opA_ok 150 a1 L L1 a (U + 3) (by omega) e1 e2 e3 (e4.mono (by omega))
/-- a pair: two of them in a row -/
def LgP (n a U : Nat) (L : LWt) (r : PR LWt) : Prop := match r with
  | .inl e => (0 < e.1 ∧ e.1 < 10) ∧ e.2 ≤ n
  | .inr x => a < x.1 ∧ x.1 ≤ n ∧ x.2.1 + a + 1 ≤ L.1 + x.1 ∧ ∃ M, LwX U L M ∧ LwX U M x.2
theorem parS_G {S : Nat → LWt → PR LWt} {T : Nat → Nat} {n U : Nat} (hS : GoodU n U S) {a : Nat} (L : LWt) (ha : a ≤ n) : LgP n a U L (parS S T n a L) := by
  unfold parS
  have s1 := sk_ge (T := T) ha
  rcases h1 : sgnS T n 91 a with ⟨k, q⟩ | ⟨a2, u⟩
  · rw [bS_l]; have e := (sgnS_l h1).1; exact ⟨by show 0 < k ∧ k < 10; omega, sgnS_lq ha h1⟩
  · rw [bS_r]
    have e1 := sgnS_r h1
    have hu := hS a2 L (by omega)
    rcases h2 : S a2 L with ⟨k, q⟩ | ⟨a3, L3⟩
    · rw [bS_l]; exact hu.l h2
    · rw [bS_r]
      obtain ⟨f1, f2, f3, f4⟩ := hu.r h2
      have s3 := sk_ge (T := T) f2
      rcases h3 : sgnS T n 44 a3 with ⟨k, q⟩ | ⟨a4, u⟩
      · rw [bS_l]; have e := (sgnS_l h3).1; exact ⟨by show 0 < k ∧ k < 10; omega, sgnS_lq f2 h3⟩
      · rw [bS_r]
        have e3 := sgnS_r h3
        have hv := hS a4 L3 (by omega)
        rcases h4 : S a4 L3 with ⟨k, q⟩ | ⟨a5, L5⟩
        · rw [bS_l]; exact hv.l h4
        · rw [bS_r]
          obtain ⟨g1, g2, g3, g4⟩ := hv.r h4
          have s5 := sk_ge (T := T) g2
          rcases h5 : sgnS T n 93 a5 with ⟨k, q⟩ | ⟨a6, u⟩
          · rw [bS_l]; have e := (sgnS_l h5).1; exact ⟨by show 0 < k ∧ k < 10; omega, sgnS_lq g2 h5⟩
          · rw [bS_r]
            have e5 := sgnS_r h5
            exact ⟨by show a < a6; omega, by show a6 ≤ n; omega, by show L5.1 + a + 1 ≤ L.1 + a6; omega, L3, f4, g4⟩
theorem LgP.l {n a U : Nat} {L : LWt} {r : PR LWt} (h : LgP n a U L r) {k q : Nat} (e : r = .inl (k, q)) : (0 < k ∧ k < 10) ∧ q ≤ n := by rw [e] at h; exact h
theorem LgP.r {n a U : Nat} {L : LWt} {r : PR LWt} (h : LgP n a U L r) {b : Nat} {N : LWt} (e : r = .inr (b, N)) : a < b ∧ b ≤ n ∧ N.1 + a + 1 ≤ L.1 + b ∧ ∃ M, LwX U L M ∧ LwX U M N := by rw [e] at h; exact h
theorem unitF_G {T : Nat → Nat} {n U : Nat} {o : Option (Nat → LWt → PR LWt)} (ho : ∀ S, o = some S → GoodU n (U + 3) S) : GoodU n (U + 4) (unitF o T n) := fun a L ha => by
  have s1 := sk_le (T := T) ha
  have s2 := sk_ge (T := T) ha
  unfold unitF
  by_cases c1 : sk T n a < n ∧ dgB T (sk T n a) = true
  · rw [if_pos c1]
    rcases h1 : figS T n 0 1000 (sk T n a) with ⟨k, q⟩ | ⟨a1, v⟩
    · rw [bS_l]; have e := (figS_l h1).1; exact ⟨by show 0 < k ∧ k < 10; omega, figS_lq s1 h1⟩
    · rw [bS_r]
      have e := figS_r s1 h1
      have s3 := sk_ge (T := T) s1
      exact ⟨by show a < a1; omega, e.2.1, by show L.1 + 1 + a ≤ L.1 + a1; omega, (LwX.leaf0 v L).mono (by omega)⟩
  · rw [if_neg c1]
    by_cases c2 : sk T n a < n ∧ T (sk T n a) = 40
    · rw [if_pos c2]
      rcases o with _ | S
      · exact ⟨by show 0 < 3 ∧ 3 < 10; decide, s1⟩
      · have hS := ho S rfl (sk T n a + 1) L (by omega)
        show LgO n a (U + 4) L (bS (S (sk T n a + 1) L) _)
        rcases h2 : S (sk T n a + 1) L with ⟨k, q⟩ | ⟨a1, L1⟩
        · rw [bS_l]; exact hS.l h2
        · rw [bS_r]
          obtain ⟨f1, f2, f3, f4⟩ := hS.r h2
          have s3 := sk_ge (T := T) f2
          rcases h3 : sgnS T n 41 a1 with ⟨k, q⟩ | ⟨a2, u⟩
          · rw [bS_l]; have e := (sgnS_l h3).1; exact ⟨by show 0 < k ∧ k < 10; omega, sgnS_lq f2 h3⟩
          · rw [bS_r]
            have e3 := sgnS_r h3
            exact ⟨by show a < a2; omega, by show a2 ≤ n; omega, by show L1.1 + a ≤ L.1 + a2; omega, f4.mono (by omega)⟩
    · rw [if_neg c2]
      have s3 := sk_ge (T := T) s1
      rcases h4 : wrdS wLaw T n (sk T n a) with ⟨k, q⟩ | ⟨a1, w⟩
      · rw [bS_l]; have e := (wrdS_l h4).1; exact ⟨by show 0 < k ∧ k < 10; omega, wrdS_lq s1 h4⟩
      · rw [bS_r]
        have e4 := wrdS_lt wLaw_ne s1 h4
        have e5 : w < 9 := e4.2.2
        by_cases c3 : 7 ≤ w
        · rw [if_pos c3]
          rcases o with _ | S
          · exact ⟨by show 0 < 3 ∧ 3 < 10; decide, s1⟩
          · have hP := parS_G (T := T) (ho S rfl) L (show a1 ≤ n by omega)
            show LgO n a (U + 4) L (bS (parS S T n a1 L) _)
            rcases h5 : parS S T n a1 L with ⟨k, q⟩ | ⟨a6, L6⟩
            · rw [bS_l]; exact hP.l h5
            · rw [bS_r]
              obtain ⟨g1, g2, g3, M, g4, g5⟩ := hP.r h5
              exact ⟨by show a < a6; omega, g2, by show L6.1 + 1 + a ≤ L.1 + a6; omega, (g4.join g5 (by omega) (by omega)).mono (by omega)⟩
        · rw [if_neg c3]
          exact ⟨by show a < a1; omega, e4.2.1, by show L.1 + 1 + a ≤ L.1 + a1; omega, (LwX.leaf1 (by omega) L).mono (by omega)⟩
theorem unitK_G (T : Nat → Nat) (n : Nat) : ∀ k, GoodU n (4 * k + 4) (unitK T n k)
  | 0 => unitF_G (U := 0) (fun S h => by cases h)
  | k + 1 => by
    have h := unitF_G (T := T) (n := n) (U := 4 * k + 4) (o := some (sumS (unitK T n k) T n)) (fun S h => by cases h; exact sumS_G (unitK_G T n k))
    intro a L ha
    have h2 := h a L ha
    rw [show 4 * (k + 1) + 4 = 4 * k + 4 + 4 by omega]
    exact h2
theorem lawS_r {T : Nat → Nat} {n a : Nat} {L M : LWt} (hL : L.1 = 0) (h : lawS T n L = .inr (a, M)) : a = n ∧ M.1 ≤ n ∧ LawOK M.2.1 M.2.2 M.1 := by
  have hs := sumS_G (T := T) (unitK_G T n 6) 0 L (Nat.zero_le _)
  unfold lawS at h
  rcases h1 : sumS (unitK T n 6) T n 0 L with ⟨k, q⟩ | ⟨a1, L1⟩
  · rw [h1, bS_l] at h; cases h
  · rw [h1, bS_r] at h
    obtain ⟨f1, f2, f3, f4⟩ := hs.r h1
    split at h
    · cases h
    · cases h
      have hd : dpF L.2.1 L.1 = 0 := by rw [hL]; rfl
      refine ⟨rfl, by omega, fun i hi => ?_, fun _ => by have h9 := f4.2.2.1; omega⟩
      have h9 := f4.2.2.2 i (by omega) hi
      exact ⟨h9.1, by omega⟩
theorem lawS_l {T : Nat → Nat} {n k q : Nat} {L : LWt} (h : lawS T n L = .inl (k, q)) : 0 < k ∧ k < 10 ∧ q ≤ n := by
  have hs := sumS_G (T := T) (unitK_G T n 6) 0 L (Nat.zero_le _)
  unfold lawS at h
  rcases h1 : sumS (unitK T n 6) T n 0 L with ⟨k1, q1⟩ | ⟨a1, L1⟩
  · rw [h1, bS_l] at h; cases h; have h9 := hs.l h1; exact ⟨h9.1.1, h9.1.2, h9.2⟩
  · rw [h1, bS_r] at h
    obtain ⟨f1, f2, f3, f4⟩ := hs.r h1
    split at h
    · cases h; exact ⟨by decide, by decide, sk_le f2⟩
    · cases h
theorem prdL_e {isop : Nat → Bool} {opk : Nat → Nat} {unit : Nat → LWt → PR LWt} {T : Nat → Nat} {n j a : Nat} {L : LWt} (h : ¬ (sk T n a < n ∧ isop (T (sk T n a)) = true)) : prdL isop opk unit T n (j + 1) a L = .inr (sk T n a, L) := if_neg h
theorem prdL_i {isop : Nat → Bool} {opk : Nat → Nat} {unit : Nat → LWt → PR LWt} {T : Nat → Nat} {n j a : Nat} {L : LWt} (h1 : sk T n a < n) (h2 : isop (T (sk T n a)) = true) : prdL isop opk unit T n (j + 1) a L = bS (unit (sk T n a + 1) L) (fun a1 L1 => prdL isop opk unit T n j a1 (eL (opk (T (sk T n a))) 0 L1)) := if_pos ⟨h1, h2⟩
theorem isP_t {c : Nat} : isP c = true ↔ c = 42 ∨ c = 47 ∨ c = 37 := by unfold isP; rw [Bool.or_eq_true, Bool.or_eq_true, beq_iff_eq, beq_iff_eq, beq_iff_eq, or_assoc]
theorem isA_t {c : Nat} : isA c = true ↔ c = 43 ∨ c = 45 := by unfold isA; rw [Bool.or_eq_true, beq_iff_eq, beq_iff_eq]
theorem sgn_here {T : Nat → Nat} {n a : Nat} (ha : a ≤ n) (h : sk T n a < n) : sgnS T n (T (sk T n a)) (sk T n a) = .inr (sk T n a + 1, ()) := by unfold sgnS; rw [sk_id ha, if_pos ⟨h, rfl⟩]
/-! the class: the law b, as read so far -/
def lwS (h : PH) (b : Nat) (L : LWt) : PH := hp_sF (hp_sI (hp_sI h (b + 1) L.2.1) (b + 2) L.2.2) b 4 (.int (nI L.1))
def LwK (h : PH) (b : Nat) : Prop := hp_K h b = (3, 5) ∧ hp_K h (b + 1) = (20, 150) ∧ hp_K h (b + 2) = (20, 150) ∧ hp_F h b 0 = .ref (b + 1) ∧ hp_F h b 1 = .ref (b + 2) ∧ 2 < b
theorem lwS_F (h : PH) (b : Nat) (L : LWt) (x j : Nat) : hp_F (lwS h b L) x j = if x = b ∧ j = 4 then .int (nI L.1) else hp_F h x j := rfl
theorem lwS_j {h : PH} {b : Nat} {L : LWt} {j : Nat} {v : Value} (hj : j ≠ 4) (e : hp_F h b j = v) : hp_F (lwS h b L) b j = v := by rw [lwS_F, if_neg (by omega)]; exact e
theorem lwS_4 (h : PH) (b : Nat) (L : LWt) : hp_F (lwS h b L) b 4 = .int (nI L.1) := by rw [lwS_F, if_pos ⟨rfl, rfl⟩]
theorem lwS_I (h : PH) (b : Nat) (L : LWt) (x : Nat) : hp_I (lwS h b L) x = if x = b + 2 then L.2.2 else if x = b + 1 then L.2.1 else hp_I h x := rfl
theorem lwS_1 (h : PH) (b : Nat) (L : LWt) : hp_I (lwS h b L) (b + 1) = L.2.1 := by rw [lwS_I, if_neg (by omega), if_pos rfl]
theorem lwS_2 (h : PH) (b : Nat) (L : LWt) : hp_I (lwS h b L) (b + 2) = L.2.2 := by rw [lwS_I, if_pos rfl]
theorem lwS_o {h : PH} {b : Nat} {L : LWt} {x j : Nat} {v : Value} (hx : x ≠ b) (e : hp_F h x j = v) : hp_F (lwS h b L) x j = v := by rw [lwS_F, if_neg (by omega)]; exact e
theorem RdK.lw {h : PH} {tf : Nat → Int32} (hR : RdK h tf) {b : Nat} (hb : 2 < b) (L : LWt) : RdK (lwS h b L) tf :=
  ⟨hR.1, hR.2.1, lwS_o (by omega) hR.2.2.1, by rw [lwS_I, if_neg (by omega), if_neg (by omega)]; exact hR.2.2.2⟩
theorem lw_s1 (h : PH) (b : Nat) (L : LWt) (n a k : Nat) (pl : Int32) (g : Nat → Int32) : hp_sI (rdS (lwS h b L) n a k pl) (b + 1) g = rdS (lwS h b (L.1, g, L.2.2)) n a k pl := by
  refine hp_ext rfl (fun _ => rfl) (fun _ _ => rfl) (fun x => ?_) (fun _ => rfl)
  show (if x = b + 1 then g else hp_I (lwS h b L) x) = hp_I (lwS h b (L.1, g, L.2.2)) x
  rw [lwS_I, lwS_I]
  by_cases e : x = b + 1
  · rw [if_pos e, if_neg (by omega), if_pos e]
  · rw [if_neg e, if_neg e, if_neg e]
theorem lw_s2 (h : PH) (b : Nat) (L : LWt) (n a k : Nat) (pl : Int32) (g : Nat → Int32) : hp_sI (rdS (lwS h b L) n a k pl) (b + 2) g = rdS (lwS h b (L.1, L.2.1, g)) n a k pl := by
  refine hp_ext rfl (fun _ => rfl) (fun _ _ => rfl) (fun x => ?_) (fun _ => rfl)
  show (if x = b + 2 then g else hp_I (lwS h b L) x) = hp_I (lwS h b (L.1, L.2.1, g)) x
  rw [lwS_I, lwS_I]
  by_cases e : x = b + 2
  · rw [if_pos e, if_pos e]
  · rw [if_neg e, if_neg e, if_neg e]
theorem lw_s4 {h : PH} {b : Nat} {L : LWt} {n a k : Nat} {pl : Int32} (hb : 2 < b) (v : Nat) : hp_sF (rdS (lwS h b L) n a k pl) b 4 (.int (nI v)) = rdS (lwS h b (v, L.2.1, L.2.2)) n a k pl := by
  refine hp_ext rfl (fun _ => rfl) (fun x j => ?_) (fun _ => rfl) (fun _ => rfl)
  show (if x = b ∧ j = 4 then _ else hp_F (rdS (lwS h b L) n a k pl) x j) = _
  rw [rdS_F, rdS_F, lwS_F, lwS_F]
  by_cases e : x = b ∧ j = 4
  · rw [if_pos e, if_neg (by omega), if_neg (by omega), if_neg (by omega), if_neg (by omega), if_pos e]
  · rw [if_neg e, if_neg e, if_neg e]
/-- how reading a part of the law ends -/
def LwO (h : PH) (b n : Nat) (r : PR LWt) (h9 : PH) : Prop := match r with
  | .inl e => ∃ L : LWt, L.1 ≤ 150 ∧ h9 = rdS (lwS h b L) n n e.1 (nI e.2)
  | .inr x => h9 = rdS (lwS h b x.2) n x.1 0 (-1)
