/-! ===== a work's text ===== -/
abbrev AF : Type := Nat × (Nat → Int32) × (Nat → Int32) × (Nat → Int32) × (Nat → Int32)
def aA (k a b c : Nat) (W : AF) : AF := (W.1 + 1, upd W.2.1 W.1 (nI k), upd W.2.2.1 W.1 (nI a), upd W.2.2.2.1 W.1 (nI b), upd W.2.2.2.2 W.1 (nI c))
def aE (p : Nat) (W : AF) : AF := (W.1, W.2.1, W.2.2.1, upd W.2.2.2.1 p (nI W.1), W.2.2.2.2)
/-- what stands behind 'again' -/
def agS (inner : Option (Nat → AF → PR AF)) (T : Nat → Nat) (n a1 st : Nat) (W : AF) : PR AF := match inner with
  | none => .inl (3, st)
  | some S => bS (figS T n 0 61 a1) (fun a2 t => bS (sgnS T n 91 a2) (fun a3 _ => bS (S a3 (aA 4 t 0 0 W)) (fun a4 W4 => bS (sgnS T n 93 a4) (fun a5 _ => .inr (a5, aE W.1 W4)))))
theorem agS_s (S : Nat → AF → PR AF) (T : Nat → Nat) (n a1 st : Nat) (W : AF) : agS (some S) T n a1 st W = bS (figS T n 0 61 a1) (fun a2 t => bS (sgnS T n 91 a2) (fun a3 _ => bS (S a3 (aA 4 t 0 0 W)) (fun a4 W4 => bS (sgnS T n 93 a4) (fun a5 _ => .inr (a5, aE W.1 W4))))) := rfl
/-- a step, but its sign -/
def stS (np : Nat) (inner : Option (Nat → AF → PR AF)) (T : Nat → Nat) (n a : Nat) (W : AF) : PR AF :=
  bS (wrdS wWork T n a) (fun a1 w =>
    if w = 0 then bS (figS T n 0 np a1) (fun a2 p => bS (figS T n 0 61 a2) (fun a3 q => bS (figS T n 0 3 a3) (fun a4 y => .inr (a4, aA 0 p q y W))))
    else if w = 1 then bS (figS T n 0 61 a1) (fun a2 q => bS (figS T n 0 np a2) (fun a3 p => bS (figS T n 0 1000 a3) (fun a4 c => .inr (a4, aA 1 q p c W))))
    else if w = 2 then bS (figS T n 0 61 a1) (fun a2 q => bS (figS T n 0 41 a2) (fun a3 r => .inr (a3, aA 2 q r 0 W)))
    else if w = 3 then .inr (a1, aA 3 0 0 0 W)
    else agS inner T n a1 (sk T n a) W)
def spS (np : Nat) (inner : Option (Nat → AF → PR AF)) (T : Nat → Nat) (n a : Nat) (W : AF) : PR AF := bS (stS np inner T n a W) (fun a1 W1 => bS (sgnS T n 59 a1) (fun a2 _ => .inr (a2, W1)))
/-- as many steps as stand here -/
def slS (step : Nat → AF → PR AF) (T : Nat → Nat) (n : Nat) : Nat → Nat → AF → PR AF
  | 0, a, W => .inr (a, W)
  | j + 1, a, W => if sk T n a < n ∧ ¬ T (sk T n a) = 93 then bS (step (sk T n a) W) (fun a1 W1 => slS step T n j a1 W1) else .inr (sk T n a, W)
def inK (np : Nat) (T : Nat → Nat) (n : Nat) : Nat → Option (Nat → AF → PR AF)
  | 0 => none
  | k + 1 => some (slS (spS np (inK np T n k) T n) T n 38)
/-- steps at level k: k more may be opened -/
def stK (np : Nat) (T : Nat → Nat) (n k : Nat) : Nat → AF → PR AF := slS (spS np (inK np T n k) T n) T n 38
theorem inK_s (np : Nat) (T : Nat → Nat) (n k : Nat) : inK np T n (k + 1) = some (stK np T n k) := rfl
def wkS (np : Nat) (T : Nat → Nat) (n : Nat) (W : AF) : PR AF := bS (stK np T n 6 0 W) (fun a W1 => if sk T n a < n then .inl (1, sk T n a) else .inr (n, W1))
theorem wWork_ne : ∀ w ∈ wWork, w ≠ [] := by decide
/-- a step's entries are as they may be -/
def goE (np : Nat) (W : AF) (i : Nat) : Prop :=
  (W.2.1 i = nI 0 ∧ ∃ p q y, p < np ∧ q ≤ 60 ∧ y ≤ 2 ∧ W.2.2.1 i = nI p ∧ W.2.2.2.1 i = nI q ∧ W.2.2.2.2 i = nI y) ∨
  (W.2.1 i = nI 1 ∧ ∃ q p c, q ≤ 60 ∧ p < np ∧ c ≤ 999 ∧ W.2.2.1 i = nI q ∧ W.2.2.2.1 i = nI p ∧ W.2.2.2.2 i = nI c) ∨
  (W.2.1 i = nI 2 ∧ ∃ q r, q ≤ 60 ∧ r ≤ 40 ∧ W.2.2.1 i = nI q ∧ W.2.2.2.1 i = nI r ∧ W.2.2.2.2 i = nI 0) ∨ (W.2.1 i = nI 3 ∧ W.2.2.1 i = nI 0 ∧ W.2.2.2.1 i = nI 0 ∧ W.2.2.2.2 i = nI 0)
def agE (W : AF) (i b e : Nat) : Prop := W.2.1 i = nI 4 ∧ (∃ t, t ≤ 60 ∧ W.2.2.1 i = nI t) ∧ W.2.2.2.1 i = nI e ∧ W.2.2.2.2 i = nI 0 ∧ i < e ∧ e ≤ b
def WfJ (np : Nat) (W : AF) (inn : Nat → Nat → Prop) : Nat → Nat → Nat → Prop
  | 0, a, b => a = b
  | j + 1, a, b => a = b ∨ (a < b ∧ ((goE np W a ∧ WfJ np W inn j (a + 1) b) ∨ ∃ e, agE W a b e ∧ inn (a + 1) e ∧ WfJ np W inn j e b))
def WfI (np : Nat) (W : AF) : Nat → Nat → Nat → Prop
  | 0 => fun _ _ => False
  | k + 1 => WfJ np W (WfI np W k) 38
def WfK (np : Nat) (W : AF) (k : Nat) : Nat → Nat → Prop := WfJ np W (WfI np W k) 38
/-- the same entries from a up to b -/
def eqA (W V : AF) (a b : Nat) : Prop := ∀ i, a ≤ i → i < b → V.2.1 i = W.2.1 i ∧ V.2.2.1 i = W.2.2.1 i ∧ V.2.2.2.1 i = W.2.2.2.1 i ∧ V.2.2.2.2 i = W.2.2.2.2 i
theorem eqA.tr {W V X : AF} {a b : Nat} (h1 : eqA W V a b) (h2 : eqA V X a b) : eqA W X a b := fun i p q => by
  obtain ⟨a1, a2, a3, a4⟩ := h1 i p q
  obtain ⟨b1, b2, b3, b4⟩ := h2 i p q
  exact ⟨b1.trans a1, b2.trans a2, b3.trans a3, b4.trans a4⟩
theorem eqA.sub {W V : AF} {a b c d : Nat} (h : eqA W V a b) (h1 : a ≤ c) (h2 : d ≤ b) : eqA W V c d := fun i p q => h i (by omega) (by omega)
theorem goE.ext {np : Nat} {W V : AF} {a b i : Nat} (h : goE np W i) (he : eqA W V a b) (h1 : a ≤ i) (h2 : i < b) : goE np V i := by
  obtain ⟨a1, a2, a3, a4⟩ := he i h1 h2
  unfold goE
  rw [a1, a2, a3, a4]; exact h
theorem agE.ext {W V : AF} {a b i c e : Nat} (h : agE W i c e) (he : eqA W V a b) (h1 : a ≤ i) (h2 : i < b) : agE V i c e := by
  obtain ⟨a1, a2, a3, a4⟩ := he i h1 h2
  unfold agE
  rw [a1, a2, a3, a4]; exact h
theorem WfJ_le {np : Nat} {W : AF} {inn : Nat → Nat → Prop} : ∀ j a b, WfJ np W inn j a b → a ≤ b
  | 0, a, b, h => Nat.le_of_eq h
  | j + 1, a, b, h => by
    rcases h with h | ⟨h, -⟩
    · exact Nat.le_of_eq h
    · exact Nat.le_of_lt h
theorem WfJ_ext {np : Nat} {W V : AF} {inn inn2 : Nat → Nat → Prop} : ∀ j a b, eqA W V a b → (∀ c e, a < c → e ≤ b → inn c e → inn2 c e) → WfJ np W inn j a b → WfJ np V inn2 j a b
  | 0, _, _, _, _, h => h
  | j + 1, a, b, he, hi, h => by
    rcases h with h | ⟨h, ⟨h1, h2⟩ | ⟨e, h1, h2, h3⟩⟩
    · exact Or.inl h
    · exact Or.inr ⟨h, Or.inl ⟨h1.ext he (Nat.le_refl _) h, WfJ_ext j (a + 1) b (he.sub (by omega) (Nat.le_refl _)) (fun c e q1 q2 => hi c e (by omega) q2) h2⟩⟩
    · have h4 := h1.2.2.2.2
      exact Or.inr ⟨h, Or.inr ⟨e, h1.ext he (Nat.le_refl _) h, hi _ _ (by omega) (by omega) h2, WfJ_ext j e b (he.sub (by omega) (Nat.le_refl _)) (fun c e q1 q2 => hi c e (by omega) q2) h3⟩⟩
theorem WfI_ext {np : Nat} {W V : AF} : ∀ k a b, eqA W V a b → WfI np W k a b → WfI np V k a b
  | 0, _, _, _, h => h
  | k + 1, a, b, he, h => WfJ_ext 38 a b he (fun c e h1 h2 h3 => WfI_ext k c e (he.sub (by omega) h2) h3) h
/-- one step, read at level k: from W to V -/
def UnK (np k : Nat) (W V : AF) : Prop := W.1 < V.1 ∧ eqA W V 0 W.1 ∧ ((goE np V W.1 ∧ V.1 = W.1 + 1) ∨ (agE V W.1 V.1 V.1 ∧ WfI np V k (W.1 + 1) V.1))
/-- steps, read at level k with fuel j -/
def SlK (np k j : Nat) (W V : AF) : Prop := eqA W V 0 W.1 ∧ WfJ np V (WfI np V k) j W.1 V.1
theorem SlK.nil (np k j : Nat) (W : AF) : SlK np k j W W := ⟨fun _ _ _ => ⟨rfl, rfl, rfl, rfl⟩, by cases j with
  | zero => rfl
  | succ j => exact Or.inl rfl⟩
theorem SlK.cons {np k j : Nat} {W V X : AF} (h1 : UnK np k W V) (h2 : SlK np k j V X) : SlK np k (j + 1) W X := by
  obtain ⟨a1, a2, a3⟩ := h1
  obtain ⟨b1, b2⟩ := h2
  have h3 := WfJ_le _ _ _ b2
  refine ⟨a2.tr (b1.sub (Nat.le_refl _) (by omega)), Or.inr ⟨by omega, ?_⟩⟩
  rcases a3 with ⟨g1, g2⟩ | ⟨g1, g2⟩
  · exact Or.inl ⟨g1.ext b1 (Nat.zero_le _) a1, by rw [← g2]; exact b2⟩
  · refine Or.inr ⟨V.1, ?_, WfI_ext k _ _ (b1.sub (Nat.zero_le _) (Nat.le_refl _)) g2, b2⟩
    have g3 := g1.ext b1 (Nat.zero_le _) a1
    exact ⟨g3.1, g3.2.1, g3.2.2.1, g3.2.2.2.1, a1, h3⟩
theorem aA_in {k a b c : Nat} {W : AF} : eqA W (aA k a b c W) 0 W.1 := fun i _ h => ⟨pk_un (by omega), pk_un (by omega), pk_un (by omega), pk_un (by omega)⟩
theorem aA_at (k a b c : Nat) (W : AF) : (aA k a b c W).2.1 W.1 = nI k ∧ (aA k a b c W).2.2.1 W.1 = nI a ∧ (aA k a b c W).2.2.2.1 W.1 = nI b ∧ (aA k a b c W).2.2.2.2 W.1 = nI c := ⟨pk_us, pk_us, pk_us, pk_us⟩
theorem UnK.use {np k p q y : Nat} {W : AF} (h1 : p < np) (h2 : q < 61) (h3 : y < 3) : UnK np k W (aA 0 p q y W) := by
  have e := aA_at 0 p q y W
  exact ⟨Nat.lt_succ_self _, aA_in, Or.inl ⟨Or.inl ⟨e.1, p, q, y, h1, by omega, by omega, e.2⟩, rfl⟩⟩
theorem UnK.sell {np k p q c : Nat} {W : AF} (h1 : q < 61) (h2 : p < np) (h3 : c < 1000) : UnK np k W (aA 1 q p c W) := by
  have e := aA_at 1 q p c W
  exact ⟨Nat.lt_succ_self _, aA_in, Or.inl ⟨Or.inr (Or.inl ⟨e.1, q, p, c, by omega, h2, by omega, e.2⟩), rfl⟩⟩
theorem UnK.rent {np k q r : Nat} {W : AF} (h1 : q < 61) (h2 : r < 41) : UnK np k W (aA 2 q r 0 W) := by
  have e := aA_at 2 q r 0 W
  exact ⟨Nat.lt_succ_self _, aA_in, Or.inl ⟨Or.inr (Or.inr (Or.inl ⟨e.1, q, r, by omega, by omega, e.2⟩)), rfl⟩⟩
theorem UnK.day {np k : Nat} {W : AF} : UnK np k W (aA 3 0 0 0 W) := by
  have e := aA_at 3 0 0 0 W
  exact ⟨Nat.lt_succ_self _, aA_in, Or.inl ⟨Or.inr (Or.inr (Or.inr e)), rfl⟩⟩
theorem aE_o {p : Nat} {W : AF} {a b : Nat} (h : p < a) : eqA W (aE p W) a b := fun i h1 _ => ⟨rfl, rfl, pk_un (by omega), rfl⟩
theorem UnK.again {np k t : Nat} {W V : AF} (h1 : t < 61) (h2 : SlK np k 38 (aA 4 t 0 0 W) V) : UnK np (k + 1) W (aE W.1 V) := by
  obtain ⟨a1, a2⟩ := h2
  have h3 : W.1 + 1 ≤ V.1 := WfJ_le _ _ _ a2
  have e := aA_at 4 t 0 0 W
  have g := a1 W.1 (Nat.zero_le _) (Nat.lt_succ_self _)
  refine ⟨by show W.1 < V.1; omega, fun i q1 q2 => ?_, Or.inr ⟨⟨g.1.trans e.1, ⟨t, by omega, g.2.1.trans e.2.1⟩, pk_us, g.2.2.2.trans e.2.2.2, by show W.1 < V.1; omega, Nat.le_refl _⟩, ?_⟩⟩
  · have g1 := a1 i q1 (by show i < W.1 + 1; omega)
    have g2 := aA_in (k := 4) (a := t) (b := 0) (c := 0) (W := W) i q1 q2
    exact ⟨g1.1.trans g2.1, g1.2.1.trans g2.2.1, (pk_un (by omega)).trans (g1.2.2.1.trans g2.2.2.1), g1.2.2.2.trans g2.2.2.2⟩
  · have he : eqA V (aE W.1 V) (W.1 + 1) V.1 := aE_o (by omega)
    exact WfJ_ext 38 _ _ he (fun c e' q1 q2 q3 => WfI_ext k c e' (he.sub (by omega) q2) q3) a2
/-- what comes of reading: a fault, or a place further on and good steps -/
def AgO (n a : Nat) (G : AF → Prop) (W : AF) (r : PR AF) : Prop := match r with
  | .inl (k, q) => (k = 1 ∨ k = 2 ∨ k = 3) ∧ q ≤ n
  | .inr (b, V) => a ≤ b ∧ b ≤ n ∧ 4 * V.1 + a ≤ b + 4 * W.1 ∧ G V
theorem AgO.l {n a k q : Nat} {G : AF → Prop} {W : AF} {r : PR AF} (h : AgO n a G W r) (e : r = .inl (k, q)) : (k = 1 ∨ k = 2 ∨ k = 3) ∧ q ≤ n := by rw [e] at h; exact h
theorem AgO.r {n a b : Nat} {G : AF → Prop} {W V : AF} {r : PR AF} (h : AgO n a G W r) (e : r = .inr (b, V)) : a ≤ b ∧ b ≤ n ∧ 4 * V.1 + a ≤ b + 4 * W.1 ∧ G V := by rw [e] at h; exact h
theorem wWork_3 {T : Nat → Nat} {n a b k : Nat} (ha : a ≤ n) (h : wrdS wWork T n a = .inr (b, k)) : sk T n a + 3 ≤ b ∧ (k = 4 → sk T n a + 5 ≤ b) := by
  obtain ⟨h1, h2⟩ := wrdS_r h
  obtain ⟨h3, h4, w, h5, h6⟩ := fdW_k wWork 0 k h2
  have h7 := eqW_le h6
  have h8 : k < 5 := h4
  rw [Nat.sub_zero] at h5
  rcases (show k = 0 ∨ k = 1 ∨ k = 2 ∨ k = 3 ∨ k = 4 by omega) with rfl | rfl | rfl | rfl | rfl <;> cases (Option.some.inj h5) <;> simp only [List.length_cons, List.length_nil] at h7 <;> omega
/-- a step without its sign: at least three bytes; with two bytes to spare where steps are held -/
def StO (np k n a : Nat) (W : AF) (r : PR AF) : Prop := match r with
  | .inl (k, q) => (k = 1 ∨ k = 2 ∨ k = 3) ∧ q ≤ n
  | .inr (b, V) => a + 3 ≤ b ∧ b ≤ n ∧ 4 * V.1 + a ≤ b + 1 + 4 * W.1 ∧ UnK np k W V
theorem StO.l {np k0 n a k q : Nat} {W : AF} {r : PR AF} (h : StO np k0 n a W r) (e : r = .inl (k, q)) : (k = 1 ∨ k = 2 ∨ k = 3) ∧ q ≤ n := by rw [e] at h; exact h
theorem StO.r {np k n a b : Nat} {W V : AF} {r : PR AF} (h : StO np k n a W r) (e : r = .inr (b, V)) : a + 3 ≤ b ∧ b ≤ n ∧ 4 * V.1 + a ≤ b + 1 + 4 * W.1 ∧ UnK np k W V := by rw [e] at h; exact h
theorem sk_a {T : Nat → Nat} {n a : Nat} (ha : a ≤ n) : a ≤ sk T n a ∧ sk T n a ≤ n := ⟨sk_ge ha, sk_le ha⟩
theorem figO {T : Nat → Nat} {n lo hx a : Nat} (ha : a ≤ n) {r : PR Nat} (h : figS T n lo hx a = r) : (∃ k q, r = .inl (k, q) ∧ (k = 1 ∨ k = 2) ∧ q ≤ n) ∨ ∃ b v, r = .inr (b, v) ∧ a < b ∧ b ≤ n ∧ lo ≤ v ∧ v < hx := by
  rcases r with ⟨k, q⟩ | ⟨b, v⟩
  · exact Or.inl ⟨k, q, rfl, (figS_l h).1, figS_lq ha h⟩
  · have h1 := figS_r ha h
    have h2 := sk_ge (T := T) ha
    exact Or.inr ⟨b, v, rfl, by omega, h1.2⟩
theorem sgnO {T : Nat → Nat} {n c a : Nat} (ha : a ≤ n) {r : PR Unit} (h : sgnS T n c a = r) : (∃ k q, r = .inl (k, q) ∧ k = 1 ∧ q ≤ n) ∨ ∃ b u, r = .inr (b, u) ∧ a < b ∧ b ≤ n := by
  rcases r with ⟨k, q⟩ | ⟨b, u⟩
  · exact Or.inl ⟨k, q, rfl, (sgnS_l h).1, sgnS_lq ha h⟩
  · have h1 := sgnS_r h
    have h2 := sk_ge (T := T) ha
    exact Or.inr ⟨b, u, rfl, by omega, by omega⟩
/-- steps at level k are read well -/
def GoodS (np k n : Nat) (S : Nat → AF → PR AF) : Prop := ∀ a W, a ≤ n → AgO n a (SlK np k 38 W) W (S a W)
theorem stS_O {np k n : Nat} {inner : Option (Nat → AF → PR AF)} {T : Nat → Nat} (hI : ∀ S, inner = some S → ∃ k', k = k' + 1 ∧ GoodS np k' n S) {a : Nat} {W : AF} (ha : a ≤ n) : StO np k n a W (stS np inner T n a W) := by
  have hs := sk_a (T := T) ha
  unfold stS
  rcases hw : wrdS wWork T n a with ⟨k0, q0⟩ | ⟨a1, w⟩
  · rw [bS_l]; exact ⟨Or.inl (wrdS_l hw).1, wrdS_lq ha hw⟩
  · rw [bS_r]
    have h1 := wrdS_lt wWork_ne ha hw
    have h3 := wWork_3 ha hw
    split
    · rcases figO (by omega) (rfl : figS T n 0 np a1 = _) with ⟨k1, q1, e1, f1⟩ | ⟨a2, p, e1, f1⟩
      · rw [e1, bS_l]; exact ⟨by omega, f1.2⟩
      rw [e1, bS_r]
      rcases figO (by omega) (rfl : figS T n 0 61 a2 = _) with ⟨k1, q1, e2, f2⟩ | ⟨a3, q, e2, f2⟩
      · rw [e2, bS_l]; exact ⟨by omega, f2.2⟩
      rw [e2, bS_r]
      rcases figO (by omega) (rfl : figS T n 0 3 a3 = _) with ⟨k1, q1, e3, f3⟩ | ⟨a4, y, e3, f3⟩
      · rw [e3, bS_l]; exact ⟨by omega, f3.2⟩
      rw [e3, bS_r]
      exact ⟨by omega, by omega, by show 4 * (W.1 + 1) + a ≤ _; omega, UnK.use f1.2.2.2 f2.2.2.2 f3.2.2.2⟩
    split
    · rcases figO (by omega) (rfl : figS T n 0 61 a1 = _) with ⟨k1, q1, e1, f1⟩ | ⟨a2, q, e1, f1⟩
      · rw [e1, bS_l]; exact ⟨by omega, f1.2⟩
      rw [e1, bS_r]
      rcases figO (by omega) (rfl : figS T n 0 np a2 = _) with ⟨k1, q1, e2, f2⟩ | ⟨a3, p, e2, f2⟩
      · rw [e2, bS_l]; exact ⟨by omega, f2.2⟩
      rw [e2, bS_r]
      rcases figO (by omega) (rfl : figS T n 0 1000 a3 = _) with ⟨k1, q1, e3, f3⟩ | ⟨a4, y, e3, f3⟩
      · rw [e3, bS_l]; exact ⟨by omega, f3.2⟩
      rw [e3, bS_r]
      exact ⟨by omega, by omega, by show 4 * (W.1 + 1) + a ≤ _; omega, UnK.sell f1.2.2.2 f2.2.2.2 f3.2.2.2⟩
    split
    · rcases figO (by omega) (rfl : figS T n 0 61 a1 = _) with ⟨k1, q1, e1, f1⟩ | ⟨a2, q, e1, f1⟩
      · rw [e1, bS_l]; exact ⟨by omega, f1.2⟩
      rw [e1, bS_r]
      rcases figO (by omega) (rfl : figS T n 0 41 a2 = _) with ⟨k1, q1, e2, f2⟩ | ⟨a3, r, e2, f2⟩
      · rw [e2, bS_l]; exact ⟨by omega, f2.2⟩
      rw [e2, bS_r]
      exact ⟨by omega, by omega, by show 4 * (W.1 + 1) + a ≤ _; omega, UnK.rent f1.2.2.2 f2.2.2.2⟩
    split
    · exact ⟨by omega, h1.2.1, by show 4 * (W.1 + 1) + a ≤ _; omega, UnK.day⟩
    · rename_i c0 c1 c2 c3
      have hw4 : w = 4 := by have h9 := h1.2.2; simp only [wWork, List.length_cons, List.length_nil] at h9; omega
      cases inner with
      | none => exact ⟨by omega, hs.2⟩
      | some S =>
        obtain ⟨k', ek, hG⟩ := hI S rfl
        rw [agS_s]
        rcases figO (by omega) (rfl : figS T n 0 61 a1 = _) with ⟨k1, q1, e1, f1⟩ | ⟨a2, t, e1, f1⟩
        · rw [e1, bS_l]; exact ⟨by omega, f1.2⟩
        rw [e1, bS_r]
        rcases sgnO (by omega) (rfl : sgnS T n 91 a2 = _) with ⟨k1, q1, e2, f2⟩ | ⟨a3, u, e2, f2⟩
        · rw [e2, bS_l]; exact ⟨by omega, f2.2⟩
        rw [e2, bS_r]
        have g := hG a3 (aA 4 t 0 0 W) (by omega)
        rcases hS : S a3 (aA 4 t 0 0 W) with ⟨k1, q1⟩ | ⟨a4, W4⟩
        · rw [bS_l]; exact g.l hS
        rw [bS_r]
        have g4 := g.r hS
        have hA1 : (aA 4 t 0 0 W).1 = W.1 + 1 := rfl
        rcases sgnO (by omega) (rfl : sgnS T n 93 a4 = _) with ⟨k1, q1, e3, f3⟩ | ⟨a5, u5, e3, f3⟩
        · rw [e3, bS_l]; exact ⟨by omega, f3.2⟩
        rw [e3, bS_r]
        have h5 := h3.2 hw4
        refine ⟨by omega, by omega, by show 4 * W4.1 + a ≤ _; omega, ?_⟩
        rw [ek]
        exact UnK.again f1.2.2.2 g4.2.2.2
theorem spS_O {np k n : Nat} {inner : Option (Nat → AF → PR AF)} {T : Nat → Nat} (hI : ∀ S, inner = some S → ∃ k', k = k' + 1 ∧ GoodS np k' n S) {a : Nat} {W : AF} (ha : a ≤ n) : (∀ k9 q9, spS np inner T n a W = .inl (k9, q9) → (k9 = 1 ∨ k9 = 2 ∨ k9 = 3) ∧ q9 ≤ n) ∧ ∀ b V, spS np inner T n a W = .inr (b, V) → a + 4 ≤ b ∧ b ≤ n ∧ 4 * V.1 + a ≤ b + 4 * W.1 ∧ UnK np k W V := by
  have h := stS_O (T := T) hI (W := W) ha
  unfold spS
  rcases hs : stS np inner T n a W with ⟨k0, q0⟩ | ⟨a1, V1⟩
  · rw [bS_l]; exact ⟨fun k9 q9 e => by cases e; exact h.l hs, fun b V e => by cases e⟩
  · rw [bS_r]
    have g := h.r hs
    rcases sgnO (by omega) (rfl : sgnS T n 59 a1 = _) with ⟨k1, q1, e3, f3⟩ | ⟨a5, u5, e3, f3⟩
    · rw [e3, bS_l]; exact ⟨fun k9 q9 e => by cases e; exact ⟨by omega, f3.2⟩, fun b V e => by cases e⟩
    · rw [e3, bS_r]; exact ⟨fun k9 q9 e => (by cases e), fun b V e => by cases e; exact ⟨by omega, by omega, by omega, g.2.2.2⟩⟩
theorem slS_O {np k n : Nat} {inner : Option (Nat → AF → PR AF)} {T : Nat → Nat} (hI : ∀ S, inner = some S → ∃ k', k = k' + 1 ∧ GoodS np k' n S) : ∀ j a W, a ≤ n → AgO n a (SlK np k j W) W (slS (spS np inner T n) T n j a W)
  | 0, a, W, ha => ⟨Nat.le_refl _, ha, Nat.le_of_eq (Nat.add_comm _ _), SlK.nil _ _ _ _⟩
  | j + 1, a, W, ha => by
    have hs := sk_a (T := T) ha
    show AgO n a _ W (if _ then _ else _)
    split
    · have h := spS_O (T := T) hI (W := W) hs.2
      rcases hp : spS np inner T n (sk T n a) W with ⟨k0, q0⟩ | ⟨a1, V1⟩
      · rw [bS_l]; exact h.1 _ _ hp
      · rw [bS_r]
        have g := h.2 _ _ hp
        have g2 := slS_O (T := T) hI j a1 V1 g.2.1
        rcases hq : slS (spS np inner T n) T n j a1 V1 with ⟨k0, q0⟩ | ⟨a2, V2⟩
        · exact g2.l hq
        · have g3 := g2.r hq
          exact ⟨by omega, g3.2.1, by omega, SlK.cons g.2.2.2 g3.2.2.2⟩
    · exact ⟨hs.1, hs.2, by omega, SlK.nil _ _ _ _⟩
theorem inK_G (np : Nat) (T : Nat → Nat) (n : Nat) : ∀ k S, inK np T n k = some S → ∃ k', k = k' + 1 ∧ GoodS np k' n S
  | 0, S, h => by cases h
  | k + 1, S, h => by
    cases h
    exact ⟨k, rfl, fun a W ha => slS_O (inK_G np T n k) 38 a W ha⟩
theorem stK_G (np : Nat) (T : Nat → Nat) (n k : Nat) : GoodS np k n (stK np T n k) := fun a W ha => slS_O (inK_G np T n k) 38 a W ha
theorem wkS_O {np n : Nat} {T : Nat → Nat} {W : AF} (h0 : W.1 = 0) : (∀ k q, wkS np T n W = .inl (k, q) → (k = 1 ∨ k = 2 ∨ k = 3) ∧ q ≤ n) ∧ ∀ b V, wkS np T n W = .inr (b, V) → b = n ∧ 4 * V.1 ≤ n ∧ WfK np V 6 0 V.1 := by
  have h := stK_G np T n 6 0 W (Nat.zero_le _)
  unfold wkS
  rcases hs : stK np T n 6 0 W with ⟨k0, q0⟩ | ⟨a1, V1⟩
  · rw [bS_l]; exact ⟨fun k q e => by cases e; exact h.l hs, fun b V e => by cases e⟩
  · rw [bS_r]
    have g := h.r hs
    have hsk := sk_a (T := T) g.2.1
    split
    · exact ⟨fun k q e => by cases e; exact ⟨Or.inl rfl, hsk.2⟩, fun b V e => by cases e⟩
    · refine ⟨fun k q e => (by cases e), fun b V e => by
        cases e
        have g4 := g.2.2.2.2
        rw [h0] at g4
        exact ⟨rfl, by omega, g4⟩⟩
