/-! ===== performing a work: what is reckoned ===== -/
def dyF (f : Nat → Int32) : Bool × (Nat → Int32) := if f 189 < nI 900 then (true, dayF f) else (false, f)
theorem sellF_1 {f : Nat → Int32} {n p : Nat} {c : Int32} (h : f n = nI p) : sellF f n p c = (false, f) := if_pos h
theorem sellF_2 {f : Nat → Int32} {n p : Nat} {c : Int32} (h : ¬ f n = nI p) (h2 : c ≤ f (183 + p)) : sellF f n p c = (true, upd (payF f p (f n) c) n (nI p)) := by unfold sellF; rw [if_neg h, if_pos h2]
theorem sellF_3 {f : Nat → Int32} {n p : Nat} {c : Int32} (h : ¬ f n = nI p) (h2 : ¬ c ≤ f (183 + p)) : sellF f n p c = (false, f) := by unfold sellF; rw [if_neg h, if_neg h2]
theorem letF_1 {f : Nat → Int32} {n : Nat} {r : Int32} (h : f n = -1) : letF f n r = (false, f) := if_pos h
theorem letF_2 {f : Nat → Int32} {n : Nat} {r : Int32} (h : ¬ f n = -1) (h2 : f (61 + n) = r) : letF f n r = (false, f) := by unfold letF; rw [if_neg h, if_pos h2]
theorem letF_3 {f : Nat → Int32} {n : Nat} {r : Int32} (h : ¬ f n = -1) (h2 : ¬ f (61 + n) = r) : letF f n r = (true, upd f (61 + n) r) := by unfold letF; rw [if_neg h, if_neg h2]
theorem dyF_1 {f : Nat → Int32} (h : f 189 < nI 900) : dyF f = (true, dayF f) := if_pos h
theorem dyF_2 {f : Nat → Int32} (h : ¬ f 189 < nI 900) : dyF f = (false, f) := if_neg h
def onN (W : AF) (i : Nat) : Nat := (W.2.2.1 i).toNatClampNeg
def twN (W : AF) (i : Nat) : Nat := (W.2.2.2.1 i).toNatClampNeg
def thN (W : AF) (i : Nat) : Nat := (W.2.2.2.2 i).toNatClampNeg
def onS (sz : Nat) (kf vf : Nat → Int32) (W : AF) (i : Nat) (f : Nat → Int32) : Bool × (Nat → Int32) :=
  if W.2.1 i = nI 0 then useF f (onN W i) (twN W i) (fareC f sz kf vf (twN W i) (thN W i))
  else if W.2.1 i = nI 1 then sellF f (onN W i) (twN W i) (nI (thN W i))
  else if W.2.1 i = nI 2 then letF f (onN W i) (nI (twN W i))
  else dyF f
abbrev XS : Type := Nat × Nat × Nat × (Nat → Int32)
def onX (sz : Nat) (kf vf : Nat → Int32) (W : AF) (i : Nat) (x : XS) : XS := if (onS sz kf vf W i x.2.2.2).1 = true then (x.1, x.2.1 + 1, x.2.2.1, (onS sz kf vf W i x.2.2.2).2) else (x.1, x.2.1, x.2.2.1 + 1, (onS sz kf vf W i x.2.2.2).2)
def rpX (body : XS → XS) : Nat → XS → XS
  | 0, x => x
  | t + 1, x => if x.1 < 200 then rpX body t (body x) else x
def pfJ (W : AF) (one rep : Nat → XS → XS) : Nat → Nat → Nat → XS → XS
  | 0, _, _, x => x
  | j + 1, a, b, x => if a < b ∧ x.1 < 200 then (if W.2.1 a = nI 4 then pfJ W one rep j (twN W a) b (rep a (x.1 + 1, x.2)) else pfJ W one rep j (a + 1) b (one a (x.1 + 1, x.2))) else x
def rpI (W : AF) (one : Nat → XS → XS) : Nat → Nat → XS → XS
  | 0 => fun _ x => x
  | k + 1 => fun a x => rpX (pfJ W one (rpI W one k) 38 (a + 1) (twN W a)) (onN W a) x
def pfK (W : AF) (one : Nat → XS → XS) (k : Nat) : Nat → Nat → XS → XS := pfJ W one (rpI W one k) 38
theorem pfJ_e {W : AF} {one rep : Nat → XS → XS} {j a b : Nat} {x : XS} (h : ¬ (a < b ∧ x.1 < 200)) : pfJ W one rep j a b x = x := by
  cases j with
  | zero => rfl
  | succ j => exact if_neg h
theorem pfJ_a {W : AF} {one rep : Nat → XS → XS} {j a b : Nat} {x : XS} (h1 : a < b) (h2 : x.1 < 200) (h3 : W.2.1 a = nI 4) : pfJ W one rep (j + 1) a b x = pfJ W one rep j (twN W a) b (rep a (x.1 + 1, x.2)) := (if_pos ⟨h1, h2⟩).trans (if_pos h3)
theorem pfJ_o {W : AF} {one rep : Nat → XS → XS} {j a b : Nat} {x : XS} (h1 : a < b) (h2 : x.1 < 200) (h3 : ¬ W.2.1 a = nI 4) : pfJ W one rep (j + 1) a b x = pfJ W one rep j (a + 1) b (one a (x.1 + 1, x.2)) := (if_pos ⟨h1, h2⟩).trans (if_neg h3)
theorem goE_k {np : Nat} {W : AF} {i : Nat} (h : goE np W i) : ¬ W.2.1 i = nI 4 := fun e => by
  rcases h with ⟨h, -⟩ | ⟨h, -⟩ | ⟨h, -⟩ | ⟨h, -⟩ <;> exact absurd (h.symm.trans e) (by decide)
theorem agE_n {W : AF} {i b e : Nat} (h : agE W i b e) (hb : b ≤ 1000) : W.2.2.1 i = nI (onN W i) ∧ onN W i ≤ 60 ∧ twN W i = e := by
  obtain ⟨-, ⟨t, ht, e1⟩, e2, -, h1, h2⟩ := h
  unfold onN twN
  rw [e1, e2, nI_clamp (by omega), nI_clamp (by omega)]
  exact ⟨rfl, ht, rfl⟩
/-! what rows stay as they may be -/
theorem RowOK.sub {f g : Nat → Int32} {np : Nat} (h : RowOK f np) (hu : RowU g np) (hr : ∀ n, n ≤ 60 → g (61 + n) = f (61 + n)) (hd : g 189 = f 189) : RowOK g np := ⟨hu.1, fun n hn => by rw [hr n hn]; exact h.2.1 n hn, hu.2, by rw [hd]; exact h.2.2.2⟩
theorem useF_o {g : Nat → Int32} {q n i : Nat} {c : Int32} (hq : q < 6) (hn : n ≤ 60) (ho : isOw (g n)) (hi : i < 122 ∨ i = 189) : (useF g q n c).2 i = g i := by
  unfold useF
  split
  · exact upd_ne _ _ (by omega)
  · split
    · show upd (payF g q (g n) c) (122 + n) _ i = g i
      rw [upd_ne _ _ (by omega), payF_ne (by omega) (by omega) ho]
    · rfl
theorem RowOK.use {g : Nat → Int32} {np q n c : Nat} (h : RowOK g np) (h6 : np ≤ 6) (hq : q < np) (hn : n ≤ 60) (hc : c ≤ 99) : RowOK (useF g q n (nI c)).2 np :=
  h.sub (h.u.use h6 (by omega) hn hc) (fun i hi => useF_o (by omega) hn (h.ow h6 hn) (by omega)) (useF_o (by omega) hn (h.ow h6 hn) (by omega))
theorem RowOK.sell {g : Nat → Int32} {np p n c : Nat} (h : RowOK g np) (h6 : np ≤ 6) (hp : p < np) (hn : n ≤ 60) (hc : c ≤ 999) : RowOK (sellF g n p (nI c)).2 np := by
  have ho := h.ow h6 hn
  by_cases h1 : g n = nI p
  · rw [sellF_1 h1]; exact h
  · by_cases h2 : nI c ≤ g (183 + p)
    · rw [sellF_2 h1 h2]
      obtain ⟨x, hx, hgx⟩ := h.2.2.1 p (by omega)
      have hcx : c ≤ x := (nI_leI (by omega) (by omega)).mp (hgx ▸ h2)
      have hpo : ∀ i, i < 183 ∨ 189 ≤ i → payF g p (g n) (nI c) i = g i := fun i hi => payF_ne (by omega) hi ho
      have hco : ∀ q, q < 6 → ∃ y, y ≤ 9999 ∧ payF g p (g n) (nI c) (183 + q) = nI y := by
        rcases ho with e | ⟨o, ho6, e⟩
        · intro q hq
          rw [e]; unfold payF; rw [if_pos rfl]
          by_cases eq : q = p
          · subst eq; rw [pk_us, hgx, pk_sub hcx]; exact ⟨x - c, by omega, rfl⟩
          · rw [pk_un (by omega)]; exact h.2.2.1 q hq
        · rw [e]; exact payF_co (np := np) h.2.2.1 (by omega) ho6 (fun q => h1 (by rw [e, q])) hcx hx hgx
      refine ⟨fun i hi => ?_, fun i hi => ?_, fun i hi => ?_, ?_⟩
      · show upd _ n (nI p) i = -1 ∨ ∃ q, q < np ∧ upd _ n (nI p) i = nI q
        by_cases e : i = n
        · rw [e, pk_us]; exact Or.inr ⟨p, hp, rfl⟩
        · rw [pk_un e, hpo i (by omega)]; exact h.1 i hi
      · show ∃ r, r ≤ 40 ∧ upd _ n (nI p) (61 + i) = nI r
        rw [pk_un (by omega), hpo _ (by omega)]; exact h.2.1 i hi
      · show ∃ c, c ≤ 9999 ∧ upd _ n (nI p) (183 + i) = nI c
        rw [pk_un (by omega)]; exact hco i hi
      · show ∃ d, d ≤ 900 ∧ upd _ n (nI p) 189 = nI d
        rw [pk_un (by omega), hpo _ (by omega)]; exact h.2.2.2
    · rw [sellF_3 h1 h2]; exact h
theorem RowOK.lets {g : Nat → Int32} {np n r : Nat} (h : RowOK g np) (hn : n ≤ 60) (hr : r ≤ 40) : RowOK (letF g n (nI r)).2 np := by
  by_cases h1 : g n = -1
  · rw [letF_1 h1]; exact h
  · by_cases h2 : g (61 + n) = nI r
    · rw [letF_2 h1 h2]; exact h
    · rw [letF_3 h1 h2]
      refine ⟨fun i hi => ?_, fun i hi => ?_, fun i hi => ?_, ?_⟩
      · show upd _ _ _ i = -1 ∨ ∃ q, q < np ∧ upd _ _ _ i = nI q
        rw [pk_un (by omega)]; exact h.1 i hi
      · show ∃ r, r ≤ 40 ∧ upd _ (61 + n) _ (61 + i) = nI r
        by_cases e : i = n
        · rw [e, pk_us]; exact ⟨r, hr, rfl⟩
        · rw [pk_un (by omega)]; exact h.2.1 i hi
      · show ∃ c, c ≤ 9999 ∧ upd _ _ _ (183 + i) = nI c
        rw [pk_un (by omega)]; exact h.2.2.1 i hi
      · show ∃ d, d ≤ 900 ∧ upd _ _ _ 189 = nI d
        rw [pk_un (by omega)]; exact h.2.2.2
theorem dayF_r {g : Nat → Int32} {n : Nat} (hn : n ≤ 60) : dayF g (61 + n) = g (61 + n) := by
  unfold dayF clr; rw [if_neg (by omega), pk_un (by omega)]
theorem dayF_d (g : Nat → Int32) : dayF g 189 = g 189 + nI 1 := by
  unfold dayF clr; rw [if_neg (by omega), pk_us]
theorem RowOK.day {g : Nat → Int32} {np : Nat} (h : RowOK g np) : RowOK (dyF g).2 np := by
  by_cases h1 : g 189 < nI 900
  · rw [dyF_1 h1]
    obtain ⟨d, hd, e⟩ := h.2.2.2
    have hd9 : d < 900 := (nI_ltI (by omega) (by omega)).mp (e ▸ h1)
    have hu := h.u.day
    refine ⟨hu.1, fun n hn => ?_, hu.2, d + 1, by omega, ?_⟩
    · show ∃ r, r ≤ 40 ∧ dayF g (61 + n) = nI r
      rw [dayF_r hn]; exact h.2.1 n hn
    · show dayF g 189 = _
      rw [dayF_d, e, nI_add]
  · rw [dyF_2 h1]; exact h
theorem goE_row {np : Nat} {W : AF} {i : Nat} (hg : goE np W i) {f : Nat → Int32} (h : RowOK f np) (h6 : np ≤ 6) (sz : Nat) (kf vf : Nat → Int32) : RowOK (onS sz kf vf W i f).2 np := by
  unfold onS
  rcases hg with ⟨e, p, q, y, h1, h2, h3, e1, e2, e3⟩ | ⟨e, q, p, c, h1, h2, h3, e1, e2, e3⟩ | ⟨e, q, r, h1, h2, e1, e2, e3⟩ | ⟨e, -⟩
  · rw [if_pos e]
    unfold onN twN thN
    rw [e1, e2, e3, nI_clamp (by omega), nI_clamp (by omega), nI_clamp (by omega), fareC_n h2]
    exact h.use h6 h1 h2 (fareTn_ok f sz kf vf q y).2
  · rw [if_neg (by rw [e]; decide), if_pos e]
    unfold onN twN thN
    rw [e1, e2, e3, nI_clamp (by omega), nI_clamp (by omega), nI_clamp (by omega)]
    exact h.sell h6 h2 h1 h3
  · rw [if_neg (by rw [e]; decide), if_neg (by rw [e]; decide), if_pos e]
    unfold onN twN
    rw [e1, e2, nI_clamp (by omega), nI_clamp (by omega)]
    exact h.lets h1 h2
  · rw [if_neg (by rw [e]; decide), if_neg (by rw [e]; decide), if_neg (by rw [e]; decide)]
    exact h.day
def XG (np : Nat) (x : XS) : Prop := RowOK x.2.2.2 np ∧ x.1 ≤ 200 ∧ x.2.1 + x.2.2.1 ≤ x.1
theorem onX_g {np : Nat} {W : AF} {i : Nat} (hg : goE np W i) (h6 : np ≤ 6) (sz : Nat) (kf vf : Nat → Int32) {x : XS} (h : XG np x) (h2 : x.1 < 200) : XG np (onX sz kf vf W i (x.1 + 1, x.2)) := by
  have h1 := goE_row hg h.1 h6 sz kf vf
  have h3 := h.2.2
  unfold onX
  split
  · exact ⟨h1, by show x.1 + 1 ≤ 200; omega, by show x.2.1 + 1 + x.2.2.1 ≤ x.1 + 1; omega⟩
  · exact ⟨h1, by show x.1 + 1 ≤ 200; omega, by show x.2.1 + (x.2.2.1 + 1) ≤ x.1 + 1; omega⟩
theorem rpX_g {np : Nat} {body : XS → XS} (hb : ∀ x, XG np x → XG np (body x)) : ∀ t x, XG np x → XG np (rpX body t x)
  | 0, _, h => h
  | t + 1, x, h => by
    show XG np (if _ then _ else _)
    split
    · exact rpX_g hb t _ (hb x h)
    · exact h
theorem pfJ_g {np : Nat} {W : AF} (h6 : np ≤ 6) (sz : Nat) (kf vf : Nat → Int32) {rep : Nat → XS → XS} {inn : Nat → Nat → Prop} (hr : ∀ a e x, e ≤ 1000 → twN W a = e → inn (a + 1) e → XG np x → XG np (rep a x)) : ∀ j a b x, b ≤ 1000 → WfJ np W inn j a b → XG np x → XG np (pfJ W (onX sz kf vf W) rep j a b x)
  | 0, _, _, _, _, _, h => h
  | j + 1, a, b, x, hb, hw, h => by
    by_cases hc : a < b ∧ x.1 < 200
    · rcases hw with e | ⟨-, ⟨g1, g2⟩ | ⟨e, g1, g2, g3⟩⟩
      · omega
      · rw [pfJ_o hc.1 hc.2 (goE_k g1)]
        exact pfJ_g h6 sz kf vf hr j _ _ _ hb g2 (onX_g g1 h6 sz kf vf h hc.2)
      · have hn := agE_n g1 hb
        rw [pfJ_a hc.1 hc.2 g1.1, hn.2.2]
        exact pfJ_g h6 sz kf vf hr j _ _ _ hb g3 (hr a e _ (by have := g1.2.2.2.2.2; omega) hn.2.2 g2 ⟨h.1, by show x.1 + 1 ≤ 200; omega, by have := h.2.2; show x.2.1 + x.2.2.1 ≤ x.1 + 1; omega⟩)
    · rw [pfJ_e hc]; exact h
theorem rpI_s (W : AF) (one : Nat → XS → XS) (k a : Nat) (x : XS) : rpI W one (k + 1) a x = rpX (pfJ W one (rpI W one k) 38 (a + 1) (twN W a)) (onN W a) x := rfl
theorem WfI_s (np : Nat) (W : AF) (k : Nat) : WfI np W (k + 1) = WfJ np W (WfI np W k) 38 := rfl
theorem rpI_g {np : Nat} {W : AF} (h6 : np ≤ 6) (sz : Nat) (kf vf : Nat → Int32) : ∀ k a e x, e ≤ 1000 → twN W a = e → WfI np W k (a + 1) e → XG np x → XG np (rpI W (onX sz kf vf W) k a x) := by
  intro k
  induction k with
  | zero => intro a e x _ _ h; exact h.elim
  | succ k ih =>
    intro a e x he ht hw h
    rw [WfI_s] at hw
    rw [rpI_s, ht]
    exact rpX_g (fun y hy => pfJ_g (inn := WfI np W k) h6 sz kf vf ih 38 (a + 1) e y he hw hy) _ _ h
