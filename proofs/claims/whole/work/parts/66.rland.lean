/-! ===== the land's text ===== -/
theorem hi_c (c : Nat) (hc : c < 2 ^ 31) : ∀ v : Nat, v < 2 ^ 31 → (nI v ≤ nI c ↔ v < c + 1) := fun v hv => by rw [nI_leI hv hc]; omega
theorem hi_np {np : Nat} (h : np ≤ 1000) : ∀ v : Nat, v < 2 ^ 31 → (nI v ≤ nI np - nI 1 ↔ v < np) := fun v hv => by
  cases np with
  | zero =>
    constructor
    · intro e
      have e2 := Int32.le_iff_toInt_le.mp e
      rw [show (nI 0 - nI 1).toInt = -1 by decide] at e2
      have e3 : (0 : Int) ≤ (nI v).toInt := by
        have h9 := Int32.le_iff_toInt_le.mp (nI_le (Nat.zero_le v) hv)
        rw [show (nI 0).toInt = 0 by decide] at h9
        exact h9
      omega
    · omega
  | succ k => rw [pk_sub (by omega), Nat.add_sub_cancel, nI_leI hv (by omega)]; omega
theorem wLand_ne : ∀ w ∈ wLand, w ≠ [] := by decide
abbrev LSt : Type := Nat × Nat × (Nat → Int32)
/-- a clause, told t-th -/
def clS (T : Nat → Nat) (n t : Nat) (s : LSt) (a : Nat) : PR LSt := bS (wrdS wLand T n a) (fun a1 w =>
  if 60 ≤ t ∨ (w = 0 ∧ 6 ≤ s.1) then .inl (3, sk T n a)
  else if w = 0 then bS (figS T n 0 1000 a1) (fun a2 v => bS (sgnS T n 59 a2) (fun a3 _ => .inr (a3, (s.1 + 1, s.2.1, upd s.2.2 (183 + s.1) (nI v)))))
  else if w = 1 then bS (figS T n 0 61 a1) (fun a2 v => bS (figS T n 0 s.1 a2) (fun a3 p => bS (figS T n 0 41 a3) (fun a4 r => bS (sgnS T n 59 a4) (fun a5 _ => .inr (a5, (s.1, s.2.1, upd (upd s.2.2 v (nI p)) (61 + v) (nI r)))))))
  else bS (figS T n 0 21 a1) (fun a2 v => bS (sgnS T n 59 a2) (fun a3 _ => .inr (a3, (s.1, v, s.2.2)))))
theorem clS_l {T : Nat → Nat} {n t : Nat} {s : LSt} {a : Nat} {e : Nat × Nat} (h : wrdS wLand T n a = .inl e) : clS T n t s a = .inl e := by unfold clS; rw [h, bS_l]
theorem clS_x {T : Nat → Nat} {n t : Nat} {s : LSt} {a a1 w : Nat} (h : wrdS wLand T n a = .inr (a1, w)) (hc : 60 ≤ t ∨ (w = 0 ∧ 6 ≤ s.1)) : clS T n t s a = .inl (3, sk T n a) := by unfold clS; rw [h, bS_r, if_pos hc]
theorem clS_0 {T : Nat → Nat} {n t : Nat} {s : LSt} {a a1 : Nat} (h : wrdS wLand T n a = .inr (a1, 0)) (ht : t < 60) (hs : s.1 < 6) : clS T n t s a = bS (figS T n 0 1000 a1) (fun a2 v => bS (sgnS T n 59 a2) (fun a3 _ => .inr (a3, (s.1 + 1, s.2.1, upd s.2.2 (183 + s.1) (nI v))))) := by unfold clS; rw [h, bS_r, if_neg (by omega), if_pos rfl]
theorem clS_2 {T : Nat → Nat} {n t : Nat} {s : LSt} {a a1 : Nat} (h : wrdS wLand T n a = .inr (a1, 2)) (ht : t < 60) : clS T n t s a = bS (figS T n 0 21 a1) (fun a2 v => bS (sgnS T n 59 a2) (fun a3 _ => .inr (a3, (s.1, v, s.2.2)))) := by unfold clS; rw [h, bS_r, if_neg (by omega), if_neg (by omega), if_neg (by omega)]
def ldS (T : Nat → Nat) (n : Nat) : Nat → Nat → LSt → Nat → PR LSt
  | 0, _, s, a => .inr (a, s)
  | c + 1, t, s, a => if sk T n a < n then bS (clS T n t s (sk T n a)) (fun a1 s1 => ldS T n c (t + 1) s1 a1) else .inr (sk T n a, s)
def LsI (s : LSt) : Prop := s.1 ≤ 6 ∧ s.2.1 ≤ 20 ∧ RowZ s.2.2
theorem RowZ.up {f : Nat → Int32} (h : RowZ f) {i : Nat} {x : Int32} (hi : i < 190) : RowZ (upd f i x) := fun j hj => by rw [pk_un (by omega)]; exact h j hj
/-! the class: the land b, as read so far -/
def lnS (h : PH) (b np du : Nat) (f : Nat → Int32) : PH := hp_sF (hp_sF (hp_sI h (b + 1) f) b 1 (.int (nI np))) b 2 (.int (nI du))
def LnK (h : PH) (b : Nat) : Prop := hp_K h b = (2, 3) ∧ hp_K h (b + 1) = (20, 190) ∧ hp_F h b 0 = .ref (b + 1) ∧ 2 < b
theorem lnS_F (h : PH) (b np du : Nat) (f : Nat → Int32) (x j : Nat) : hp_F (lnS h b np du f) x j = if x = b ∧ j = 2 then .int (nI du) else if x = b ∧ j = 1 then .int (nI np) else hp_F h x j := rfl
theorem lnS_0 {h : PH} {b np du : Nat} {f : Nat → Int32} {v : Value} (e : hp_F h b 0 = v) : hp_F (lnS h b np du f) b 0 = v := by rw [lnS_F, if_neg (by omega), if_neg (by omega)]; exact e
theorem lnS_1 (h : PH) (b np du : Nat) (f : Nat → Int32) : hp_F (lnS h b np du f) b 1 = .int (nI np) := by rw [lnS_F, if_neg (by omega), if_pos ⟨rfl, rfl⟩]
theorem lnS_2 (h : PH) (b np du : Nat) (f : Nat → Int32) : hp_F (lnS h b np du f) b 2 = .int (nI du) := by rw [lnS_F, if_pos ⟨rfl, rfl⟩]
theorem lnS_I (h : PH) (b np du : Nat) (f : Nat → Int32) : hp_I (lnS h b np du f) (b + 1) = f := hp_I_eq _ _ _
theorem RdK.ln {h : PH} {tf : Nat → Int32} (hR : RdK h tf) {b : Nat} (hb : 2 < b) (np du : Nat) (f : Nat → Int32) : RdK (lnS h b np du f) tf :=
  ⟨hR.1, hR.2.1, by rw [lnS_F, if_neg (by omega), if_neg (by omega)]; exact hR.2.2.1, (hp_I_nx (by omega) rfl).trans hR.2.2.2⟩
theorem ln_sI (h : PH) (b np du : Nat) (f : Nat → Int32) (n a k : Nat) (pl : Int32) (g : Nat → Int32) : hp_sI (rdS (lnS h b np du f) n a k pl) (b + 1) g = rdS (lnS h b np du g) n a k pl := by
  refine hp_ext rfl (fun _ => rfl) (fun _ _ => rfl) (fun x => ?_) (fun _ => rfl)
  show (if x = b + 1 then g else (if x = b + 1 then f else hp_I h x)) = (if x = b + 1 then g else hp_I h x)
  by_cases e : x = b + 1
  · rw [if_pos e, if_pos e]
  · rw [if_neg e, if_neg e, if_neg e]
theorem ln_s1 {h : PH} {b np du : Nat} {f : Nat → Int32} {n a k : Nat} {pl : Int32} (hb : 2 < b) (v : Nat) : hp_sF (rdS (lnS h b np du f) n a k pl) b 1 (.int (nI v)) = rdS (lnS h b v du f) n a k pl := by
  refine hp_ext rfl (fun _ => rfl) (fun x j => ?_) (fun _ => rfl) (fun _ => rfl)
  show (if x = b ∧ j = 1 then _ else hp_F (rdS (lnS h b np du f) n a k pl) x j) = _
  rw [rdS_F, rdS_F, lnS_F, lnS_F]
  by_cases e : x = b ∧ j = 1
  · rw [if_pos e, if_neg (by omega), if_neg (by omega), if_neg (by omega), if_neg (by omega), if_neg (by omega), if_pos e]
  · rw [if_neg e, if_neg e, if_neg e]
theorem ln_s2 {h : PH} {b np du : Nat} {f : Nat → Int32} {n a k : Nat} {pl : Int32} (hb : 2 < b) (v : Nat) : hp_sF (rdS (lnS h b np du f) n a k pl) b 2 (.int (nI v)) = rdS (lnS h b np v f) n a k pl := by
  refine hp_ext rfl (fun _ => rfl) (fun x j => ?_) (fun _ => rfl) (fun _ => rfl)
  show (if x = b ∧ j = 2 then _ else hp_F (rdS (lnS h b np du f) n a k pl) x j) = _
  rw [rdS_F, rdS_F, lnS_F, lnS_F]
  by_cases e : x = b ∧ j = 2
  · rw [if_pos e, if_neg (by omega), if_neg (by omega), if_neg (by omega), if_neg (by omega), if_pos e]
  · rw [if_neg e, if_neg e, if_neg e]
/-- how reading the land ends -/
def LdO (h : PH) (b n : Nat) (r : PR LSt) (h9 : PH) : Prop := match r with
  | .inl e => ∃ s : LSt, LsI s ∧ h9 = rdS (lnS h b s.1 s.2.1 s.2.2) n n e.1 (nI e.2)
  | .inr x => h9 = rdS (lnS h b x.2.1 x.2.2.1 x.2.2.2) n x.1 0 (-1)
theorem clS_k {T : Nat → Nat} {n t : Nat} {s : LSt} {a k q : Nat} (h : clS T n t s a = .inl (k, q)) : 0 < k ∧ k < 10 := by
  unfold clS at h
  rcases h1 : wrdS wLand T n a with ⟨k1, q1⟩ | ⟨a1, w⟩
  · rw [h1, bS_l] at h; cases h; have := (wrdS_l h1).1; omega
  · rw [h1, bS_r] at h
    split at h
    · cases h; omega
    · split at h
      · rcases h2 : figS T n 0 1000 a1 with ⟨k2, q2⟩ | ⟨a2, v2⟩
        · rw [h2, bS_l] at h; cases h; have := (figS_l h2).1; omega
        · rw [h2, bS_r] at h
          rcases h3 : sgnS T n 59 a2 with ⟨k3, q3⟩ | ⟨a3, v3⟩
          · rw [h3, bS_l] at h; cases h; have := (sgnS_l h3).1; omega
          · rw [h3, bS_r] at h; cases h
      · split at h
        · rcases h2 : figS T n 0 61 a1 with ⟨k2, q2⟩ | ⟨a2, v2⟩
          · rw [h2, bS_l] at h; cases h; have := (figS_l h2).1; omega
          · rw [h2, bS_r] at h
            rcases h3 : figS T n 0 s.1 a2 with ⟨k3, q3⟩ | ⟨a3, v3⟩
            · rw [h3, bS_l] at h; cases h; have := (figS_l h3).1; omega
            · rw [h3, bS_r] at h
              rcases h4 : figS T n 0 41 a3 with ⟨k4, q4⟩ | ⟨a4, v4⟩
              · rw [h4, bS_l] at h; cases h; have := (figS_l h4).1; omega
              · rw [h4, bS_r] at h
                rcases h5 : sgnS T n 59 a4 with ⟨k5, q5⟩ | ⟨a5, v5⟩
                · rw [h5, bS_l] at h; cases h; have := (sgnS_l h5).1; omega
                · rw [h5, bS_r] at h; cases h
        · rcases h2 : figS T n 0 21 a1 with ⟨k2, q2⟩ | ⟨a2, v2⟩
          · rw [h2, bS_l] at h; cases h; have := (figS_l h2).1; omega
          · rw [h2, bS_r] at h
            rcases h3 : sgnS T n 59 a2 with ⟨k3, q3⟩ | ⟨a3, v3⟩
            · rw [h3, bS_l] at h; cases h; have := (sgnS_l h3).1; omega
            · rw [h3, bS_r] at h; cases h
/-- owners are persons told ahead, coins and rents within their bounds -/
def LsG (s : LSt) : Prop := LsI s ∧ (∀ i, i ≤ 60 → s.2.2 i = -1 ∨ ∃ q, q < s.1 ∧ s.2.2 i = nI q) ∧ (∀ i, i ≤ 60 → ∃ r, r ≤ 40 ∧ s.2.2 (61 + i) = nI r) ∧ (∀ i, i ≤ 60 → s.2.2 (122 + i) = 0) ∧ (∀ i, i < 6 → ∃ c, c ≤ 999 ∧ s.2.2 (183 + i) = nI c) ∧ s.2.2 189 = 0
theorem clS_G {T : Nat → Nat} {n t : Nat} {s s2 : LSt} {a b : Nat} (hs : LsG s) (ha : a ≤ n) (h : clS T n t s a = .inr (b, s2)) : LsG s2 ∧ sk T n a < b ∧ b ≤ n ∧ t < 60 := by
  obtain ⟨⟨g1, g2, g3⟩, g4, g5, g6, g7, g8⟩ := hs
  unfold clS at h
  rcases h1 : wrdS wLand T n a with ⟨k1, q1⟩ | ⟨a1, w⟩
  · rw [h1, bS_l] at h; cases h
  · rw [h1, bS_r] at h
    have e1 := wrdS_lt wLand_ne ha h1
    have s1 := sk_ge (T := T) (show a1 ≤ n by omega)
    split at h
    · cases h
    · rename_i hc
      split at h
      · rename_i hw
        rcases h2 : figS T n 0 1000 a1 with ⟨k2, q2⟩ | ⟨a2, v2⟩
        · rw [h2, bS_l] at h; cases h
        · rw [h2, bS_r] at h
          have e2 := figS_r (by omega) h2
          have s2 := sk_ge (T := T) (show a2 ≤ n by omega)
          rcases h3 : sgnS T n 59 a2 with ⟨k3, q3⟩ | ⟨a3, v3⟩
          · rw [h3, bS_l] at h; cases h
          · rw [h3, bS_r] at h
            have e3 := sgnS_r h3
            cases h
            refine ⟨⟨⟨by show s.1 + 1 ≤ 6; omega, g2, g3.up (by omega)⟩, fun i hi => ?_, fun i hi => ?_, fun i hi => ?_, fun i hi => ?_, ?_⟩, by omega, by omega, by omega⟩
            · show upd s.2.2 (183 + s.1) (nI v2) i = -1 ∨ ∃ q, q < s.1 + 1 ∧ upd s.2.2 (183 + s.1) (nI v2) i = nI q
              rw [pk_un (by omega)]
              rcases g4 i hi with e | ⟨q, e, e'⟩
              · exact Or.inl e
              · exact Or.inr ⟨q, by omega, e'⟩
            · show ∃ r, r ≤ 40 ∧ upd s.2.2 (183 + s.1) (nI v2) (61 + i) = nI r
              rw [pk_un (by omega)]; exact g5 i hi
            · show upd s.2.2 (183 + s.1) (nI v2) (122 + i) = 0
              rw [pk_un (by omega)]; exact g6 i hi
            · show ∃ c, c ≤ 999 ∧ upd s.2.2 (183 + s.1) (nI v2) (183 + i) = nI c
              by_cases e : i = s.1
              · rw [e, pk_us]; exact ⟨v2, by omega, rfl⟩
              · rw [pk_un (by omega)]; exact g7 i hi
            · show upd s.2.2 (183 + s.1) (nI v2) 189 = 0
              rw [pk_un (by omega)]; exact g8
      · split at h
        · rcases h2 : figS T n 0 61 a1 with ⟨k2, q2⟩ | ⟨a2, v2⟩
          · rw [h2, bS_l] at h; cases h
          · rw [h2, bS_r] at h
            have e2 := figS_r (by omega) h2
            have s2 := sk_ge (T := T) (show a2 ≤ n by omega)
            rcases h3 : figS T n 0 s.1 a2 with ⟨k3, q3⟩ | ⟨a3, v3⟩
            · rw [h3, bS_l] at h; cases h
            · rw [h3, bS_r] at h
              have e3 := figS_r (by omega) h3
              have s3 := sk_ge (T := T) (show a3 ≤ n by omega)
              rcases h4 : figS T n 0 41 a3 with ⟨k4, q4⟩ | ⟨a4, v4⟩
              · rw [h4, bS_l] at h; cases h
              · rw [h4, bS_r] at h
                have e4 := figS_r (by omega) h4
                have s4 := sk_ge (T := T) (show a4 ≤ n by omega)
                rcases h5 : sgnS T n 59 a4 with ⟨k5, q5⟩ | ⟨a5, v5⟩
                · rw [h5, bS_l] at h; cases h
                · rw [h5, bS_r] at h
                  have e5 := sgnS_r h5
                  cases h
                  refine ⟨⟨⟨g1, g2, (g3.up (by omega)).up (by omega)⟩, fun i hi => ?_, fun i hi => ?_, fun i hi => ?_, fun i hi => ?_, ?_⟩, by omega, by omega, by omega⟩
                  · show upd (upd s.2.2 v2 (nI v3)) (61 + v2) (nI v4) i = -1 ∨ ∃ q, q < s.1 ∧ upd (upd s.2.2 v2 (nI v3)) (61 + v2) (nI v4) i = nI q
                    rw [pk_un (by omega)]
                    by_cases e : i = v2
                    · rw [e, pk_us]; exact Or.inr ⟨v3, by omega, rfl⟩
                    · rw [pk_un e]; exact g4 i hi
                  · show ∃ r, r ≤ 40 ∧ upd (upd s.2.2 v2 (nI v3)) (61 + v2) (nI v4) (61 + i) = nI r
                    by_cases e : i = v2
                    · rw [e, pk_us]; exact ⟨v4, by omega, rfl⟩
                    · rw [pk_un (by omega), pk_un (by omega)]; exact g5 i hi
                  · show upd (upd s.2.2 v2 (nI v3)) (61 + v2) (nI v4) (122 + i) = 0
                    rw [pk_un (by omega), pk_un (by omega)]; exact g6 i hi
                  · show ∃ c, c ≤ 999 ∧ upd (upd s.2.2 v2 (nI v3)) (61 + v2) (nI v4) (183 + i) = nI c
                    rw [pk_un (by omega), pk_un (by omega)]; exact g7 i hi
                  · show upd (upd s.2.2 v2 (nI v3)) (61 + v2) (nI v4) 189 = 0
                    rw [pk_un (by omega), pk_un (by omega)]; exact g8
        · rcases h2 : figS T n 0 21 a1 with ⟨k2, q2⟩ | ⟨a2, v2⟩
          · rw [h2, bS_l] at h; cases h
          · rw [h2, bS_r] at h
            have e2 := figS_r (by omega) h2
            have s2 := sk_ge (T := T) (show a2 ≤ n by omega)
            rcases h3 : sgnS T n 59 a2 with ⟨k3, q3⟩ | ⟨a3, v3⟩
            · rw [h3, bS_l] at h; cases h
            · rw [h3, bS_r] at h
              have e3 := sgnS_r h3
              cases h
              exact ⟨⟨⟨g1, by show v2 ≤ 20; omega, g3⟩, g4, g5, g6, g7, g8⟩, by omega, by omega, by omega⟩
def ldX (n c : Nat) (r : PR LSt) : Prop := match r with
  | .inl e => 0 < e.1 ∧ e.1 < 10
  | .inr x => LsG x.2 ∧ (x.1 = n ∨ c = 0)
theorem ldS_x {T : Nat → Nat} {n : Nat} : ∀ (c t : Nat) (s : LSt) (a : Nat), LsG s → a ≤ n → t + c = 61 → ldX n c (ldS T n c t s a)
  | 0, t, s, a, hs, ha, _ => ⟨hs, Or.inr rfl⟩
  | c + 1, t, s, a, hs, ha, ht => by
    have hk := sk_le (T := T) ha
    unfold ldS
    by_cases hl : sk T n a < n
    · rw [if_pos hl]
      rcases h1 : clS T n t s (sk T n a) with ⟨k1, q1⟩ | ⟨a1, s1⟩
      · rw [bS_l]; exact clS_k h1
      · rw [bS_r]
        obtain ⟨e1, e2, e3, e4⟩ := clS_G hs hk h1
        have h2 := ldS_x (T := T) c (t + 1) s1 a1 e1 e3 (by omega)
        rcases h3 : ldS T n c (t + 1) s1 a1 with ⟨k3, q3⟩ | ⟨a3, s3⟩
        · rw [h3] at h2; exact h2
        · rw [h3] at h2
          refine ⟨h2.1, ?_⟩
          rcases h2.2 with e | e
          · exact Or.inl e
          · omega
    · rw [if_neg hl]
      exact ⟨hs, Or.inl (by show sk T n a = n; omega)⟩
/-- the empty land -/
def emF : Nat → Int32 := fun i => if i < 61 then -1 else 0
def em0 : LSt := (0, 2, emF)
theorem em0_G : LsG em0 := by
  refine ⟨⟨by decide, by decide, fun i hi => if_neg (by omega)⟩, fun i hi => Or.inl (if_pos (by omega)), fun i hi => ⟨0, by decide, if_neg (by omega)⟩, fun i hi => if_neg (by omega), fun i hi => ⟨0, by decide, if_neg (by omega)⟩, (show emF 189 = 0 from if_neg (by omega))⟩
def emK (f : Nat → Int32) (k : Nat) : Nat → Int32 := fun i => if i < k then emF i else f i
theorem emK_0 (f : Nat → Int32) : emK f 0 = f := funext fun i => if_neg (by omega)
theorem emK_s (f : Nat → Int32) (k : Nat) : upd (emK f k) k (emF k) = emK f (k + 1) := by
  funext i
  by_cases e : i = k
  · rw [e, pk_us]; show _ = if k < k + 1 then emF k else f k; rw [if_pos (by omega)]
  · rw [pk_un e]
    show (if i < k then emF i else f i) = if i < k + 1 then emF i else f i
    by_cases h : i < k
    · rw [if_pos h, if_pos (by omega)]
    · rw [if_neg h, if_neg (by omega)]
theorem emK_z {f : Nat → Int32} (h : RowZ f) : emK f 190 = emF := by
  funext i
  show (if i < 190 then emF i else f i) = emF i
  by_cases e : i < 190
  · rw [if_pos e]
  · rw [if_neg e, h i (by omega)]; exact (if_neg (by omega)).symm
set_option maxHeartbeats 4000000 in
set_option maxRecDepth 100000 in
theorem l_Ln_empty {l : Launch} {Z : EE} (hst : l.stackTraces = false) {h : PH} {tf : Nat → Int32} (hR : RdK h tf) {T : Nat → Nat} (hB : BT tf T) {n : Nat} (hn : n ≤ 600) {b : Nat} (hb : LnK h b) (np du : Nat) (f : Nat → Int32) (a k : Nat) (pl : Int32) {Post : Res → PH → Prop} : ∀ (j i : Nat), i + j = 190 → WW l Z m_X2_empty 0 0 0 32 [.ref b, .int (nI 190)] [] (rdS (lnS h b np du (emK f 190)) n a k pl) Post → WW l Z m_X2_empty 0 0 0 2 [.ref b, .int (nI i)] [] (rdS (lnS h b np du (emK f i)) n a k pl) Post := by
  have hb3 := hb.2.2.2
  intro j
  induction j with
  | zero =>
    intro i hi hexit
    have hi0 : i = 190 := by omega
    subst hi0
    refine ww_iload_n dX2_empty_2 rfl rfl ?_
    refine ww_sipush (v := nI 190) dX2_empty_3 (by decide) ?_
    refine ww_icmp_geN (tgt := 32) dX2_empty_6 (by decide) (by omega) (by omega) (fun c6 => ?_) (fun c6 => ?_)
    · exact hexit
    · exfalso; omega
  | succ j ih =>
    intro i hi hexit
    refine ww_iload_n dX2_empty_2 rfl rfl ?_
    refine ww_sipush (v := nI 190) dX2_empty_3 (by decide) ?_
    refine ww_icmp_geN (tgt := 32) dX2_empty_6 (by decide) (by omega) (by omega) (fun c6 => ?_) (fun c6 => ?_)
    · exfalso; omega
    · refine ww_aload_n dX2_empty_9 rfl rfl ?_
      refine ww_get 0 dX2_empty_10 hb.1 rfl (by decide) inX2 wg_74 (rdS_o _ _ _ _ (by omega) (lnS_0 hb.2.2.1)) ?_
      refine ww_iload_n dX2_empty_13 rfl rfl ?_
      refine ww_iload_n dX2_empty_14 rfl rfl ?_
      refine ww_bipush (v := nI 61) dX2_empty_15 (by decide) ?_
      refine ww_icmp_geN (tgt := 24) dX2_empty_17 (by decide) (by omega) (by omega) (fun c17 => ?_) (fun c17 => ?_)
      · refine ww_iconst (v := nI 0) dX2_empty_24 (by decide) ?_
        refine ww_iastF dX2_empty_25 hb.2.1 (lnS_I h b np du (emK f i)) (by omega) (by omega) ?_
        refine ww_hp (h2 := rdS (lnS h b np du (upd (emK f i) i (nI 0))) n a k pl) (ln_sI _ _ _ _ _ _ _ _ _ _) ?_
        refine ww_incN (c := 1) (lv2 := [.ref b, .int (nI (i + 1))]) dX2_empty_26 rfl rfl rfl (by decide) rfl ?_
        refine ww_goto (tgt := 2) dX2_empty_29 (by decide) ?_
        refine ww_hp (h2 := rdS (lnS h b np du (emK f (i + 1))) n a k pl) (by rw [← emK_s f i, show emF i = nI 0 from if_neg (by omega)]) ?_
        exact ih (i + 1) (by omega) hexit
      · refine ww_iconst (v := -1) dX2_empty_20 (by decide) ?_
        refine ww_goto (tgt := 25) dX2_empty_21 (by decide) ?_
        refine ww_iastF dX2_empty_25 hb.2.1 (lnS_I h b np du (emK f i)) (by omega) (by omega) ?_
        refine ww_hp (h2 := rdS (lnS h b np du (upd (emK f i) i (-1))) n a k pl) (ln_sI _ _ _ _ _ _ _ _ _ _) ?_
        refine ww_incN (c := 1) (lv2 := [.ref b, .int (nI (i + 1))]) dX2_empty_26 rfl rfl rfl (by decide) rfl ?_
        refine ww_goto (tgt := 2) dX2_empty_29 (by decide) ?_
        refine ww_hp (h2 := rdS (lnS h b np du (emK f (i + 1))) n a k pl) (by rw [← emK_s f i, show emF i = -1 from if_pos (by omega)]) ?_
        exact ih (i + 1) (by omega) hexit
set_option maxHeartbeats 4000000 in
set_option maxRecDepth 100000 in
theorem c_Ln_empty {l : Launch} {Z : EE} (hst : l.stackTraces = false) {h : PH} {tf : Nat → Int32} (hR : RdK h tf) {T : Nat → Nat} (hB : BT tf T) {n : Nat} (hn : n ≤ 600) {b : Nat} (hb : LnK h b) {np du : Nat} {f : Nat → Int32} (hz : RowZ f) (a k : Nat) (pl : Int32) : CC l Z m_X2_empty 0 0 0 [.ref b] (rdS (lnS h b np du f) n a k pl) (RT none (rdS (lnS h b 0 2 emF) n a k pl)) := by
  refine ee_entry hst (by decide +kernel) rfl rfl (by simp [Value.category]) (Nat.le_of_ble_eq_true rfl) ?_
  refine ww_lv (lv2 := [.ref b, UU]) rfl ?_
  have hb3 := hb.2.2.2
  refine ww_iconst (v := nI 0) dX2_empty_0 (by decide) ?_
  refine ww_sti_n (lv2 := [.ref b, .int (nI 0)]) dX2_empty_1 rfl rfl (by decide) rfl ?_
  refine ww_hp (h2 := rdS (lnS h b np du (emK f 0)) n a k pl) (by rw [emK_0]) ?_
  refine l_Ln_empty hst hR hB hn hb np du f a k pl 190 0 (by omega) ?_
  refine ww_aload_n dX2_empty_32 rfl rfl ?_
  refine ww_iconst (v := nI 0) dX2_empty_33 (by decide) ?_
  refine ww_pfI tyX2 1 dX2_empty_34 hb.1 rfl (by decide) inX2 tyX2_ok nmX2 wg_75 rfl rfl ?_
  refine ww_hp (h2 := rdS (lnS h b 0 du (emK f 190)) n a k pl) (ln_s1 hb3 _) ?_
  refine ww_aload_n dX2_empty_37 rfl rfl ?_
  refine ww_iconst (v := nI 2) dX2_empty_38 (by decide) ?_
  refine ww_pfI tyX2 2 dX2_empty_39 hb.1 rfl (by decide) inX2 tyX2_ok nmX2 wg_79 rfl rfl ?_
  refine ww_hp (h2 := rdS (lnS h b 0 2 (emK f 190)) n a k pl) (ln_s2 hb3 _) ?_
  exact ww_vret dX2_empty_42 rfl ⟨rfl, by rw [emK_z hz]⟩
def owS (T : Nat → Nat) (n : Nat) (s : LSt) (a : Nat) : PR LSt := bS (figS T n 0 61 a) (fun a2 v => bS (figS T n 0 s.1 a2) (fun a3 p => bS (figS T n 0 41 a3) (fun a4 r => .inr (a4, (s.1, s.2.1, upd (upd s.2.2 v (nI p)) (61 + v) (nI r))))))
set_option maxHeartbeats 4000000 in
set_option maxRecDepth 100000 in
theorem c_Ln_owned {l : Launch} {Z : EE} (hst : l.stackTraces = false) {h : PH} {tf : Nat → Int32} (hR : RdK h tf) {T : Nat → Nat} (hB : BT tf T) {n : Nat} (hn : n ≤ 600) {b : Nat} (hb : LnK h b) (a : Nat) (ha : a ≤ n) {np du : Nat} {f : Nat → Int32} (hs : LsI (np, du, f)) : CC l Z m_X2_readOwned 2 0 0 [.ref b, .ref 1] (rdS (lnS h b np du f) n a 0 (-1)) (RQ none (LdO h b n (owS T n (np, du, f) a))) := by
  refine ee_entry hst (by decide +kernel) rfl rfl (by simp [Value.category]) (Nat.le_of_ble_eq_true rfl) ?_
  refine ww_lv (lv2 := [.ref b, .ref 1, UU]) rfl ?_
  have hb3 := hb.2.2.2
  obtain ⟨hs1, hs2, hs3⟩ := hs
  have hs1 : np ≤ 6 := hs1
  have hs2 : du ≤ 20 := hs2
  have hs3 : RowZ f := hs3
  refine ww_aload_n dX2_readOwned_0 rfl rfl ?_
  refine ww_iconst (v := nI 0) dX2_readOwned_1 (by decide) ?_
  refine ww_bipush (v := nI 60) dX2_readOwned_2 (by decide) ?_
  rcases hr1 : figS T n 0 61 a with ⟨k1, q1⟩ | ⟨a1, v1⟩
  · have hf1 := (figS_l hr1).1
    refine ww_cVr (M := m_X2_readOwned) (pc := 4) (v := .int (nI 0)) (h1 := rdS (lnS h b np du f) n n k1 (nI q1)) (st := []) (d := 2) (bc := 0) (bs := 0) (c_Rd_fig_l hst (hR.ln hb3 np du f) hB hn a (by omega) 0 61 (nI 60) (by omega) (by omega) (hi_c 60 (by decide)) hr1) vv_X5_figure dX2_readOwned_4 wg_564 ((hR.ln hb3 np du f).1) rfl rfl rfl rfl (Nat.le_of_ble_eq_true rfl) (Nat.le_of_ble_eq_true rfl) (Nat.le_of_ble_eq_true rfl) (Nat.le_of_ble_eq_true rfl) ?_
    refine ww_sti_n (lv2 := [.ref b, .ref 1, .int (nI 0)]) dX2_readOwned_7 rfl rfl (by decide) rfl ?_
    refine ww_aload_n dX2_readOwned_8 rfl rfl ?_
    refine ww_get 0 dX2_readOwned_9 hb.1 rfl (by decide) inX2 wg_74 (rdS_o _ _ _ _ (by omega) (lnS_0 hb.2.2.1)) ?_
    refine ww_iconst (v := nI 0) dX2_readOwned_12 (by decide) ?_
    refine ww_iload_n dX2_readOwned_13 rfl rfl ?_
    refine ww_iaddN dX2_readOwned_14 ?_
    refine ww_aload_n dX2_readOwned_15 rfl rfl ?_
    refine ww_iconst (v := nI 0) dX2_readOwned_16 (by decide) ?_
    refine ww_aload_n dX2_readOwned_17 rfl rfl ?_
    refine ww_get 1 dX2_readOwned_18 hb.1 rfl (by decide) inX2 wg_75 (rdS_o _ _ _ _ (by omega) (lnS_1 _ _ _ _ _)) ?_
    refine ww_iconst (v := nI 1) dX2_readOwned_21 (by decide) ?_
    refine ww_isub dX2_readOwned_22 ?_
    refine ww_cVr (M := m_X2_readOwned) (pc := 23) (v := .int (nI 0)) (h1 := rdS (lnS h b np du f) n n k1 (nI q1)) (st := [.int (nI (0 + 0)), .ref (b + 1)]) (d := 2) (bc := 0) (bs := 0) (c_Rd_fig_f hst (hR.ln hb3 np du f) hB hn k1 (by omega) (by omega) (nI q1) 0 ((nI np) - (nI 1))) vv_X5_figure dX2_readOwned_23 wg_564 ((hR.ln hb3 np du f).1) rfl rfl rfl rfl (Nat.le_of_ble_eq_true rfl) (Nat.le_of_ble_eq_true rfl) (Nat.le_of_ble_eq_true rfl) (Nat.le_of_ble_eq_true rfl) ?_
    refine ww_iastF dX2_readOwned_26 hb.2.1 (lnS_I h b np du f) (by omega) (by omega) ?_
    refine ww_hp (h2 := rdS (lnS h b np du (upd f (0 + 0) (nI 0))) n n k1 (nI q1)) (ln_sI _ _ _ _ _ _ _ _ _ _) ?_
    refine ww_aload_n dX2_readOwned_27 rfl rfl ?_
    refine ww_get 0 dX2_readOwned_28 hb.1 rfl (by decide) inX2 wg_74 (rdS_o _ _ _ _ (by omega) (lnS_0 hb.2.2.1)) ?_
    refine ww_bipush (v := nI 61) dX2_readOwned_31 (by decide) ?_
    refine ww_iload_n dX2_readOwned_33 rfl rfl ?_
    refine ww_iaddN dX2_readOwned_34 ?_
    refine ww_aload_n dX2_readOwned_35 rfl rfl ?_
    refine ww_iconst (v := nI 0) dX2_readOwned_36 (by decide) ?_
    refine ww_bipush (v := nI 40) dX2_readOwned_37 (by decide) ?_
    refine ww_cVr (M := m_X2_readOwned) (pc := 39) (v := .int (nI 0)) (h1 := rdS (lnS h b np du (upd f (0 + 0) (nI 0))) n n k1 (nI q1)) (st := [.int (nI (61 + 0)), .ref (b + 1)]) (d := 2) (bc := 0) (bs := 0) (c_Rd_fig_f hst (hR.ln hb3 np du (upd f (0 + 0) (nI 0))) hB hn k1 (by omega) (by omega) (nI q1) 0 (nI 40)) vv_X5_figure dX2_readOwned_39 wg_564 ((hR.ln hb3 np du (upd f (0 + 0) (nI 0))).1) rfl rfl rfl rfl (Nat.le_of_ble_eq_true rfl) (Nat.le_of_ble_eq_true rfl) (Nat.le_of_ble_eq_true rfl) (Nat.le_of_ble_eq_true rfl) ?_
    refine ww_iastF dX2_readOwned_42 hb.2.1 (lnS_I h b np du (upd f (0 + 0) (nI 0))) (by omega) (by omega) ?_
    refine ww_hp (h2 := rdS (lnS h b np du (upd (upd f (0 + 0) (nI 0)) (61 + 0) (nI 0))) n n k1 (nI q1)) (ln_sI _ _ _ _ _ _ _ _ _ _) ?_
    exact ww_vret dX2_readOwned_43 rfl ⟨rfl, (by unfold owS; rw [hr1, bS_l]; exact ⟨(np, du, upd (upd f (0 + 0) (nI 0)) (61 + 0) (nI 0)), ⟨by show np ≤ 6; omega, by show du ≤ 20; omega, (RowZ.up (RowZ.up hs3 (by omega)) (by omega))⟩, rfl⟩)⟩
  · have hf1 := figS_r (by omega) hr1
    have hg1 := sk_ge (T := T) (show a ≤ n by omega)
    refine ww_cVr (M := m_X2_readOwned) (pc := 4) (v := .int (nI v1)) (h1 := rdS (lnS h b np du f) n a1 0 (-1)) (st := []) (d := 2) (bc := 0) (bs := 0) (c_Rd_fig_r hst (hR.ln hb3 np du f) hB hn a (by omega) 0 61 (nI 60) (by omega) (by omega) (hi_c 60 (by decide)) hr1) vv_X5_figure dX2_readOwned_4 wg_564 ((hR.ln hb3 np du f).1) rfl rfl rfl rfl (Nat.le_of_ble_eq_true rfl) (Nat.le_of_ble_eq_true rfl) (Nat.le_of_ble_eq_true rfl) (Nat.le_of_ble_eq_true rfl) ?_
    refine ww_sti_n (lv2 := [.ref b, .ref 1, .int (nI v1)]) dX2_readOwned_7 rfl rfl (by decide) rfl ?_
    refine ww_aload_n dX2_readOwned_8 rfl rfl ?_
    refine ww_get 0 dX2_readOwned_9 hb.1 rfl (by decide) inX2 wg_74 (rdS_o _ _ _ _ (by omega) (lnS_0 hb.2.2.1)) ?_
    refine ww_iconst (v := nI 0) dX2_readOwned_12 (by decide) ?_
    refine ww_iload_n dX2_readOwned_13 rfl rfl ?_
    refine ww_iadd0 dX2_readOwned_14 ?_
    refine ww_aload_n dX2_readOwned_15 rfl rfl ?_
    refine ww_iconst (v := nI 0) dX2_readOwned_16 (by decide) ?_
    refine ww_aload_n dX2_readOwned_17 rfl rfl ?_
    refine ww_get 1 dX2_readOwned_18 hb.1 rfl (by decide) inX2 wg_75 (rdS_o _ _ _ _ (by omega) (lnS_1 _ _ _ _ _)) ?_
    refine ww_iconst (v := nI 1) dX2_readOwned_21 (by decide) ?_
    refine ww_isub dX2_readOwned_22 ?_
    rcases hr2 : figS T n 0 np a1 with ⟨k2, q2⟩ | ⟨a2, v2⟩
    · have hf2 := (figS_l hr2).1
      refine ww_cVr (M := m_X2_readOwned) (pc := 23) (v := .int (nI 0)) (h1 := rdS (lnS h b np du f) n n k2 (nI q2)) (st := [.int (nI v1), .ref (b + 1)]) (d := 2) (bc := 0) (bs := 0) (c_Rd_fig_l hst (hR.ln hb3 np du f) hB hn a1 (by omega) 0 np ((nI np) - (nI 1)) (by omega) (by omega) (hi_np (by omega)) hr2) vv_X5_figure dX2_readOwned_23 wg_564 ((hR.ln hb3 np du f).1) rfl rfl rfl rfl (Nat.le_of_ble_eq_true rfl) (Nat.le_of_ble_eq_true rfl) (Nat.le_of_ble_eq_true rfl) (Nat.le_of_ble_eq_true rfl) ?_
      refine ww_iastF dX2_readOwned_26 hb.2.1 (lnS_I h b np du f) (by omega) (by omega) ?_
      refine ww_hp (h2 := rdS (lnS h b np du (upd f v1 (nI 0))) n n k2 (nI q2)) (ln_sI _ _ _ _ _ _ _ _ _ _) ?_
      refine ww_aload_n dX2_readOwned_27 rfl rfl ?_
      refine ww_get 0 dX2_readOwned_28 hb.1 rfl (by decide) inX2 wg_74 (rdS_o _ _ _ _ (by omega) (lnS_0 hb.2.2.1)) ?_
      refine ww_bipush (v := nI 61) dX2_readOwned_31 (by decide) ?_
      refine ww_iload_n dX2_readOwned_33 rfl rfl ?_
      refine ww_iaddN dX2_readOwned_34 ?_
      refine ww_aload_n dX2_readOwned_35 rfl rfl ?_
      refine ww_iconst (v := nI 0) dX2_readOwned_36 (by decide) ?_
      refine ww_bipush (v := nI 40) dX2_readOwned_37 (by decide) ?_
      refine ww_cVr (M := m_X2_readOwned) (pc := 39) (v := .int (nI 0)) (h1 := rdS (lnS h b np du (upd f v1 (nI 0))) n n k2 (nI q2)) (st := [.int (nI (61 + v1)), .ref (b + 1)]) (d := 2) (bc := 0) (bs := 0) (c_Rd_fig_f hst (hR.ln hb3 np du (upd f v1 (nI 0))) hB hn k2 (by omega) (by omega) (nI q2) 0 (nI 40)) vv_X5_figure dX2_readOwned_39 wg_564 ((hR.ln hb3 np du (upd f v1 (nI 0))).1) rfl rfl rfl rfl (Nat.le_of_ble_eq_true rfl) (Nat.le_of_ble_eq_true rfl) (Nat.le_of_ble_eq_true rfl) (Nat.le_of_ble_eq_true rfl) ?_
      refine ww_iastF dX2_readOwned_42 hb.2.1 (lnS_I h b np du (upd f v1 (nI 0))) (by omega) (by omega) ?_
      refine ww_hp (h2 := rdS (lnS h b np du (upd (upd f v1 (nI 0)) (61 + v1) (nI 0))) n n k2 (nI q2)) (ln_sI _ _ _ _ _ _ _ _ _ _) ?_
      exact ww_vret dX2_readOwned_43 rfl ⟨rfl, (by unfold owS; rw [hr1, bS_r, hr2, bS_l]; exact ⟨(np, du, upd (upd f v1 (nI 0)) (61 + v1) (nI 0)), ⟨by show np ≤ 6; omega, by show du ≤ 20; omega, (RowZ.up (RowZ.up hs3 (by omega)) (by omega))⟩, rfl⟩)⟩
    · have hf2 := figS_r (by omega) hr2
      have hg2 := sk_ge (T := T) (show a1 ≤ n by omega)
      refine ww_cVr (M := m_X2_readOwned) (pc := 23) (v := .int (nI v2)) (h1 := rdS (lnS h b np du f) n a2 0 (-1)) (st := [.int (nI v1), .ref (b + 1)]) (d := 2) (bc := 0) (bs := 0) (c_Rd_fig_r hst (hR.ln hb3 np du f) hB hn a1 (by omega) 0 np ((nI np) - (nI 1)) (by omega) (by omega) (hi_np (by omega)) hr2) vv_X5_figure dX2_readOwned_23 wg_564 ((hR.ln hb3 np du f).1) rfl rfl rfl rfl (Nat.le_of_ble_eq_true rfl) (Nat.le_of_ble_eq_true rfl) (Nat.le_of_ble_eq_true rfl) (Nat.le_of_ble_eq_true rfl) ?_
      refine ww_iastF dX2_readOwned_26 hb.2.1 (lnS_I h b np du f) (by omega) (by omega) ?_
      refine ww_hp (h2 := rdS (lnS h b np du (upd f v1 (nI v2))) n a2 0 (-1)) (ln_sI _ _ _ _ _ _ _ _ _ _) ?_
      refine ww_aload_n dX2_readOwned_27 rfl rfl ?_
      refine ww_get 0 dX2_readOwned_28 hb.1 rfl (by decide) inX2 wg_74 (rdS_o _ _ _ _ (by omega) (lnS_0 hb.2.2.1)) ?_
      refine ww_bipush (v := nI 61) dX2_readOwned_31 (by decide) ?_
      refine ww_iload_n dX2_readOwned_33 rfl rfl ?_
      refine ww_iaddN dX2_readOwned_34 ?_
      refine ww_aload_n dX2_readOwned_35 rfl rfl ?_
      refine ww_iconst (v := nI 0) dX2_readOwned_36 (by decide) ?_
      refine ww_bipush (v := nI 40) dX2_readOwned_37 (by decide) ?_
      rcases hr3 : figS T n 0 41 a2 with ⟨k3, q3⟩ | ⟨a3, v3⟩
      · have hf3 := (figS_l hr3).1
        refine ww_cVr (M := m_X2_readOwned) (pc := 39) (v := .int (nI 0)) (h1 := rdS (lnS h b np du (upd f v1 (nI v2))) n n k3 (nI q3)) (st := [.int (nI (61 + v1)), .ref (b + 1)]) (d := 2) (bc := 0) (bs := 0) (c_Rd_fig_l hst (hR.ln hb3 np du (upd f v1 (nI v2))) hB hn a2 (by omega) 0 41 (nI 40) (by omega) (by omega) (hi_c 40 (by decide)) hr3) vv_X5_figure dX2_readOwned_39 wg_564 ((hR.ln hb3 np du (upd f v1 (nI v2))).1) rfl rfl rfl rfl (Nat.le_of_ble_eq_true rfl) (Nat.le_of_ble_eq_true rfl) (Nat.le_of_ble_eq_true rfl) (Nat.le_of_ble_eq_true rfl) ?_
        refine ww_iastF dX2_readOwned_42 hb.2.1 (lnS_I h b np du (upd f v1 (nI v2))) (by omega) (by omega) ?_
        refine ww_hp (h2 := rdS (lnS h b np du (upd (upd f v1 (nI v2)) (61 + v1) (nI 0))) n n k3 (nI q3)) (ln_sI _ _ _ _ _ _ _ _ _ _) ?_
        exact ww_vret dX2_readOwned_43 rfl ⟨rfl, (by unfold owS; rw [hr1, bS_r, hr2, bS_r, hr3, bS_l]; exact ⟨(np, du, upd (upd f v1 (nI v2)) (61 + v1) (nI 0)), ⟨by show np ≤ 6; omega, by show du ≤ 20; omega, (RowZ.up (RowZ.up hs3 (by omega)) (by omega))⟩, rfl⟩)⟩
      · have hf3 := figS_r (by omega) hr3
        have hg3 := sk_ge (T := T) (show a2 ≤ n by omega)
        refine ww_cVr (M := m_X2_readOwned) (pc := 39) (v := .int (nI v3)) (h1 := rdS (lnS h b np du (upd f v1 (nI v2))) n a3 0 (-1)) (st := [.int (nI (61 + v1)), .ref (b + 1)]) (d := 2) (bc := 0) (bs := 0) (c_Rd_fig_r hst (hR.ln hb3 np du (upd f v1 (nI v2))) hB hn a2 (by omega) 0 41 (nI 40) (by omega) (by omega) (hi_c 40 (by decide)) hr3) vv_X5_figure dX2_readOwned_39 wg_564 ((hR.ln hb3 np du (upd f v1 (nI v2))).1) rfl rfl rfl rfl (Nat.le_of_ble_eq_true rfl) (Nat.le_of_ble_eq_true rfl) (Nat.le_of_ble_eq_true rfl) (Nat.le_of_ble_eq_true rfl) ?_
        refine ww_iastF dX2_readOwned_42 hb.2.1 (lnS_I h b np du (upd f v1 (nI v2))) (by omega) (by omega) ?_
        refine ww_hp (h2 := rdS (lnS h b np du (upd (upd f v1 (nI v2)) (61 + v1) (nI v3))) n a3 0 (-1)) (ln_sI _ _ _ _ _ _ _ _ _ _) ?_
        exact ww_vret dX2_readOwned_43 rfl ⟨rfl, (by unfold owS; rw [hr1, bS_r, hr2, bS_r, hr3, bS_r]; exact rfl)⟩
set_option maxHeartbeats 4000000 in
set_option maxRecDepth 100000 in
theorem c_Ln_owned_f {l : Launch} {Z : EE} (hst : l.stackTraces = false) {h : PH} {tf : Nat → Int32} (hR : RdK h tf) {T : Nat → Nat} (hB : BT tf T) {n : Nat} (hn : n ≤ 600) {b : Nat} (hb : LnK h b) (k q : Nat) (hk : 0 < k) (hk9 : k < 10) {np du : Nat} {f : Nat → Int32} (hs : LsI (np, du, f)) : CC l Z m_X2_readOwned 2 0 0 [.ref b, .ref 1] (rdS (lnS h b np du f) n n k (nI q)) (RQ none (fun h9 => ∃ s : LSt, LsI s ∧ h9 = rdS (lnS h b s.1 s.2.1 s.2.2) n n k (nI q))) := by
  refine ee_entry hst (by decide +kernel) rfl rfl (by simp [Value.category]) (Nat.le_of_ble_eq_true rfl) ?_
  refine ww_lv (lv2 := [.ref b, .ref 1, UU]) rfl ?_
  have hb3 := hb.2.2.2
  obtain ⟨hs1, hs2, hs3⟩ := hs
  have hs1 : np ≤ 6 := hs1
  have hs2 : du ≤ 20 := hs2
  have hs3 : RowZ f := hs3
  refine ww_aload_n dX2_readOwned_0 rfl rfl ?_
  refine ww_iconst (v := nI 0) dX2_readOwned_1 (by decide) ?_
  refine ww_bipush (v := nI 60) dX2_readOwned_2 (by decide) ?_
  refine ww_cVr (M := m_X2_readOwned) (pc := 4) (v := .int (nI 0)) (h1 := rdS (lnS h b np du f) n n k (nI q)) (st := []) (d := 2) (bc := 0) (bs := 0) (c_Rd_fig_f hst (hR.ln hb3 np du f) hB hn k (by omega) (by omega) (nI q) 0 (nI 60)) vv_X5_figure dX2_readOwned_4 wg_564 ((hR.ln hb3 np du f).1) rfl rfl rfl rfl (Nat.le_of_ble_eq_true rfl) (Nat.le_of_ble_eq_true rfl) (Nat.le_of_ble_eq_true rfl) (Nat.le_of_ble_eq_true rfl) ?_
  refine ww_sti_n (lv2 := [.ref b, .ref 1, .int (nI 0)]) dX2_readOwned_7 rfl rfl (by decide) rfl ?_
  refine ww_aload_n dX2_readOwned_8 rfl rfl ?_
  refine ww_get 0 dX2_readOwned_9 hb.1 rfl (by decide) inX2 wg_74 (rdS_o _ _ _ _ (by omega) (lnS_0 hb.2.2.1)) ?_
  refine ww_iconst (v := nI 0) dX2_readOwned_12 (by decide) ?_
  refine ww_iload_n dX2_readOwned_13 rfl rfl ?_
  refine ww_iaddN dX2_readOwned_14 ?_
  refine ww_aload_n dX2_readOwned_15 rfl rfl ?_
  refine ww_iconst (v := nI 0) dX2_readOwned_16 (by decide) ?_
  refine ww_aload_n dX2_readOwned_17 rfl rfl ?_
  refine ww_get 1 dX2_readOwned_18 hb.1 rfl (by decide) inX2 wg_75 (rdS_o _ _ _ _ (by omega) (lnS_1 _ _ _ _ _)) ?_
  refine ww_iconst (v := nI 1) dX2_readOwned_21 (by decide) ?_
  refine ww_isub dX2_readOwned_22 ?_
  refine ww_cVr (M := m_X2_readOwned) (pc := 23) (v := .int (nI 0)) (h1 := rdS (lnS h b np du f) n n k (nI q)) (st := [.int (nI (0 + 0)), .ref (b + 1)]) (d := 2) (bc := 0) (bs := 0) (c_Rd_fig_f hst (hR.ln hb3 np du f) hB hn k (by omega) (by omega) (nI q) 0 ((nI np) - (nI 1))) vv_X5_figure dX2_readOwned_23 wg_564 ((hR.ln hb3 np du f).1) rfl rfl rfl rfl (Nat.le_of_ble_eq_true rfl) (Nat.le_of_ble_eq_true rfl) (Nat.le_of_ble_eq_true rfl) (Nat.le_of_ble_eq_true rfl) ?_
  refine ww_iastF dX2_readOwned_26 hb.2.1 (lnS_I h b np du f) (by omega) (by omega) ?_
  refine ww_hp (h2 := rdS (lnS h b np du (upd f (0 + 0) (nI 0))) n n k (nI q)) (ln_sI _ _ _ _ _ _ _ _ _ _) ?_
  refine ww_aload_n dX2_readOwned_27 rfl rfl ?_
  refine ww_get 0 dX2_readOwned_28 hb.1 rfl (by decide) inX2 wg_74 (rdS_o _ _ _ _ (by omega) (lnS_0 hb.2.2.1)) ?_
  refine ww_bipush (v := nI 61) dX2_readOwned_31 (by decide) ?_
  refine ww_iload_n dX2_readOwned_33 rfl rfl ?_
  refine ww_iaddN dX2_readOwned_34 ?_
  refine ww_aload_n dX2_readOwned_35 rfl rfl ?_
  refine ww_iconst (v := nI 0) dX2_readOwned_36 (by decide) ?_
  refine ww_bipush (v := nI 40) dX2_readOwned_37 (by decide) ?_
  refine ww_cVr (M := m_X2_readOwned) (pc := 39) (v := .int (nI 0)) (h1 := rdS (lnS h b np du (upd f (0 + 0) (nI 0))) n n k (nI q)) (st := [.int (nI (61 + 0)), .ref (b + 1)]) (d := 2) (bc := 0) (bs := 0) (c_Rd_fig_f hst (hR.ln hb3 np du (upd f (0 + 0) (nI 0))) hB hn k (by omega) (by omega) (nI q) 0 (nI 40)) vv_X5_figure dX2_readOwned_39 wg_564 ((hR.ln hb3 np du (upd f (0 + 0) (nI 0))).1) rfl rfl rfl rfl (Nat.le_of_ble_eq_true rfl) (Nat.le_of_ble_eq_true rfl) (Nat.le_of_ble_eq_true rfl) (Nat.le_of_ble_eq_true rfl) ?_
  refine ww_iastF dX2_readOwned_42 hb.2.1 (lnS_I h b np du (upd f (0 + 0) (nI 0))) (by omega) (by omega) ?_
  refine ww_hp (h2 := rdS (lnS h b np du (upd (upd f (0 + 0) (nI 0)) (61 + 0) (nI 0))) n n k (nI q)) (ln_sI _ _ _ _ _ _ _ _ _ _) ?_
  exact ww_vret dX2_readOwned_43 rfl ⟨rfl, ⟨(np, du, upd (upd f (0 + 0) (nI 0)) (61 + 0) (nI 0)), ⟨by show np ≤ 6; omega, by show du ≤ 20; omega, (RowZ.up (RowZ.up hs3 (by omega)) (by omega))⟩, rfl⟩⟩
theorem owS_k {T : Nat → Nat} {n : Nat} {s : LSt} {a k q : Nat} (h : owS T n s a = .inl (k, q)) : 0 < k ∧ k < 10 := by
  unfold owS at h
  rcases h2 : figS T n 0 61 a with ⟨k2, q2⟩ | ⟨a2, v2⟩
  · rw [h2, bS_l] at h; cases h; have := (figS_l h2).1; omega
  · rw [h2, bS_r] at h
    rcases h3 : figS T n 0 s.1 a2 with ⟨k3, q3⟩ | ⟨a3, v3⟩
    · rw [h3, bS_l] at h; cases h; have := (figS_l h3).1; omega
    · rw [h3, bS_r] at h
      rcases h4 : figS T n 0 41 a3 with ⟨k4, q4⟩ | ⟨a4, v4⟩
      · rw [h4, bS_l] at h; cases h; have := (figS_l h4).1; omega
      · rw [h4, bS_r] at h; cases h
theorem owS_r {T : Nat → Nat} {n : Nat} {s s2 : LSt} {a b : Nat} (ha : a ≤ n) (h : owS T n s a = .inr (b, s2)) : b ≤ n ∧ s2.1 = s.1 ∧ s2.2.1 = s.2.1 := by
  unfold owS at h
  rcases h2 : figS T n 0 61 a with ⟨k2, q2⟩ | ⟨a2, v2⟩
  · rw [h2, bS_l] at h; cases h
  · rw [h2, bS_r] at h
    have e2 := figS_r ha h2
    rcases h3 : figS T n 0 s.1 a2 with ⟨k3, q3⟩ | ⟨a3, v3⟩
    · rw [h3, bS_l] at h; cases h
    · rw [h3, bS_r] at h
      have e3 := figS_r (by omega) h3
      rcases h4 : figS T n 0 41 a3 with ⟨k4, q4⟩ | ⟨a4, v4⟩
      · rw [h4, bS_l] at h; cases h
      · rw [h4, bS_r] at h
        have e4 := figS_r (by omega) h4
        cases h
        exact ⟨by omega, rfl, rfl⟩
theorem clS_ow {T : Nat → Nat} {n t : Nat} {s : LSt} {a a1 : Nat} (h : wrdS wLand T n a = .inr (a1, 1)) (ht : ¬ 60 ≤ t) : clS T n t s a = bS (owS T n s a1) (fun a4 s4 => bS (sgnS T n 59 a4) (fun a5 _ => .inr (a5, s4))) := by
  unfold clS owS
  rw [h, bS_r, if_neg (by omega), if_neg (by omega), if_pos rfl]
  rcases figS T n 0 61 a1 with e | ⟨a2, v2⟩
  · rfl
  · rw [bS_r, bS_r]
    rcases figS T n 0 s.1 a2 with e | ⟨a3, v3⟩
    · rfl
    · rw [bS_r, bS_r]
      rcases figS T n 0 41 a3 with e | ⟨a4, v4⟩
      · rfl
      · rw [bS_r, bS_r, bS_r]
theorem LsI_ow {T : Nat → Nat} {n : Nat} {s s2 : LSt} {a b : Nat} (ha : a ≤ n) (hs : LsI s) (h : owS T n s a = .inr (b, s2)) : LsI s2 := by
  unfold owS at h
  rcases h2 : figS T n 0 61 a with ⟨k2, q2⟩ | ⟨a2, v2⟩
  · rw [h2, bS_l] at h; cases h
  · rw [h2, bS_r] at h
    have e2 := figS_r ha h2
    rcases h3 : figS T n 0 s.1 a2 with ⟨k3, q3⟩ | ⟨a3, v3⟩
    · rw [h3, bS_l] at h; cases h
    · rw [h3, bS_r] at h
      have e3 := figS_r (by omega) h3
      rcases h4 : figS T n 0 41 a3 with ⟨k4, q4⟩ | ⟨a4, v4⟩
      · rw [h4, bS_l] at h; cases h
      · rw [h4, bS_r] at h
        have e4 := figS_r (by omega) h4
        cases h
        exact ⟨hs.1, hs.2.1, (hs.2.2.up (by omega)).up (by omega)⟩
set_option maxHeartbeats 4000000 in
set_option maxRecDepth 100000 in
theorem c_Ln_clause {l : Launch} {Z : EE} (hst : l.stackTraces = false) {h : PH} {tf : Nat → Int32} (hR : RdK h tf) {T : Nat → Nat} (hB : BT tf T) {n : Nat} (hn : n ≤ 600) {b : Nat} (hb : LnK h b) (a : Nat) (ha : a ≤ n) (hka : sk T n a = a) (t : Nat) (ht : t ≤ 60) {np du : Nat} {f : Nat → Int32} (hs : LsI (np, du, f)) : CC l Z m_X2_readClause 6 0 0 [.ref b, .ref 1, .int (nI t)] (rdS (lnS h b np du f) n a 0 (-1)) (RQ none (LdO h b n (clS T n t (np, du, f) a))) := by
  refine ee_entry hst (by decide +kernel) rfl rfl (by simp [Value.category]) (Nat.le_of_ble_eq_true rfl) ?_
  refine ww_lv (lv2 := [.ref b, .ref 1, .int (nI t), UU, UU]) rfl ?_
  have hb3 := hb.2.2.2
  have hs0 := hs
  obtain ⟨hs1, hs2, hs3⟩ := hs0
  have hs1 : np ≤ 6 := hs1
  have hs2 : du ≤ 20 := hs2
  have hs3 : RowZ f := hs3
  refine ww_aload_n dX2_readClause_0 rfl rfl ?_
  refine ww_getN 3 dX2_readClause_1 ((hR.ln hb3 np du f).1) rfl (by decide) inX5 wn_42 (rdS_3 _ _ _ _ _) ?_
  refine ww_sti_n (lv2 := [.ref b, .ref 1, .int (nI t), .int (nI a), UU]) dX2_readClause_4 rfl rfl (by decide) rfl ?_
  refine ww_aload_n dX2_readClause_5 rfl rfl ?_
  refine ww_ldcS (i := 1) dX2_readClause_6 rfl ?_
  rcases hr4 : wrdS wLand T n a with ⟨k4, q4⟩ | ⟨a4, v4⟩
  · have hf4 := (wrdS_l hr4).1
    refine ww_cVr (M := m_X2_readClause) (pc := 8) (v := .int (-1)) (h1 := rdS (lnS h b np du f) n n k4 (nI q4)) (st := []) (d := 6) (bc := 0) (bs := 0) (c_Rd_word_l hst (hR.ln hb3 np du f) hB hn a (by omega) 1 (by decide) (W := wLand) (fun ln => wfd_1 T _ ln) hr4) vv_X5_word dX2_readClause_8 wg_498 ((hR.ln hb3 np du f).1) rfl rfl rfl rfl (Nat.le_of_ble_eq_true rfl) (Nat.le_of_ble_eq_true rfl) (Nat.le_of_ble_eq_true rfl) (Nat.le_of_ble_eq_true rfl) ?_
    refine ww_sti (lv2 := [.ref b, .ref 1, .int (nI t), .int (nI a), .int (-1)]) dX2_readClause_11 rfl (by decide) rfl ?_
    refine ww_iload_n dX2_readClause_13 rfl rfl ?_
    refine ww_bipush (v := nI 60) dX2_readClause_14 (by decide) ?_
    refine ww_icmp_geN (tgt := 33) dX2_readClause_16 (by decide) (by omega) (by omega) (fun c16 => ?_) (fun c16 => ?_)
    · refine ww_aload_n dX2_readClause_33 rfl rfl ?_
      refine ww_iconst (v := nI 3) dX2_readClause_34 (by decide) ?_
      refine ww_iload_n dX2_readClause_35 rfl rfl ?_
      refine ww_cV0 (M := m_X2_readClause) (pc := 36) (h1 := rdS (lnS h b np du f) n n k4 (nI q4)) (st := []) (d := 6) (bc := 0) (bs := 0) (c_Rd_fail1 hst (hR.ln hb3 np du f) hB hn n k4 (by omega) (by omega) (nI q4) 3 (nI a)) vv_X5_fail dX2_readClause_36 wg_563 ((hR.ln hb3 np du f).1) rfl rfl rfl rfl (Nat.le_of_ble_eq_true rfl) (Nat.le_of_ble_eq_true rfl) (Nat.le_of_ble_eq_true rfl) (Nat.le_of_ble_eq_true rfl) ?_
      exact ww_vret dX2_readClause_39 rfl ⟨rfl, (by rw [clS_l hr4]; exact ⟨(np, du, f), ⟨by show np ≤ 6; omega, by show du ≤ 20; omega, hs3⟩, rfl⟩)⟩
    · refine ww_iload dX2_readClause_19 rfl ?_
      refine ww_if_ne (tgt := 40) dX2_readClause_21 (by decide) (fun c21 => ?_) (fun c21 => ?_)
      · refine ww_iload dX2_readClause_40 rfl ?_
        refine ww_tableOut (tgt := 124) dX2_readClause_42 (by decide) (by decide) ?_
        refine ww_aload_n dX2_readClause_124 rfl rfl ?_
        refine ww_bipush (v := nI 59) dX2_readClause_125 (by decide) ?_
        refine ww_cV0 (M := m_X2_readClause) (pc := 127) (h1 := rdS (lnS h b np du f) n n k4 (nI q4)) (st := []) (d := 6) (bc := 0) (bs := 0) (c_Rd_sign_f hst (hR.ln hb3 np du f) hB hn k4 (by omega) (by omega) (nI q4) 59 (by omega)) vv_X5_sign dX2_readClause_127 wg_576 ((hR.ln hb3 np du f).1) rfl rfl rfl rfl (Nat.le_of_ble_eq_true rfl) (Nat.le_of_ble_eq_true rfl) (Nat.le_of_ble_eq_true rfl) (Nat.le_of_ble_eq_true rfl) ?_
        exact ww_vret dX2_readClause_130 rfl ⟨rfl, (by rw [clS_l hr4]; exact ⟨(np, du, f), ⟨by show np ≤ 6; omega, by show du ≤ 20; omega, hs3⟩, rfl⟩)⟩
      · refine ww_aload_n dX2_readClause_24 rfl rfl ?_
        refine ww_get 1 dX2_readClause_25 hb.1 rfl (by decide) inX2 wg_75 (rdS_o _ _ _ _ (by omega) (lnS_1 _ _ _ _ _)) ?_
        refine ww_bipush (v := nI 6) dX2_readClause_28 (by decide) ?_
        refine ww_icmp_ltN (tgt := 40) dX2_readClause_30 (by decide) (by omega) (by omega) (fun c30 => ?_) (fun c30 => ?_)
        · refine ww_iload dX2_readClause_40 rfl ?_
          refine ww_tableOut (tgt := 124) dX2_readClause_42 (by decide) (by decide) ?_
          refine ww_aload_n dX2_readClause_124 rfl rfl ?_
          refine ww_bipush (v := nI 59) dX2_readClause_125 (by decide) ?_
          refine ww_cV0 (M := m_X2_readClause) (pc := 127) (h1 := rdS (lnS h b np du f) n n k4 (nI q4)) (st := []) (d := 6) (bc := 0) (bs := 0) (c_Rd_sign_f hst (hR.ln hb3 np du f) hB hn k4 (by omega) (by omega) (nI q4) 59 (by omega)) vv_X5_sign dX2_readClause_127 wg_576 ((hR.ln hb3 np du f).1) rfl rfl rfl rfl (Nat.le_of_ble_eq_true rfl) (Nat.le_of_ble_eq_true rfl) (Nat.le_of_ble_eq_true rfl) (Nat.le_of_ble_eq_true rfl) ?_
          exact ww_vret dX2_readClause_130 rfl ⟨rfl, (by rw [clS_l hr4]; exact ⟨(np, du, f), ⟨by show np ≤ 6; omega, by show du ≤ 20; omega, hs3⟩, rfl⟩)⟩
        · refine ww_aload_n dX2_readClause_33 rfl rfl ?_
          refine ww_iconst (v := nI 3) dX2_readClause_34 (by decide) ?_
          refine ww_iload_n dX2_readClause_35 rfl rfl ?_
          refine ww_cV0 (M := m_X2_readClause) (pc := 36) (h1 := rdS (lnS h b np du f) n n k4 (nI q4)) (st := []) (d := 6) (bc := 0) (bs := 0) (c_Rd_fail1 hst (hR.ln hb3 np du f) hB hn n k4 (by omega) (by omega) (nI q4) 3 (nI a)) vv_X5_fail dX2_readClause_36 wg_563 ((hR.ln hb3 np du f).1) rfl rfl rfl rfl (Nat.le_of_ble_eq_true rfl) (Nat.le_of_ble_eq_true rfl) (Nat.le_of_ble_eq_true rfl) (Nat.le_of_ble_eq_true rfl) ?_
          exact ww_vret dX2_readClause_39 rfl ⟨rfl, (by rw [clS_l hr4]; exact ⟨(np, du, f), ⟨by show np ≤ 6; omega, by show du ≤ 20; omega, hs3⟩, rfl⟩)⟩
  · have hf4 := wrdS_lt wLand_ne (by omega) hr4
    have hg4 := sk_ge (T := T) (show a ≤ n by omega)
    rcases (show v4 = 0 ∨ v4 = 1 ∨ v4 = 2 by have h9 := hf4.2.2; simp only [wLand, List.length_cons, List.length_nil] at h9; omega) with rfl | rfl | rfl
    · refine ww_cVr (M := m_X2_readClause) (pc := 8) (v := .int (nI 0)) (h1 := rdS (lnS h b np du f) n a4 0 (-1)) (st := []) (d := 6) (bc := 0) (bs := 0) (c_Rd_word_r hst (hR.ln hb3 np du f) hB hn a (by omega) 1 (by decide) (W := wLand) (fun ln => wfd_1 T _ ln) hr4) vv_X5_word dX2_readClause_8 wg_498 ((hR.ln hb3 np du f).1) rfl rfl rfl rfl (Nat.le_of_ble_eq_true rfl) (Nat.le_of_ble_eq_true rfl) (Nat.le_of_ble_eq_true rfl) (Nat.le_of_ble_eq_true rfl) ?_
      refine ww_sti (lv2 := [.ref b, .ref 1, .int (nI t), .int (nI a), .int (nI 0)]) dX2_readClause_11 rfl (by decide) rfl ?_
      refine ww_iload_n dX2_readClause_13 rfl rfl ?_
      refine ww_bipush (v := nI 60) dX2_readClause_14 (by decide) ?_
      refine ww_icmp_geN (tgt := 33) dX2_readClause_16 (by decide) (by omega) (by omega) (fun c16 => ?_) (fun c16 => ?_)
      · refine ww_aload_n dX2_readClause_33 rfl rfl ?_
        refine ww_iconst (v := nI 3) dX2_readClause_34 (by decide) ?_
        refine ww_iload_n dX2_readClause_35 rfl rfl ?_
        refine ww_cV0 (M := m_X2_readClause) (pc := 36) (h1 := rdS (lnS h b np du f) n n 3 (nI a)) (st := []) (d := 6) (bc := 0) (bs := 0) (c_Rd_fail0 hst (hR.ln hb3 np du f) hB hn a4 (-1) 3 (nI a)) vv_X5_fail dX2_readClause_36 wg_563 ((hR.ln hb3 np du f).1) rfl rfl rfl rfl (Nat.le_of_ble_eq_true rfl) (Nat.le_of_ble_eq_true rfl) (Nat.le_of_ble_eq_true rfl) (Nat.le_of_ble_eq_true rfl) ?_
        exact ww_vret dX2_readClause_39 rfl ⟨rfl, (by rw [clS_x hr4 (by omega), hka]; exact ⟨(np, du, f), ⟨by show np ≤ 6; omega, by show du ≤ 20; omega, hs3⟩, rfl⟩)⟩
      · refine ww_iload dX2_readClause_19 rfl ?_
        refine ww_if_neN (tgt := 40) dX2_readClause_21 (by decide) (by omega) (fun c21 => ?_) (fun c21 => ?_)
        · exact absurd c21 (by decide)
        · refine ww_aload_n dX2_readClause_24 rfl rfl ?_
          refine ww_get 1 dX2_readClause_25 hb.1 rfl (by decide) inX2 wg_75 (rdS_o _ _ _ _ (by omega) (lnS_1 _ _ _ _ _)) ?_
          refine ww_bipush (v := nI 6) dX2_readClause_28 (by decide) ?_
          refine ww_icmp_ltN (tgt := 40) dX2_readClause_30 (by decide) (by omega) (by omega) (fun c30 => ?_) (fun c30 => ?_)
          · refine ww_iload dX2_readClause_40 rfl ?_
            refine ww_tableIn (off := 26) (tgt := 68) dX2_readClause_42 (by decide) (by decide) (by decide) (by decide) ?_
            refine ww_aload_n dX2_readClause_68 rfl rfl ?_
            refine ww_get 0 dX2_readClause_69 hb.1 rfl (by decide) inX2 wg_74 (rdS_o _ _ _ _ (by omega) (lnS_0 hb.2.2.1)) ?_
            refine ww_sipush (v := nI 183) dX2_readClause_72 (by decide) ?_
            refine ww_aload_n dX2_readClause_75 rfl rfl ?_
            refine ww_get 1 dX2_readClause_76 hb.1 rfl (by decide) inX2 wg_75 (rdS_o _ _ _ _ (by omega) (lnS_1 _ _ _ _ _)) ?_
            refine ww_iaddN dX2_readClause_79 ?_
            refine ww_aload_n dX2_readClause_80 rfl rfl ?_
            refine ww_iconst (v := nI 0) dX2_readClause_81 (by decide) ?_
            refine ww_sipush (v := nI 999) dX2_readClause_82 (by decide) ?_
            rcases hr5 : figS T n 0 1000 a4 with ⟨k5, q5⟩ | ⟨a5, v5⟩
            · have hf5 := (figS_l hr5).1
              refine ww_cVr (M := m_X2_readClause) (pc := 85) (v := .int (nI 0)) (h1 := rdS (lnS h b np du f) n n k5 (nI q5)) (st := [.int (nI (183 + np)), .ref (b + 1)]) (d := 6) (bc := 0) (bs := 0) (c_Rd_fig_l hst (hR.ln hb3 np du f) hB hn a4 (by omega) 0 1000 (nI 999) (by omega) (by omega) (hi_c 999 (by decide)) hr5) vv_X5_figure dX2_readClause_85 wg_564 ((hR.ln hb3 np du f).1) rfl rfl rfl rfl (Nat.le_of_ble_eq_true rfl) (Nat.le_of_ble_eq_true rfl) (Nat.le_of_ble_eq_true rfl) (Nat.le_of_ble_eq_true rfl) ?_
              refine ww_iastF dX2_readClause_88 hb.2.1 (lnS_I h b np du f) (by omega) (by omega) ?_
              refine ww_hp (h2 := rdS (lnS h b np du (upd f (183 + np) (nI 0))) n n k5 (nI q5)) (ln_sI _ _ _ _ _ _ _ _ _ _) ?_
              refine ww_aload_n dX2_readClause_89 rfl rfl ?_
              refine ww_dup dX2_readClause_90 rfl ?_
              refine ww_get 1 dX2_readClause_91 hb.1 rfl (by decide) inX2 wg_75 (rdS_o _ _ _ _ (by omega) (lnS_1 _ _ _ _ _)) ?_
              refine ww_iconst (v := nI 1) dX2_readClause_94 (by decide) ?_
              refine ww_iaddN dX2_readClause_95 ?_
              refine ww_pfI tyX2 1 dX2_readClause_96 hb.1 rfl (by decide) inX2 tyX2_ok nmX2 wg_75 rfl rfl ?_
              refine ww_hp (h2 := rdS (lnS h b (np + 1) du (upd f (183 + np) (nI 0))) n n k5 (nI q5)) (ln_s1 hb3 _) ?_
              refine ww_goto (tgt := 124) dX2_readClause_99 (by decide) ?_
              refine ww_aload_n dX2_readClause_124 rfl rfl ?_
              refine ww_bipush (v := nI 59) dX2_readClause_125 (by decide) ?_
              refine ww_cV0 (M := m_X2_readClause) (pc := 127) (h1 := rdS (lnS h b (np + 1) du (upd f (183 + np) (nI 0))) n n k5 (nI q5)) (st := []) (d := 6) (bc := 0) (bs := 0) (c_Rd_sign_f hst (hR.ln hb3 (np + 1) du (upd f (183 + np) (nI 0))) hB hn k5 (by omega) (by omega) (nI q5) 59 (by omega)) vv_X5_sign dX2_readClause_127 wg_576 ((hR.ln hb3 (np + 1) du (upd f (183 + np) (nI 0))).1) rfl rfl rfl rfl (Nat.le_of_ble_eq_true rfl) (Nat.le_of_ble_eq_true rfl) (Nat.le_of_ble_eq_true rfl) (Nat.le_of_ble_eq_true rfl) ?_
              exact ww_vret dX2_readClause_130 rfl ⟨rfl, (by rw [clS_0 hr4 (by omega) (show np < 6 by omega), hr5, bS_l]; exact ⟨(np + 1, du, upd f (183 + np) (nI 0)), ⟨by show np + 1 ≤ 6; omega, by show du ≤ 20; omega, (RowZ.up hs3 (by omega))⟩, rfl⟩)⟩
            · have hf5 := figS_r (by omega) hr5
              have hg5 := sk_ge (T := T) (show a4 ≤ n by omega)
              refine ww_cVr (M := m_X2_readClause) (pc := 85) (v := .int (nI v5)) (h1 := rdS (lnS h b np du f) n a5 0 (-1)) (st := [.int (nI (183 + np)), .ref (b + 1)]) (d := 6) (bc := 0) (bs := 0) (c_Rd_fig_r hst (hR.ln hb3 np du f) hB hn a4 (by omega) 0 1000 (nI 999) (by omega) (by omega) (hi_c 999 (by decide)) hr5) vv_X5_figure dX2_readClause_85 wg_564 ((hR.ln hb3 np du f).1) rfl rfl rfl rfl (Nat.le_of_ble_eq_true rfl) (Nat.le_of_ble_eq_true rfl) (Nat.le_of_ble_eq_true rfl) (Nat.le_of_ble_eq_true rfl) ?_
              refine ww_iastF dX2_readClause_88 hb.2.1 (lnS_I h b np du f) (by omega) (by omega) ?_
              refine ww_hp (h2 := rdS (lnS h b np du (upd f (183 + np) (nI v5))) n a5 0 (-1)) (ln_sI _ _ _ _ _ _ _ _ _ _) ?_
              refine ww_aload_n dX2_readClause_89 rfl rfl ?_
              refine ww_dup dX2_readClause_90 rfl ?_
              refine ww_get 1 dX2_readClause_91 hb.1 rfl (by decide) inX2 wg_75 (rdS_o _ _ _ _ (by omega) (lnS_1 _ _ _ _ _)) ?_
              refine ww_iconst (v := nI 1) dX2_readClause_94 (by decide) ?_
              refine ww_iaddN dX2_readClause_95 ?_
              refine ww_pfI tyX2 1 dX2_readClause_96 hb.1 rfl (by decide) inX2 tyX2_ok nmX2 wg_75 rfl rfl ?_
              refine ww_hp (h2 := rdS (lnS h b (np + 1) du (upd f (183 + np) (nI v5))) n a5 0 (-1)) (ln_s1 hb3 _) ?_
              refine ww_goto (tgt := 124) dX2_readClause_99 (by decide) ?_
              refine ww_aload_n dX2_readClause_124 rfl rfl ?_
              refine ww_bipush (v := nI 59) dX2_readClause_125 (by decide) ?_
              rcases hr6 : sgnS T n 59 a5 with ⟨k6, q6⟩ | ⟨a6, u6⟩
              · have hf6 := (sgnS_l hr6).1
                refine ww_cV0 (M := m_X2_readClause) (pc := 127) (h1 := rdS (lnS h b (np + 1) du (upd f (183 + np) (nI v5))) n n k6 (nI q6)) (st := []) (d := 6) (bc := 0) (bs := 0) (c_Rd_sign_l hst (hR.ln hb3 (np + 1) du (upd f (183 + np) (nI v5))) hB hn a5 (by omega) 59 (by omega) hr6) vv_X5_sign dX2_readClause_127 wg_576 ((hR.ln hb3 (np + 1) du (upd f (183 + np) (nI v5))).1) rfl rfl rfl rfl (Nat.le_of_ble_eq_true rfl) (Nat.le_of_ble_eq_true rfl) (Nat.le_of_ble_eq_true rfl) (Nat.le_of_ble_eq_true rfl) ?_
                exact ww_vret dX2_readClause_130 rfl ⟨rfl, (by rw [clS_0 hr4 (by omega) (show np < 6 by omega), hr5, bS_r, hr6, bS_l]; exact ⟨(np + 1, du, upd f (183 + np) (nI v5)), ⟨by show np + 1 ≤ 6; omega, by show du ≤ 20; omega, (RowZ.up hs3 (by omega))⟩, rfl⟩)⟩
              · have hf6 := sgnS_r hr6
                have hg6 := sk_ge (T := T) (show a5 ≤ n by omega)
                refine ww_cV0 (M := m_X2_readClause) (pc := 127) (h1 := rdS (lnS h b (np + 1) du (upd f (183 + np) (nI v5))) n a6 0 (-1)) (st := []) (d := 6) (bc := 0) (bs := 0) (c_Rd_sign_r hst (hR.ln hb3 (np + 1) du (upd f (183 + np) (nI v5))) hB hn a5 (by omega) 59 (by omega) hr6) vv_X5_sign dX2_readClause_127 wg_576 ((hR.ln hb3 (np + 1) du (upd f (183 + np) (nI v5))).1) rfl rfl rfl rfl (Nat.le_of_ble_eq_true rfl) (Nat.le_of_ble_eq_true rfl) (Nat.le_of_ble_eq_true rfl) (Nat.le_of_ble_eq_true rfl) ?_
                exact ww_vret dX2_readClause_130 rfl ⟨rfl, (by rw [clS_0 hr4 (by omega) (show np < 6 by omega), hr5, bS_r, hr6, bS_r]; exact rfl)⟩
          · refine ww_aload_n dX2_readClause_33 rfl rfl ?_
            refine ww_iconst (v := nI 3) dX2_readClause_34 (by decide) ?_
            refine ww_iload_n dX2_readClause_35 rfl rfl ?_
            refine ww_cV0 (M := m_X2_readClause) (pc := 36) (h1 := rdS (lnS h b np du f) n n 3 (nI a)) (st := []) (d := 6) (bc := 0) (bs := 0) (c_Rd_fail0 hst (hR.ln hb3 np du f) hB hn a4 (-1) 3 (nI a)) vv_X5_fail dX2_readClause_36 wg_563 ((hR.ln hb3 np du f).1) rfl rfl rfl rfl (Nat.le_of_ble_eq_true rfl) (Nat.le_of_ble_eq_true rfl) (Nat.le_of_ble_eq_true rfl) (Nat.le_of_ble_eq_true rfl) ?_
            exact ww_vret dX2_readClause_39 rfl ⟨rfl, (by rw [clS_x hr4 (by omega), hka]; exact ⟨(np, du, f), ⟨by show np ≤ 6; omega, by show du ≤ 20; omega, hs3⟩, rfl⟩)⟩
    · refine ww_cVr (M := m_X2_readClause) (pc := 8) (v := .int (nI 1)) (h1 := rdS (lnS h b np du f) n a4 0 (-1)) (st := []) (d := 6) (bc := 0) (bs := 0) (c_Rd_word_r hst (hR.ln hb3 np du f) hB hn a (by omega) 1 (by decide) (W := wLand) (fun ln => wfd_1 T _ ln) hr4) vv_X5_word dX2_readClause_8 wg_498 ((hR.ln hb3 np du f).1) rfl rfl rfl rfl (Nat.le_of_ble_eq_true rfl) (Nat.le_of_ble_eq_true rfl) (Nat.le_of_ble_eq_true rfl) (Nat.le_of_ble_eq_true rfl) ?_
      refine ww_sti (lv2 := [.ref b, .ref 1, .int (nI t), .int (nI a), .int (nI 1)]) dX2_readClause_11 rfl (by decide) rfl ?_
      refine ww_iload_n dX2_readClause_13 rfl rfl ?_
      refine ww_bipush (v := nI 60) dX2_readClause_14 (by decide) ?_
      refine ww_icmp_geN (tgt := 33) dX2_readClause_16 (by decide) (by omega) (by omega) (fun c16 => ?_) (fun c16 => ?_)
      · refine ww_aload_n dX2_readClause_33 rfl rfl ?_
        refine ww_iconst (v := nI 3) dX2_readClause_34 (by decide) ?_
        refine ww_iload_n dX2_readClause_35 rfl rfl ?_
        refine ww_cV0 (M := m_X2_readClause) (pc := 36) (h1 := rdS (lnS h b np du f) n n 3 (nI a)) (st := []) (d := 6) (bc := 0) (bs := 0) (c_Rd_fail0 hst (hR.ln hb3 np du f) hB hn a4 (-1) 3 (nI a)) vv_X5_fail dX2_readClause_36 wg_563 ((hR.ln hb3 np du f).1) rfl rfl rfl rfl (Nat.le_of_ble_eq_true rfl) (Nat.le_of_ble_eq_true rfl) (Nat.le_of_ble_eq_true rfl) (Nat.le_of_ble_eq_true rfl) ?_
        exact ww_vret dX2_readClause_39 rfl ⟨rfl, (by rw [clS_x hr4 (by omega), hka]; exact ⟨(np, du, f), ⟨by show np ≤ 6; omega, by show du ≤ 20; omega, hs3⟩, rfl⟩)⟩
      · refine ww_iload dX2_readClause_19 rfl ?_
        refine ww_if_neN (tgt := 40) dX2_readClause_21 (by decide) (by omega) (fun c21 => ?_) (fun c21 => ?_)
        · refine ww_iload dX2_readClause_40 rfl ?_
          refine ww_tableIn (off := 60) (tgt := 102) dX2_readClause_42 (by decide) (by decide) (by decide) (by decide) ?_
          refine ww_aload_n dX2_readClause_102 rfl rfl ?_
          refine ww_aload_n dX2_readClause_103 rfl rfl ?_
          refine ww_cVq0 (M := m_X2_readClause) (pc := 104) (st := []) (d := 6) (bc := 0) (bs := 0) (c_Ln_owned hst hR hB hn hb a4 (by omega) hs) vv_X2_readOwned dX2_readClause_104 wg_572 hb.1 rfl rfl rfl rfl (Nat.le_of_ble_eq_true rfl) (Nat.le_of_ble_eq_true rfl) (Nat.le_of_ble_eq_true rfl) (Nat.le_of_ble_eq_true rfl) (fun ho7 qo7 => ?_)
          rcases hr7 : owS T n (np, du, f) a4 with ⟨k7, q7⟩ | ⟨a7, s7⟩
          · rw [hr7] at qo7
            obtain ⟨s7, hz7, rfl⟩ := qo7
            have hf7 := owS_k hr7
            have hy7 := hz7.1
            have hx7 := hz7.2.1
            refine ww_goto (tgt := 124) dX2_readClause_107 (by decide) ?_
            refine ww_aload_n dX2_readClause_124 rfl rfl ?_
            refine ww_bipush (v := nI 59) dX2_readClause_125 (by decide) ?_
            refine ww_cV0 (M := m_X2_readClause) (pc := 127) (h1 := rdS (lnS h b s7.1 s7.2.1 s7.2.2) n n k7 (nI q7)) (st := []) (d := 6) (bc := 0) (bs := 0) (c_Rd_sign_f hst (hR.ln hb3 s7.1 s7.2.1 s7.2.2) hB hn k7 (by omega) (by omega) (nI q7) 59 (by omega)) vv_X5_sign dX2_readClause_127 wg_576 ((hR.ln hb3 s7.1 s7.2.1 s7.2.2).1) rfl rfl rfl rfl (Nat.le_of_ble_eq_true rfl) (Nat.le_of_ble_eq_true rfl) (Nat.le_of_ble_eq_true rfl) (Nat.le_of_ble_eq_true rfl) ?_
            exact ww_vret dX2_readClause_130 rfl ⟨rfl, (by rw [clS_ow hr4 (by omega), hr7, bS_l]; exact ⟨_, hz7, rfl⟩)⟩
          · rw [hr7] at qo7
            have qo7 : _ = _ := qo7
            subst qo7
            have hf7 := owS_r (by omega) hr7
            refine ww_goto (tgt := 124) dX2_readClause_107 (by decide) ?_
            refine ww_aload_n dX2_readClause_124 rfl rfl ?_
            refine ww_bipush (v := nI 59) dX2_readClause_125 (by decide) ?_
            rcases hr8 : sgnS T n 59 a7 with ⟨k8, q8⟩ | ⟨a8, u8⟩
            · have hf8 := (sgnS_l hr8).1
              refine ww_cV0 (M := m_X2_readClause) (pc := 127) (h1 := rdS (lnS h b s7.1 s7.2.1 s7.2.2) n n k8 (nI q8)) (st := []) (d := 6) (bc := 0) (bs := 0) (c_Rd_sign_l hst (hR.ln hb3 s7.1 s7.2.1 s7.2.2) hB hn a7 (by omega) 59 (by omega) hr8) vv_X5_sign dX2_readClause_127 wg_576 ((hR.ln hb3 s7.1 s7.2.1 s7.2.2).1) rfl rfl rfl rfl (Nat.le_of_ble_eq_true rfl) (Nat.le_of_ble_eq_true rfl) (Nat.le_of_ble_eq_true rfl) (Nat.le_of_ble_eq_true rfl) ?_
              exact ww_vret dX2_readClause_130 rfl ⟨rfl, (by rw [clS_ow hr4 (by omega), hr7, bS_r, hr8, bS_l]; exact ⟨_, (LsI_ow (by omega) ⟨hs1, hs2, hs3⟩ hr7), rfl⟩)⟩
            · have hf8 := sgnS_r hr8
              have hg8 := sk_ge (T := T) (show a7 ≤ n by omega)
              refine ww_cV0 (M := m_X2_readClause) (pc := 127) (h1 := rdS (lnS h b s7.1 s7.2.1 s7.2.2) n a8 0 (-1)) (st := []) (d := 6) (bc := 0) (bs := 0) (c_Rd_sign_r hst (hR.ln hb3 s7.1 s7.2.1 s7.2.2) hB hn a7 (by omega) 59 (by omega) hr8) vv_X5_sign dX2_readClause_127 wg_576 ((hR.ln hb3 s7.1 s7.2.1 s7.2.2).1) rfl rfl rfl rfl (Nat.le_of_ble_eq_true rfl) (Nat.le_of_ble_eq_true rfl) (Nat.le_of_ble_eq_true rfl) (Nat.le_of_ble_eq_true rfl) ?_
              exact ww_vret dX2_readClause_130 rfl ⟨rfl, (by rw [clS_ow hr4 (by omega), hr7, bS_r, hr8, bS_r]; exact rfl)⟩
        · exact absurd c21 (by decide)
    · refine ww_cVr (M := m_X2_readClause) (pc := 8) (v := .int (nI 2)) (h1 := rdS (lnS h b np du f) n a4 0 (-1)) (st := []) (d := 6) (bc := 0) (bs := 0) (c_Rd_word_r hst (hR.ln hb3 np du f) hB hn a (by omega) 1 (by decide) (W := wLand) (fun ln => wfd_1 T _ ln) hr4) vv_X5_word dX2_readClause_8 wg_498 ((hR.ln hb3 np du f).1) rfl rfl rfl rfl (Nat.le_of_ble_eq_true rfl) (Nat.le_of_ble_eq_true rfl) (Nat.le_of_ble_eq_true rfl) (Nat.le_of_ble_eq_true rfl) ?_
      refine ww_sti (lv2 := [.ref b, .ref 1, .int (nI t), .int (nI a), .int (nI 2)]) dX2_readClause_11 rfl (by decide) rfl ?_
      refine ww_iload_n dX2_readClause_13 rfl rfl ?_
      refine ww_bipush (v := nI 60) dX2_readClause_14 (by decide) ?_
      refine ww_icmp_geN (tgt := 33) dX2_readClause_16 (by decide) (by omega) (by omega) (fun c16 => ?_) (fun c16 => ?_)
      · refine ww_aload_n dX2_readClause_33 rfl rfl ?_
        refine ww_iconst (v := nI 3) dX2_readClause_34 (by decide) ?_
        refine ww_iload_n dX2_readClause_35 rfl rfl ?_
        refine ww_cV0 (M := m_X2_readClause) (pc := 36) (h1 := rdS (lnS h b np du f) n n 3 (nI a)) (st := []) (d := 6) (bc := 0) (bs := 0) (c_Rd_fail0 hst (hR.ln hb3 np du f) hB hn a4 (-1) 3 (nI a)) vv_X5_fail dX2_readClause_36 wg_563 ((hR.ln hb3 np du f).1) rfl rfl rfl rfl (Nat.le_of_ble_eq_true rfl) (Nat.le_of_ble_eq_true rfl) (Nat.le_of_ble_eq_true rfl) (Nat.le_of_ble_eq_true rfl) ?_
        exact ww_vret dX2_readClause_39 rfl ⟨rfl, (by rw [clS_x hr4 (by omega), hka]; exact ⟨(np, du, f), ⟨by show np ≤ 6; omega, by show du ≤ 20; omega, hs3⟩, rfl⟩)⟩
      · refine ww_iload dX2_readClause_19 rfl ?_
        refine ww_if_neN (tgt := 40) dX2_readClause_21 (by decide) (by omega) (fun c21 => ?_) (fun c21 => ?_)
        · refine ww_iload dX2_readClause_40 rfl ?_
          refine ww_tableIn (off := 68) (tgt := 110) dX2_readClause_42 (by decide) (by decide) (by decide) (by decide) ?_
          refine ww_aload_n dX2_readClause_110 rfl rfl ?_
          refine ww_aload_n dX2_readClause_111 rfl rfl ?_
          refine ww_iconst (v := nI 0) dX2_readClause_112 (by decide) ?_
          refine ww_bipush (v := nI 20) dX2_readClause_113 (by decide) ?_
          rcases hr9 : figS T n 0 21 a4 with ⟨k9, q9⟩ | ⟨a9, v9⟩
          · have hf9 := (figS_l hr9).1
            refine ww_cVr (M := m_X2_readClause) (pc := 115) (v := .int (nI 0)) (h1 := rdS (lnS h b np du f) n n k9 (nI q9)) (st := [.ref b]) (d := 6) (bc := 0) (bs := 0) (c_Rd_fig_l hst (hR.ln hb3 np du f) hB hn a4 (by omega) 0 21 (nI 20) (by omega) (by omega) (hi_c 20 (by decide)) hr9) vv_X5_figure dX2_readClause_115 wg_564 ((hR.ln hb3 np du f).1) rfl rfl rfl rfl (Nat.le_of_ble_eq_true rfl) (Nat.le_of_ble_eq_true rfl) (Nat.le_of_ble_eq_true rfl) (Nat.le_of_ble_eq_true rfl) ?_
            refine ww_pfI tyX2 2 dX2_readClause_118 hb.1 rfl (by decide) inX2 tyX2_ok nmX2 wg_79 rfl rfl ?_
            refine ww_hp (h2 := rdS (lnS h b np 0 f) n n k9 (nI q9)) (ln_s2 hb3 _) ?_
            refine ww_goto (tgt := 124) dX2_readClause_121 (by decide) ?_
            refine ww_aload_n dX2_readClause_124 rfl rfl ?_
            refine ww_bipush (v := nI 59) dX2_readClause_125 (by decide) ?_
            refine ww_cV0 (M := m_X2_readClause) (pc := 127) (h1 := rdS (lnS h b np 0 f) n n k9 (nI q9)) (st := []) (d := 6) (bc := 0) (bs := 0) (c_Rd_sign_f hst (hR.ln hb3 np 0 f) hB hn k9 (by omega) (by omega) (nI q9) 59 (by omega)) vv_X5_sign dX2_readClause_127 wg_576 ((hR.ln hb3 np 0 f).1) rfl rfl rfl rfl (Nat.le_of_ble_eq_true rfl) (Nat.le_of_ble_eq_true rfl) (Nat.le_of_ble_eq_true rfl) (Nat.le_of_ble_eq_true rfl) ?_
            exact ww_vret dX2_readClause_130 rfl ⟨rfl, (by rw [clS_2 hr4 (by omega), hr9, bS_l]; exact ⟨(np, 0, f), ⟨by show np ≤ 6; omega, by show 0 ≤ 20; omega, hs3⟩, rfl⟩)⟩
          · have hf9 := figS_r (by omega) hr9
            have hg9 := sk_ge (T := T) (show a4 ≤ n by omega)
            refine ww_cVr (M := m_X2_readClause) (pc := 115) (v := .int (nI v9)) (h1 := rdS (lnS h b np du f) n a9 0 (-1)) (st := [.ref b]) (d := 6) (bc := 0) (bs := 0) (c_Rd_fig_r hst (hR.ln hb3 np du f) hB hn a4 (by omega) 0 21 (nI 20) (by omega) (by omega) (hi_c 20 (by decide)) hr9) vv_X5_figure dX2_readClause_115 wg_564 ((hR.ln hb3 np du f).1) rfl rfl rfl rfl (Nat.le_of_ble_eq_true rfl) (Nat.le_of_ble_eq_true rfl) (Nat.le_of_ble_eq_true rfl) (Nat.le_of_ble_eq_true rfl) ?_
            refine ww_pfI tyX2 2 dX2_readClause_118 hb.1 rfl (by decide) inX2 tyX2_ok nmX2 wg_79 rfl rfl ?_
            refine ww_hp (h2 := rdS (lnS h b np v9 f) n a9 0 (-1)) (ln_s2 hb3 _) ?_
            refine ww_goto (tgt := 124) dX2_readClause_121 (by decide) ?_
            refine ww_aload_n dX2_readClause_124 rfl rfl ?_
            refine ww_bipush (v := nI 59) dX2_readClause_125 (by decide) ?_
            rcases hr10 : sgnS T n 59 a9 with ⟨k10, q10⟩ | ⟨a10, u10⟩
            · have hf10 := (sgnS_l hr10).1
              refine ww_cV0 (M := m_X2_readClause) (pc := 127) (h1 := rdS (lnS h b np v9 f) n n k10 (nI q10)) (st := []) (d := 6) (bc := 0) (bs := 0) (c_Rd_sign_l hst (hR.ln hb3 np v9 f) hB hn a9 (by omega) 59 (by omega) hr10) vv_X5_sign dX2_readClause_127 wg_576 ((hR.ln hb3 np v9 f).1) rfl rfl rfl rfl (Nat.le_of_ble_eq_true rfl) (Nat.le_of_ble_eq_true rfl) (Nat.le_of_ble_eq_true rfl) (Nat.le_of_ble_eq_true rfl) ?_
              exact ww_vret dX2_readClause_130 rfl ⟨rfl, (by rw [clS_2 hr4 (by omega), hr9, bS_r, hr10, bS_l]; exact ⟨(np, v9, f), ⟨by show np ≤ 6; omega, by show v9 ≤ 20; omega, hs3⟩, rfl⟩)⟩
            · have hf10 := sgnS_r hr10
              have hg10 := sk_ge (T := T) (show a9 ≤ n by omega)
              refine ww_cV0 (M := m_X2_readClause) (pc := 127) (h1 := rdS (lnS h b np v9 f) n a10 0 (-1)) (st := []) (d := 6) (bc := 0) (bs := 0) (c_Rd_sign_r hst (hR.ln hb3 np v9 f) hB hn a9 (by omega) 59 (by omega) hr10) vv_X5_sign dX2_readClause_127 wg_576 ((hR.ln hb3 np v9 f).1) rfl rfl rfl rfl (Nat.le_of_ble_eq_true rfl) (Nat.le_of_ble_eq_true rfl) (Nat.le_of_ble_eq_true rfl) (Nat.le_of_ble_eq_true rfl) ?_
              exact ww_vret dX2_readClause_130 rfl ⟨rfl, (by rw [clS_2 hr4 (by omega), hr9, bS_r, hr10, bS_r]; exact rfl)⟩
        · exact absurd c21 (by decide)
