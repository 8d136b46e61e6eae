/-! ===== the book's text ===== -/
abbrev BKt : Type := Nat × (Nat → Int32) × (Nat → Int32)
def anF (q : Nat → Bool) : Nat → Nat → Bool
  | 0, _ => false
  | c + 1, i => if q i = true then true else anF q c (i + 1)
theorem anF_t {q : Nat → Bool} {c i : Nat} (h : q i = true) : anF q (c + 1) i = true := if_pos h
theorem anF_f {q : Nat → Bool} {c i : Nat} (h : ¬ q i = true) : anF q (c + 1) i = anF q c (i + 1) := if_neg h
def hdF (s : BKt) (v : Nat) : Bool := anF (fun i => s.2.1 i == nI v) s.1 0
def blS (T : Nat → Nat) (n : Nat) (s : BKt) (a : Nat) : PR BKt := bS (figS T n 0 61 a) (fun a1 v =>
  if hdF s v = true then .inl (2, sk T n a) else if 8 ≤ s.1 then .inl (3, sk T n a)
  else bS (figS T n 1 31 a1) (fun a2 t => bS (sgnS T n 59 a2) (fun a3 _ => .inr (a3, (s.1 + 1, upd s.2.1 s.1 (nI v), upd s.2.2 s.1 (nI t))))))
def bkL (T : Nat → Nat) (n : Nat) : Nat → BKt → Nat → PR BKt
  | 0, s, a => .inr (a, s)
  | c + 1, s, a => if sk T n a < n then bS (blS T n s (sk T n a)) (fun a1 s1 => bkL T n c s1 a1) else .inr (sk T n a, s)
theorem bkL_i {T : Nat → Nat} {n c : Nat} {s : BKt} {a : Nat} (hl : sk T n a < n) : bkL T n (c + 1) s a = bS (blS T n s (sk T n a)) (fun a1 s1 => bkL T n c s1 a1) := if_pos hl
theorem bkL_e {T : Nat → Nat} {n c : Nat} {s : BKt} {a : Nat} (hl : ¬ sk T n a < n) : bkL T n (c + 1) s a = .inr (sk T n a, s) := if_neg hl
theorem blS_l {T : Nat → Nat} {n : Nat} {s : BKt} {a : Nat} {e : Nat × Nat} (h : figS T n 0 61 a = .inl e) : blS T n s a = .inl e := by unfold blS; rw [h, bS_l]
theorem blS_2 {T : Nat → Nat} {n : Nat} {s : BKt} {a a1 v : Nat} (h : figS T n 0 61 a = .inr (a1, v)) (h2 : hdF s v = true) : blS T n s a = .inl (2, sk T n a) := by unfold blS; rw [h, bS_r, if_pos h2]
theorem blS_3 {T : Nat → Nat} {n : Nat} {s : BKt} {a a1 v : Nat} (h : figS T n 0 61 a = .inr (a1, v)) (h2 : hdF s v = false) (h3 : 8 ≤ s.1) : blS T n s a = .inl (3, sk T n a) := by unfold blS; rw [h, bS_r, h2, if_neg (by decide), if_pos h3]
theorem blS_r {T : Nat → Nat} {n : Nat} {s : BKt} {a a1 v : Nat} (h : figS T n 0 61 a = .inr (a1, v)) (h2 : hdF s v = false) (h3 : s.1 < 8) : blS T n s a = bS (figS T n 1 31 a1) (fun a2 t => bS (sgnS T n 59 a2) (fun a3 _ => .inr (a3, (s.1 + 1, upd s.2.1 s.1 (nI v), upd s.2.2 s.1 (nI t))))) := by unfold blS; rw [h, bS_r, h2, if_neg (by decide), if_neg (by omega)]
/-- numbers and times within their bounds -/
def BkG (s : BKt) : Prop := s.1 ≤ 8 ∧ (∀ i, i < s.1 → (∃ v, v ≤ 60 ∧ s.2.1 i = nI v) ∧ ∃ t, t ≤ 30 ∧ s.2.2 i = nI t)
theorem blS_k {T : Nat → Nat} {n : Nat} {s : BKt} {a k q : Nat} (ha : a ≤ n) (h : blS T n s a = .inl (k, q)) : 0 < k ∧ k < 10 ∧ q ≤ n := by
  have s1 := sk_le (T := T) ha
  unfold blS at h
  rcases h1 : figS T n 0 61 a with ⟨k1, q1⟩ | ⟨a1, v⟩
  · rw [h1, bS_l] at h; cases h; have := (figS_l h1).1; exact ⟨by omega, by omega, figS_lq ha h1⟩
  · rw [h1, bS_r] at h
    have e1 := figS_r ha h1
    split at h
    · cases h; exact ⟨by decide, by decide, s1⟩
    · split at h
      · cases h; exact ⟨by decide, by decide, s1⟩
      · rcases h2 : figS T n 1 31 a1 with ⟨k2, q2⟩ | ⟨a2, t⟩
        · rw [h2, bS_l] at h; cases h; have := (figS_l h2).1; exact ⟨by omega, by omega, figS_lq (by omega) h2⟩
        · rw [h2, bS_r] at h
          have e2 := figS_r (by omega) h2
          rcases h3 : sgnS T n 59 a2 with ⟨k3, q3⟩ | ⟨a3, u⟩
          · rw [h3, bS_l] at h; cases h; have := (sgnS_l h3).1; exact ⟨by omega, by omega, sgnS_lq (by omega) h3⟩
          · rw [h3, bS_r] at h; cases h
theorem blS_G {T : Nat → Nat} {n : Nat} {s s2 : BKt} {a b : Nat} (hs : BkG s) (ha : a ≤ n) (h : blS T n s a = .inr (b, s2)) : BkG s2 ∧ b ≤ n ∧ s.1 < 8 ∧ s2.1 = s.1 + 1 := by
  unfold blS at h
  rcases h1 : figS T n 0 61 a with ⟨k1, q1⟩ | ⟨a1, v⟩
  · rw [h1, bS_l] at h; cases h
  · rw [h1, bS_r] at h
    have e1 := figS_r ha h1
    split at h
    · cases h
    · split at h
      · cases h
      · rename_i h8
        rcases h2 : figS T n 1 31 a1 with ⟨k2, q2⟩ | ⟨a2, t⟩
        · rw [h2, bS_l] at h; cases h
        · rw [h2, bS_r] at h
          have e2 := figS_r (by omega) h2
          have g2 := sk_ge (T := T) e2.2.1
          rcases h3 : sgnS T n 59 a2 with ⟨k3, q3⟩ | ⟨a3, u⟩
          · rw [h3, bS_l] at h; cases h
          · rw [h3, bS_r] at h
            have e3 := sgnS_r h3
            cases h
            refine ⟨⟨by show s.1 + 1 ≤ 8; omega, fun i hi => ?_⟩, by omega, by omega, rfl⟩
            have hi2 : i < s.1 + 1 := hi
            show (∃ v', v' ≤ 60 ∧ upd s.2.1 s.1 (nI v) i = nI v') ∧ ∃ t', t' ≤ 30 ∧ upd s.2.2 s.1 (nI t) i = nI t'
            by_cases e : i = s.1
            · rw [e, pk_us, pk_us]; exact ⟨⟨v, by omega, rfl⟩, t, by omega, rfl⟩
            · rw [pk_un e, pk_un e]; exact hs.2 i (by omega)
def bkX (n c : Nat) (r : PR BKt) : Prop := match r with
  | .inl e => 0 < e.1 ∧ e.1 < 10 ∧ e.2 ≤ n
  | .inr x => BkG x.2 ∧ (x.1 = n ∨ c = 0)
theorem bkL_x {T : Nat → Nat} {n : Nat} : ∀ (c : Nat) (s : BKt) (a : Nat), BkG s → a ≤ n → s.1 + c = 9 → bkX n c (bkL T n c s a)
  | 0, s, a, hs, ha, _ => ⟨hs, Or.inr rfl⟩
  | c + 1, s, a, hs, ha, ht => by
    have hk := sk_le (T := T) ha
    by_cases hl : sk T n a < n
    · rw [bkL_i hl]
      rcases h1 : blS T n s (sk T n a) with ⟨k1, q1⟩ | ⟨a1, s1⟩
      · rw [bS_l]; exact blS_k hk h1
      · rw [bS_r]
        obtain ⟨e1, e2, e3, e4⟩ := blS_G hs hk h1
        have h2 := bkL_x (T := T) c s1 a1 e1 e2 (by omega)
        rcases h3 : bkL T n c s1 a1 with ⟨k3, q3⟩ | ⟨a3, s3⟩
        · rw [h3] at h2; exact h2
        · rw [h3] at h2
          refine ⟨h2.1, ?_⟩
          rcases h2.2 with e | e
          · exact Or.inl e
          · omega
    · rw [bkL_e hl]
      exact ⟨hs, Or.inl (by show sk T n a = n; omega)⟩
/-! the class: the book b, as read so far -/
def boS (h : PH) (b : Nat) (s : BKt) : PH := hp_sF (hp_sI (hp_sI h (b + 1) s.2.1) (b + 2) s.2.2) b 2 (.int (nI s.1))
def BoK (h : PH) (b : Nat) : Prop := hp_K h b = (1, 3) ∧ hp_K h (b + 1) = (20, 8) ∧ hp_K h (b + 2) = (20, 8) ∧ hp_F h b 0 = .ref (b + 1) ∧ hp_F h b 1 = .ref (b + 2) ∧ 2 < b
theorem boS_F (h : PH) (b : Nat) (s : BKt) (x j : Nat) : hp_F (boS h b s) x j = if x = b ∧ j = 2 then .int (nI s.1) else hp_F h x j := rfl
theorem boS_j {h : PH} {b : Nat} {s : BKt} {j : Nat} {v : Value} (hj : j ≠ 2) (e : hp_F h b j = v) : hp_F (boS h b s) b j = v := by rw [boS_F, if_neg (by omega)]; exact e
theorem boS_2 (h : PH) (b : Nat) (s : BKt) : hp_F (boS h b s) b 2 = .int (nI s.1) := by rw [boS_F, if_pos ⟨rfl, rfl⟩]
theorem boS_I (h : PH) (b : Nat) (s : BKt) (x : Nat) : hp_I (boS h b s) x = if x = b + 2 then s.2.2 else if x = b + 1 then s.2.1 else hp_I h x := rfl
theorem boS_n (h : PH) (b : Nat) (s : BKt) : hp_I (boS h b s) (b + 1) = s.2.1 := by rw [boS_I, if_neg (by omega), if_pos rfl]
theorem boS_t (h : PH) (b : Nat) (s : BKt) : hp_I (boS h b s) (b + 2) = s.2.2 := by rw [boS_I, if_pos rfl]
theorem boS_o {h : PH} {b : Nat} {s : BKt} {x j : Nat} {v : Value} (hx : x ≠ b) (e : hp_F h x j = v) : hp_F (boS h b s) x j = v := by rw [boS_F, if_neg (by omega)]; exact e
theorem RdK.bo {h : PH} {tf : Nat → Int32} (hR : RdK h tf) {b : Nat} (hb : 2 < b) (s : BKt) : RdK (boS h b s) tf :=
  ⟨hR.1, hR.2.1, boS_o (by omega) hR.2.2.1, by rw [boS_I, if_neg (by omega), if_neg (by omega)]; exact hR.2.2.2⟩
theorem bo_s1 (h : PH) (b : Nat) (s : BKt) (n a k : Nat) (pl : Int32) (g : Nat → Int32) : hp_sI (rdS (boS h b s) n a k pl) (b + 1) g = rdS (boS h b (s.1, g, s.2.2)) n a k pl := by
  refine hp_ext rfl (fun _ => rfl) (fun _ _ => rfl) (fun x => ?_) (fun _ => rfl)
  show (if x = b + 1 then g else hp_I (boS h b s) x) = hp_I (boS h b (s.1, g, s.2.2)) x
  rw [boS_I, boS_I]
  by_cases e : x = b + 1
  · rw [if_pos e, if_neg (by omega), if_pos e]
  · rw [if_neg e, if_neg e, if_neg e]
theorem bo_s2 (h : PH) (b : Nat) (s : BKt) (n a k : Nat) (pl : Int32) (g : Nat → Int32) : hp_sI (rdS (boS h b s) n a k pl) (b + 2) g = rdS (boS h b (s.1, s.2.1, g)) n a k pl := by
  refine hp_ext rfl (fun _ => rfl) (fun _ _ => rfl) (fun x => ?_) (fun _ => rfl)
  show (if x = b + 2 then g else hp_I (boS h b s) x) = hp_I (boS h b (s.1, s.2.1, g)) x
  rw [boS_I, boS_I]
  by_cases e : x = b + 2
  · rw [if_pos e, if_pos e]
  · rw [if_neg e, if_neg e, if_neg e]
theorem bo_s4 {h : PH} {b : Nat} {s : BKt} {n a k : Nat} {pl : Int32} (hb : 2 < b) (v : Nat) : hp_sF (rdS (boS h b s) n a k pl) b 2 (.int (nI v)) = rdS (boS h b (v, s.2.1, s.2.2)) n a k pl := by
  refine hp_ext rfl (fun _ => rfl) (fun x j => ?_) (fun _ => rfl) (fun _ => rfl)
  show (if x = b ∧ j = 2 then _ else hp_F (rdS (boS h b s) n a k pl) x j) = _
  rw [rdS_F, rdS_F, boS_F, boS_F]
  by_cases e : x = b ∧ j = 2
  · rw [if_pos e, if_neg (by omega), if_neg (by omega), if_neg (by omega), if_neg (by omega), if_pos e]
  · rw [if_neg e, if_neg e, if_neg e]
def BkO (h : PH) (b n : Nat) (r : PR BKt) (h9 : PH) : Prop := match r with
  | .inl e => ∃ s : BKt, s.1 ≤ 8 ∧ h9 = rdS (boS h b s) n n e.1 (nI e.2)
  | .inr x => h9 = rdS (boS h b x.2) n x.1 0 (-1)
def BookAt (h : PH) (b : Nat) (s : BKt) : Prop := hp_K h b = (1, 3) ∧ hp_K h (b + 1) = (20, 8) ∧ hp_K h (b + 2) = (20, 8) ∧ hp_F h b 0 = .ref (b + 1) ∧ hp_F h b 1 = .ref (b + 2) ∧ hp_F h b 2 = .int (nI s.1) ∧ hp_I h (b + 1) = s.2.1 ∧ hp_I h (b + 2) = s.2.2 ∧ s.1 ≤ 8
theorem boS_id {h : PH} {b : Nat} {s : BKt} (hW : BookAt h b s) : boS h b s = h := by
  refine hp_ext rfl (fun _ => rfl) (fun x j => ?_) (fun x => ?_) (fun _ => rfl)
  · rw [boS_F]
    by_cases e : x = b ∧ j = 2
    · rw [if_pos e, e.1, e.2]; exact hW.2.2.2.2.2.1.symm
    · rw [if_neg e]
  · rw [boS_I]
    by_cases e2 : x = b + 2
    · rw [if_pos e2, e2]; exact hW.2.2.2.2.2.2.2.1.symm
    · rw [if_neg e2]
      by_cases e1 : x = b + 1
      · rw [if_pos e1, e1]; exact hW.2.2.2.2.2.2.1.symm
      · rw [if_neg e1]
theorem BookAt.s11 {h : PH} {b : Nat} {s : BKt} {a j : Nat} {v : Value} (hW : BookAt h b s) (hb : b ≠ a) : BookAt (hp_sF h a j v) b s := by
  obtain ⟨a1, a2, a3, a4, a5, a6, a7⟩ := hW
  exact ⟨a1, a2, a3, hp_F_na hb a4, hp_F_na hb a5, hp_F_na hb a6, a7⟩
theorem BookAt.bor {h : PH} {b : Nat} {s s2 : BKt} (hW : BookAt h b s) (hb : b ≠ 1) (hL : s2.1 ≤ 8) (n a k : Nat) (pl : Int32) : BookAt (rdS (boS h b s2) n a k pl) b s2 := by
  obtain ⟨a1, a2, a3, a4, a5, a6, a7⟩ := hW
  exact ⟨a1, a2, a3, rdS_o _ _ _ _ hb (boS_j (by decide) a4), rdS_o _ _ _ _ hb (boS_j (by decide) a5), rdS_o _ _ _ _ hb (boS_2 h b s2), boS_n h b s2, boS_t h b s2, hL⟩
theorem Same.bo {X : Nat → Prop} {Y : Nat → Nat → Prop} {h h1 : PH} (a : Same X Y h h1) {b : Nat} (hX1 : X (b + 1)) (hX2 : X (b + 2)) (hY : Y b 2) (s : BKt) : Same X Y h (boS h1 b s) := by
  unfold boS
  exact ((a.sI hX1).sI hX2).sF hY
set_option maxHeartbeats 4000000 in
set_option maxRecDepth 100000 in
theorem l_Bo_holds {l : Launch} {Z : EE} (hst : l.stackTraces = false) {h : PH} {tf : Nat → Int32} (hR : RdK h tf) {T : Nat → Nat} (hB : BT tf T) {n : Nat} (hn : n ≤ 600) {b : Nat} (hb : BoK h b) (s : BKt) (hs : s.1 ≤ 8) (a k : Nat) (pl : Int32) (v : Nat) : ∀ (c i : Nat), i + c = s.1 → WW l Z m_X1_holds 0 0 0 2 [.ref b, .int (nI v), .int (nI i)] [] (rdS (boS h b s) n a k pl) (RT (some (.int (bI (anF (fun i => s.2.1 i == nI v) c i)))) (rdS (boS h b s) n a k pl)) := by
  have hb3 := hb.2.2.2.2.2
  intro c
  induction c with
  | zero =>
    intro i hi
    refine ww_iload_n dX1_holds_2 rfl rfl ?_
    refine ww_aload_n dX1_holds_3 rfl rfl ?_
    refine ww_get 2 dX1_holds_4 hb.1 rfl (by decide) inX1 wg_118 (rdS_o _ _ _ _ (by omega) (boS_2 h b s)) ?_
    refine ww_icmp_geN (tgt := 28) dX1_holds_7 (by decide) (by omega) (by omega) (fun c7 => ?_) (fun c7 => ?_)
    · refine ww_iconst (v := nI 0) dX1_holds_28 (by decide) ?_
      exact ww_zret dX1_holds_29 rfl (by first | rfl | exact nar_bI _) ⟨rfl, rfl⟩
    · exfalso; omega
  | succ c ih =>
    intro i hi
    refine ww_iload_n dX1_holds_2 rfl rfl ?_
    refine ww_aload_n dX1_holds_3 rfl rfl ?_
    refine ww_get 2 dX1_holds_4 hb.1 rfl (by decide) inX1 wg_118 (rdS_o _ _ _ _ (by omega) (boS_2 h b s)) ?_
    refine ww_icmp_geN (tgt := 28) dX1_holds_7 (by decide) (by omega) (by omega) (fun c7 => ?_) (fun c7 => ?_)
    · exfalso; omega
    · refine ww_aload_n dX1_holds_10 rfl rfl ?_
      refine ww_get 0 dX1_holds_11 hb.1 rfl (by decide) inX1 wg_116 (rdS_o _ _ _ _ (by omega) (boS_j (by decide) hb.2.2.2.1)) ?_
      refine ww_iload_n dX1_holds_14 rfl rfl ?_
      refine ww_ialdF dX1_holds_15 hb.2.1 (boS_n h b s) (by omega) (by omega) ?_
      refine ww_iload_n dX1_holds_16 rfl rfl ?_
      refine ww_icmp_ne (tgt := 22) dX1_holds_17 (by decide) (fun c17 => ?_) (fun c17 => ?_)
      · refine ww_incN (c := 1) (lv2 := [.ref b, .int (nI v), .int (nI (i + 1))]) dX1_holds_22 rfl rfl rfl (by decide) rfl ?_
        refine ww_goto (tgt := 2) dX1_holds_25 (by decide) ?_
        rw [anF_f (fun e => c17 (eq_of_beq e))]
        exact ih (i + 1) (by omega)
      · refine ww_iconst (v := nI 1) dX1_holds_20 (by decide) ?_
        exact ww_zret dX1_holds_21 rfl (by first | rfl | exact nar_bI _) ⟨(by rw [anF_t (show (s.2.1 i == nI v) = true from by rw [c17]; exact beq_self_eq_true _)]; rfl), rfl⟩
set_option maxHeartbeats 4000000 in
set_option maxRecDepth 100000 in
theorem c_Bo_holds {l : Launch} {Z : EE} (hst : l.stackTraces = false) {h : PH} {tf : Nat → Int32} (hR : RdK h tf) {T : Nat → Nat} (hB : BT tf T) {n : Nat} (hn : n ≤ 600) {b : Nat} (hb : BoK h b) (s : BKt) (hs : s.1 ≤ 8) (a k : Nat) (pl : Int32) (v : Nat) : CC l Z m_X1_holds 0 0 0 [.ref b, .int (nI v)] (rdS (boS h b s) n a k pl) (RT (some (.int (bI (hdF s v)))) (rdS (boS h b s) n a k pl)) := by
  refine ee_entry hst (by decide +kernel) rfl rfl (by simp [Value.category]) (Nat.le_of_ble_eq_true rfl) ?_
  refine ww_lv (lv2 := [.ref b, .int (nI v), UU]) rfl ?_
  refine ww_iconst (v := nI 0) dX1_holds_0 (by decide) ?_
  refine ww_sti_n (lv2 := [.ref b, .int (nI v), .int (nI 0)]) dX1_holds_1 rfl rfl (by decide) rfl ?_
  exact l_Bo_holds hst hR hB hn hb s hs a k pl v s.1 0 (by omega)
set_option maxHeartbeats 4000000 in
set_option maxRecDepth 100000 in
theorem c_Bo_line {l : Launch} {Z : EE} (hst : l.stackTraces = false) {h : PH} {tf : Nat → Int32} (hR : RdK h tf) {T : Nat → Nat} (hB : BT tf T) {n : Nat} (hn : n ≤ 600) {b : Nat} (hb : BoK h b) (a : Nat) (ha : a ≤ n) (hka : sk T n a = a) (s : BKt) (hs : s.1 ≤ 8) : CC l Z m_X1_readLine 3 0 0 [.ref b, .ref 1] (rdS (boS h b s) n a 0 (-1)) (RQ none (BkO h b n (blS T n s a))) := by
  refine ee_entry hst (by decide +kernel) rfl rfl (by simp [Value.category]) (Nat.le_of_ble_eq_true rfl) ?_
  refine ww_lv (lv2 := [.ref b, .ref 1, UU, UU]) rfl ?_
  have hb3 := hb.2.2.2.2.2
  refine ww_aload_n dX1_readLine_0 rfl rfl ?_
  refine ww_getN 3 dX1_readLine_1 ((hR.bo hb3 s).1) rfl (by decide) inX5 wn_44 (rdS_3 _ _ _ _ _) ?_
  refine ww_sti_n (lv2 := [.ref b, .ref 1, .int (nI a), UU]) dX1_readLine_4 rfl rfl (by decide) rfl ?_
  refine ww_aload_n dX1_readLine_5 rfl rfl ?_
  refine ww_iconst (v := nI 0) dX1_readLine_6 (by decide) ?_
  refine ww_bipush (v := nI 60) dX1_readLine_7 (by decide) ?_
  rcases hr1 : figS T n 0 61 a with ⟨k1, q1⟩ | ⟨a1, v1⟩
  · have hf1 := (figS_l hr1).1
    refine ww_cVr (M := m_X1_readLine) (pc := 9) (v := .int (nI 0)) (h1 := rdS (boS h b s) n n k1 (nI q1)) (st := []) (d := 3) (bc := 0) (bs := 0) (c_Rd_fig_l hst (hR.bo hb3 s) hB hn a (by omega) 0 61 (nI 60) (by omega) (by omega) (hi_c 60 (by decide)) hr1) vv_X5_figure dX1_readLine_9 wg_763 ((hR.bo hb3 s).1) rfl rfl rfl rfl (Nat.le_of_ble_eq_true rfl) (Nat.le_of_ble_eq_true rfl) (Nat.le_of_ble_eq_true rfl) (Nat.le_of_ble_eq_true rfl) ?_
    refine ww_sti_n (lv2 := [.ref b, .ref 1, .int (nI a), .int (nI 0)]) dX1_readLine_12 rfl rfl (by decide) rfl ?_
    refine ww_aload_n dX1_readLine_13 rfl rfl ?_
    refine ww_iload_n dX1_readLine_14 rfl rfl ?_
    refine ww_cVr (M := m_X1_readLine) (pc := 15) (v := .int (bI (hdF s 0))) (h1 := rdS (boS h b s) n n k1 (nI q1)) (st := []) (d := 3) (bc := 0) (bs := 0) (c_Bo_holds hst hR hB hn hb s (by omega) n k1 (nI q1) 0) vv_X1_holds dX1_readLine_15 wg_764 hb.1 rfl rfl rfl rfl (Nat.le_of_ble_eq_true rfl) (Nat.le_of_ble_eq_true rfl) (Nat.le_of_ble_eq_true rfl) (Nat.le_of_ble_eq_true rfl) ?_
    refine ww_if_eqB (tgt := 27) dX1_readLine_18 (by decide) (fun c18 => ?_) (fun c18 => ?_)
    · refine ww_aload_n dX1_readLine_27 rfl rfl ?_
      refine ww_get 2 dX1_readLine_28 hb.1 rfl (by decide) inX1 wg_118 (rdS_o _ _ _ _ (by omega) (boS_2 h b s)) ?_
      refine ww_bipush (v := nI 8) dX1_readLine_31 (by decide) ?_
      refine ww_icmp_ltN (tgt := 43) dX1_readLine_33 (by decide) (by omega) (by omega) (fun c33 => ?_) (fun c33 => ?_)
      · refine ww_aload_n dX1_readLine_43 rfl rfl ?_
        refine ww_get 0 dX1_readLine_44 hb.1 rfl (by decide) inX1 wg_116 (rdS_o _ _ _ _ (by omega) (boS_j (by decide) hb.2.2.2.1)) ?_
        refine ww_aload_n dX1_readLine_47 rfl rfl ?_
        refine ww_get 2 dX1_readLine_48 hb.1 rfl (by decide) inX1 wg_118 (rdS_o _ _ _ _ (by omega) (boS_2 h b s)) ?_
        refine ww_iload_n dX1_readLine_51 rfl rfl ?_
        refine ww_iastF dX1_readLine_52 hb.2.1 (boS_n h b s) (by omega) (by omega) ?_
        refine ww_hp (h2 := rdS (boS h b ((s.1, upd s.2.1 s.1 (nI 0), s.2.2))) n n k1 (nI q1)) (bo_s1 _ _ _ _ _ _ _ _) ?_
        refine ww_aload_n dX1_readLine_53 rfl rfl ?_
        refine ww_get 1 dX1_readLine_54 hb.1 rfl (by decide) inX1 wg_117 (rdS_o _ _ _ _ (by omega) (boS_j (by decide) hb.2.2.2.2.1)) ?_
        refine ww_aload_n dX1_readLine_57 rfl rfl ?_
        refine ww_get 2 dX1_readLine_58 hb.1 rfl (by decide) inX1 wg_118 (rdS_o _ _ _ _ (by omega) (boS_2 h b ((s.1, upd s.2.1 s.1 (nI 0), s.2.2)))) ?_
        refine ww_aload_n dX1_readLine_61 rfl rfl ?_
        refine ww_iconst (v := nI 1) dX1_readLine_62 (by decide) ?_
        refine ww_bipush (v := nI 30) dX1_readLine_63 (by decide) ?_
        refine ww_cVr (M := m_X1_readLine) (pc := 65) (v := .int (nI 1)) (h1 := rdS (boS h b ((s.1, upd s.2.1 s.1 (nI 0), s.2.2))) n n k1 (nI q1)) (st := [.int (nI (((s.1, upd s.2.1 s.1 (nI 0), s.2.2)).1)), .ref (b + 2)]) (d := 3) (bc := 0) (bs := 0) (c_Rd_fig_f hst (hR.bo hb3 ((s.1, upd s.2.1 s.1 (nI 0), s.2.2))) hB hn k1 (by omega) (by omega) (nI q1) 1 (nI 30)) vv_X5_figure dX1_readLine_65 wg_763 ((hR.bo hb3 ((s.1, upd s.2.1 s.1 (nI 0), s.2.2))).1) rfl rfl rfl rfl (Nat.le_of_ble_eq_true rfl) (Nat.le_of_ble_eq_true rfl) (Nat.le_of_ble_eq_true rfl) (Nat.le_of_ble_eq_true rfl) ?_
        refine ww_iastF dX1_readLine_68 hb.2.2.1 (boS_t h b ((s.1, upd s.2.1 s.1 (nI 0), s.2.2))) (by omega) (by omega) ?_
        refine ww_hp (h2 := rdS (boS h b ((((s.1, upd s.2.1 s.1 (nI 0), s.2.2)).1, ((s.1, upd s.2.1 s.1 (nI 0), s.2.2)).2.1, upd (((s.1, upd s.2.1 s.1 (nI 0), s.2.2)).2.2) (((s.1, upd s.2.1 s.1 (nI 0), s.2.2)).1) (nI 1)))) n n k1 (nI q1)) (bo_s2 _ _ _ _ _ _ _ _) ?_
        refine ww_aload_n dX1_readLine_69 rfl rfl ?_
        refine ww_dup dX1_readLine_70 rfl ?_
        refine ww_get 2 dX1_readLine_71 hb.1 rfl (by decide) inX1 wg_118 (rdS_o _ _ _ _ (by omega) (boS_2 h b ((((s.1, upd s.2.1 s.1 (nI 0), s.2.2)).1, ((s.1, upd s.2.1 s.1 (nI 0), s.2.2)).2.1, upd (((s.1, upd s.2.1 s.1 (nI 0), s.2.2)).2.2) (((s.1, upd s.2.1 s.1 (nI 0), s.2.2)).1) (nI 1))))) ?_
        refine ww_iconst (v := nI 1) dX1_readLine_74 (by decide) ?_
        refine ww_iaddN dX1_readLine_75 ?_
        refine ww_pfI tyX1 2 dX1_readLine_76 hb.1 rfl (by decide) inX1 tyX1_ok nmX1 wg_118 rfl rfl ?_
        refine ww_hp (h2 := rdS (boS h b (((((((s.1, upd s.2.1 s.1 (nI 0), s.2.2)).1, ((s.1, upd s.2.1 s.1 (nI 0), s.2.2)).2.1, upd (((s.1, upd s.2.1 s.1 (nI 0), s.2.2)).2.2) (((s.1, upd s.2.1 s.1 (nI 0), s.2.2)).1) (nI 1))).1) + 1, ((((s.1, upd s.2.1 s.1 (nI 0), s.2.2)).1, ((s.1, upd s.2.1 s.1 (nI 0), s.2.2)).2.1, upd (((s.1, upd s.2.1 s.1 (nI 0), s.2.2)).2.2) (((s.1, upd s.2.1 s.1 (nI 0), s.2.2)).1) (nI 1))).2.1, ((((s.1, upd s.2.1 s.1 (nI 0), s.2.2)).1, ((s.1, upd s.2.1 s.1 (nI 0), s.2.2)).2.1, upd (((s.1, upd s.2.1 s.1 (nI 0), s.2.2)).2.2) (((s.1, upd s.2.1 s.1 (nI 0), s.2.2)).1) (nI 1))).2.2))) n n k1 (nI q1)) (bo_s4 hb3 _) ?_
        refine ww_aload_n dX1_readLine_79 rfl rfl ?_
        refine ww_bipush (v := nI 59) dX1_readLine_80 (by decide) ?_
        refine ww_cV0 (M := m_X1_readLine) (pc := 82) (h1 := rdS (boS h b (((((((s.1, upd s.2.1 s.1 (nI 0), s.2.2)).1, ((s.1, upd s.2.1 s.1 (nI 0), s.2.2)).2.1, upd (((s.1, upd s.2.1 s.1 (nI 0), s.2.2)).2.2) (((s.1, upd s.2.1 s.1 (nI 0), s.2.2)).1) (nI 1))).1) + 1, ((((s.1, upd s.2.1 s.1 (nI 0), s.2.2)).1, ((s.1, upd s.2.1 s.1 (nI 0), s.2.2)).2.1, upd (((s.1, upd s.2.1 s.1 (nI 0), s.2.2)).2.2) (((s.1, upd s.2.1 s.1 (nI 0), s.2.2)).1) (nI 1))).2.1, ((((s.1, upd s.2.1 s.1 (nI 0), s.2.2)).1, ((s.1, upd s.2.1 s.1 (nI 0), s.2.2)).2.1, upd (((s.1, upd s.2.1 s.1 (nI 0), s.2.2)).2.2) (((s.1, upd s.2.1 s.1 (nI 0), s.2.2)).1) (nI 1))).2.2))) n n k1 (nI q1)) (st := []) (d := 3) (bc := 0) (bs := 0) (c_Rd_sign_f hst (hR.bo hb3 (((((((s.1, upd s.2.1 s.1 (nI 0), s.2.2)).1, ((s.1, upd s.2.1 s.1 (nI 0), s.2.2)).2.1, upd (((s.1, upd s.2.1 s.1 (nI 0), s.2.2)).2.2) (((s.1, upd s.2.1 s.1 (nI 0), s.2.2)).1) (nI 1))).1) + 1, ((((s.1, upd s.2.1 s.1 (nI 0), s.2.2)).1, ((s.1, upd s.2.1 s.1 (nI 0), s.2.2)).2.1, upd (((s.1, upd s.2.1 s.1 (nI 0), s.2.2)).2.2) (((s.1, upd s.2.1 s.1 (nI 0), s.2.2)).1) (nI 1))).2.1, ((((s.1, upd s.2.1 s.1 (nI 0), s.2.2)).1, ((s.1, upd s.2.1 s.1 (nI 0), s.2.2)).2.1, upd (((s.1, upd s.2.1 s.1 (nI 0), s.2.2)).2.2) (((s.1, upd s.2.1 s.1 (nI 0), s.2.2)).1) (nI 1))).2.2))) hB hn k1 (by omega) (by omega) (nI q1) 59 (by omega)) vv_X5_sign dX1_readLine_82 wg_769 ((hR.bo hb3 (((((((s.1, upd s.2.1 s.1 (nI 0), s.2.2)).1, ((s.1, upd s.2.1 s.1 (nI 0), s.2.2)).2.1, upd (((s.1, upd s.2.1 s.1 (nI 0), s.2.2)).2.2) (((s.1, upd s.2.1 s.1 (nI 0), s.2.2)).1) (nI 1))).1) + 1, ((((s.1, upd s.2.1 s.1 (nI 0), s.2.2)).1, ((s.1, upd s.2.1 s.1 (nI 0), s.2.2)).2.1, upd (((s.1, upd s.2.1 s.1 (nI 0), s.2.2)).2.2) (((s.1, upd s.2.1 s.1 (nI 0), s.2.2)).1) (nI 1))).2.1, ((((s.1, upd s.2.1 s.1 (nI 0), s.2.2)).1, ((s.1, upd s.2.1 s.1 (nI 0), s.2.2)).2.1, upd (((s.1, upd s.2.1 s.1 (nI 0), s.2.2)).2.2) (((s.1, upd s.2.1 s.1 (nI 0), s.2.2)).1) (nI 1))).2.2))).1) rfl rfl rfl rfl (Nat.le_of_ble_eq_true rfl) (Nat.le_of_ble_eq_true rfl) (Nat.le_of_ble_eq_true rfl) (Nat.le_of_ble_eq_true rfl) ?_
        exact ww_vret dX1_readLine_85 rfl ⟨rfl, (by rw [blS_l hr1]; exact ⟨((((((s.1, upd s.2.1 s.1 (nI 0), s.2.2)).1, ((s.1, upd s.2.1 s.1 (nI 0), s.2.2)).2.1, upd (((s.1, upd s.2.1 s.1 (nI 0), s.2.2)).2.2) (((s.1, upd s.2.1 s.1 (nI 0), s.2.2)).1) (nI 1))).1) + 1, ((((s.1, upd s.2.1 s.1 (nI 0), s.2.2)).1, ((s.1, upd s.2.1 s.1 (nI 0), s.2.2)).2.1, upd (((s.1, upd s.2.1 s.1 (nI 0), s.2.2)).2.2) (((s.1, upd s.2.1 s.1 (nI 0), s.2.2)).1) (nI 1))).2.1, ((((s.1, upd s.2.1 s.1 (nI 0), s.2.2)).1, ((s.1, upd s.2.1 s.1 (nI 0), s.2.2)).2.1, upd (((s.1, upd s.2.1 s.1 (nI 0), s.2.2)).2.2) (((s.1, upd s.2.1 s.1 (nI 0), s.2.2)).1) (nI 1))).2.2), by show s.1 + 1 ≤ 8; omega, rfl⟩)⟩
      · refine ww_aload_n dX1_readLine_36 rfl rfl ?_
        refine ww_iconst (v := nI 3) dX1_readLine_37 (by decide) ?_
        refine ww_iload_n dX1_readLine_38 rfl rfl ?_
        refine ww_cV0 (M := m_X1_readLine) (pc := 39) (h1 := rdS (boS h b s) n n k1 (nI q1)) (st := []) (d := 3) (bc := 0) (bs := 0) (c_Rd_fail1 hst (hR.bo hb3 s) hB hn n k1 (by omega) (by omega) (nI q1) 3 (nI a)) vv_X5_fail dX1_readLine_39 wg_768 ((hR.bo hb3 s).1) rfl rfl rfl rfl (Nat.le_of_ble_eq_true rfl) (Nat.le_of_ble_eq_true rfl) (Nat.le_of_ble_eq_true rfl) (Nat.le_of_ble_eq_true rfl) ?_
        exact ww_vret dX1_readLine_42 rfl ⟨rfl, (by rw [blS_l hr1]; exact ⟨s, by omega, rfl⟩)⟩
    · refine ww_aload_n dX1_readLine_21 rfl rfl ?_
      refine ww_iconst (v := nI 2) dX1_readLine_22 (by decide) ?_
      refine ww_iload_n dX1_readLine_23 rfl rfl ?_
      refine ww_cV0 (M := m_X1_readLine) (pc := 24) (h1 := rdS (boS h b s) n n k1 (nI q1)) (st := []) (d := 3) (bc := 0) (bs := 0) (c_Rd_fail1 hst (hR.bo hb3 s) hB hn n k1 (by omega) (by omega) (nI q1) 2 (nI a)) vv_X5_fail dX1_readLine_24 wg_768 ((hR.bo hb3 s).1) rfl rfl rfl rfl (Nat.le_of_ble_eq_true rfl) (Nat.le_of_ble_eq_true rfl) (Nat.le_of_ble_eq_true rfl) (Nat.le_of_ble_eq_true rfl) ?_
      refine ww_aload_n dX1_readLine_27 rfl rfl ?_
      refine ww_get 2 dX1_readLine_28 hb.1 rfl (by decide) inX1 wg_118 (rdS_o _ _ _ _ (by omega) (boS_2 h b s)) ?_
      refine ww_bipush (v := nI 8) dX1_readLine_31 (by decide) ?_
      refine ww_icmp_ltN (tgt := 43) dX1_readLine_33 (by decide) (by omega) (by omega) (fun c33 => ?_) (fun c33 => ?_)
      · refine ww_aload_n dX1_readLine_43 rfl rfl ?_
        refine ww_get 0 dX1_readLine_44 hb.1 rfl (by decide) inX1 wg_116 (rdS_o _ _ _ _ (by omega) (boS_j (by decide) hb.2.2.2.1)) ?_
        refine ww_aload_n dX1_readLine_47 rfl rfl ?_
        refine ww_get 2 dX1_readLine_48 hb.1 rfl (by decide) inX1 wg_118 (rdS_o _ _ _ _ (by omega) (boS_2 h b s)) ?_
        refine ww_iload_n dX1_readLine_51 rfl rfl ?_
        refine ww_iastF dX1_readLine_52 hb.2.1 (boS_n h b s) (by omega) (by omega) ?_
        refine ww_hp (h2 := rdS (boS h b ((s.1, upd s.2.1 s.1 (nI 0), s.2.2))) n n k1 (nI q1)) (bo_s1 _ _ _ _ _ _ _ _) ?_
        refine ww_aload_n dX1_readLine_53 rfl rfl ?_
        refine ww_get 1 dX1_readLine_54 hb.1 rfl (by decide) inX1 wg_117 (rdS_o _ _ _ _ (by omega) (boS_j (by decide) hb.2.2.2.2.1)) ?_
        refine ww_aload_n dX1_readLine_57 rfl rfl ?_
        refine ww_get 2 dX1_readLine_58 hb.1 rfl (by decide) inX1 wg_118 (rdS_o _ _ _ _ (by omega) (boS_2 h b ((s.1, upd s.2.1 s.1 (nI 0), s.2.2)))) ?_
        refine ww_aload_n dX1_readLine_61 rfl rfl ?_
        refine ww_iconst (v := nI 1) dX1_readLine_62 (by decide) ?_
        refine ww_bipush (v := nI 30) dX1_readLine_63 (by decide) ?_
        refine ww_cVr (M := m_X1_readLine) (pc := 65) (v := .int (nI 1)) (h1 := rdS (boS h b ((s.1, upd s.2.1 s.1 (nI 0), s.2.2))) n n k1 (nI q1)) (st := [.int (nI (((s.1, upd s.2.1 s.1 (nI 0), s.2.2)).1)), .ref (b + 2)]) (d := 3) (bc := 0) (bs := 0) (c_Rd_fig_f hst (hR.bo hb3 ((s.1, upd s.2.1 s.1 (nI 0), s.2.2))) hB hn k1 (by omega) (by omega) (nI q1) 1 (nI 30)) vv_X5_figure dX1_readLine_65 wg_763 ((hR.bo hb3 ((s.1, upd s.2.1 s.1 (nI 0), s.2.2))).1) rfl rfl rfl rfl (Nat.le_of_ble_eq_true rfl) (Nat.le_of_ble_eq_true rfl) (Nat.le_of_ble_eq_true rfl) (Nat.le_of_ble_eq_true rfl) ?_
        refine ww_iastF dX1_readLine_68 hb.2.2.1 (boS_t h b ((s.1, upd s.2.1 s.1 (nI 0), s.2.2))) (by omega) (by omega) ?_
        refine ww_hp (h2 := rdS (boS h b ((((s.1, upd s.2.1 s.1 (nI 0), s.2.2)).1, ((s.1, upd s.2.1 s.1 (nI 0), s.2.2)).2.1, upd (((s.1, upd s.2.1 s.1 (nI 0), s.2.2)).2.2) (((s.1, upd s.2.1 s.1 (nI 0), s.2.2)).1) (nI 1)))) n n k1 (nI q1)) (bo_s2 _ _ _ _ _ _ _ _) ?_
        refine ww_aload_n dX1_readLine_69 rfl rfl ?_
        refine ww_dup dX1_readLine_70 rfl ?_
        refine ww_get 2 dX1_readLine_71 hb.1 rfl (by decide) inX1 wg_118 (rdS_o _ _ _ _ (by omega) (boS_2 h b ((((s.1, upd s.2.1 s.1 (nI 0), s.2.2)).1, ((s.1, upd s.2.1 s.1 (nI 0), s.2.2)).2.1, upd (((s.1, upd s.2.1 s.1 (nI 0), s.2.2)).2.2) (((s.1, upd s.2.1 s.1 (nI 0), s.2.2)).1) (nI 1))))) ?_
        refine ww_iconst (v := nI 1) dX1_readLine_74 (by decide) ?_
        refine ww_iaddN dX1_readLine_75 ?_
        refine ww_pfI tyX1 2 dX1_readLine_76 hb.1 rfl (by decide) inX1 tyX1_ok nmX1 wg_118 rfl rfl ?_
        refine ww_hp (h2 := rdS (boS h b (((((((s.1, upd s.2.1 s.1 (nI 0), s.2.2)).1, ((s.1, upd s.2.1 s.1 (nI 0), s.2.2)).2.1, upd (((s.1, upd s.2.1 s.1 (nI 0), s.2.2)).2.2) (((s.1, upd s.2.1 s.1 (nI 0), s.2.2)).1) (nI 1))).1) + 1, ((((s.1, upd s.2.1 s.1 (nI 0), s.2.2)).1, ((s.1, upd s.2.1 s.1 (nI 0), s.2.2)).2.1, upd (((s.1, upd s.2.1 s.1 (nI 0), s.2.2)).2.2) (((s.1, upd s.2.1 s.1 (nI 0), s.2.2)).1) (nI 1))).2.1, ((((s.1, upd s.2.1 s.1 (nI 0), s.2.2)).1, ((s.1, upd s.2.1 s.1 (nI 0), s.2.2)).2.1, upd (((s.1, upd s.2.1 s.1 (nI 0), s.2.2)).2.2) (((s.1, upd s.2.1 s.1 (nI 0), s.2.2)).1) (nI 1))).2.2))) n n k1 (nI q1)) (bo_s4 hb3 _) ?_
        refine ww_aload_n dX1_readLine_79 rfl rfl ?_
        refine ww_bipush (v := nI 59) dX1_readLine_80 (by decide) ?_
        refine ww_cV0 (M := m_X1_readLine) (pc := 82) (h1 := rdS (boS h b (((((((s.1, upd s.2.1 s.1 (nI 0), s.2.2)).1, ((s.1, upd s.2.1 s.1 (nI 0), s.2.2)).2.1, upd (((s.1, upd s.2.1 s.1 (nI 0), s.2.2)).2.2) (((s.1, upd s.2.1 s.1 (nI 0), s.2.2)).1) (nI 1))).1) + 1, ((((s.1, upd s.2.1 s.1 (nI 0), s.2.2)).1, ((s.1, upd s.2.1 s.1 (nI 0), s.2.2)).2.1, upd (((s.1, upd s.2.1 s.1 (nI 0), s.2.2)).2.2) (((s.1, upd s.2.1 s.1 (nI 0), s.2.2)).1) (nI 1))).2.1, ((((s.1, upd s.2.1 s.1 (nI 0), s.2.2)).1, ((s.1, upd s.2.1 s.1 (nI 0), s.2.2)).2.1, upd (((s.1, upd s.2.1 s.1 (nI 0), s.2.2)).2.2) (((s.1, upd s.2.1 s.1 (nI 0), s.2.2)).1) (nI 1))).2.2))) n n k1 (nI q1)) (st := []) (d := 3) (bc := 0) (bs := 0) (c_Rd_sign_f hst (hR.bo hb3 (((((((s.1, upd s.2.1 s.1 (nI 0), s.2.2)).1, ((s.1, upd s.2.1 s.1 (nI 0), s.2.2)).2.1, upd (((s.1, upd s.2.1 s.1 (nI 0), s.2.2)).2.2) (((s.1, upd s.2.1 s.1 (nI 0), s.2.2)).1) (nI 1))).1) + 1, ((((s.1, upd s.2.1 s.1 (nI 0), s.2.2)).1, ((s.1, upd s.2.1 s.1 (nI 0), s.2.2)).2.1, upd (((s.1, upd s.2.1 s.1 (nI 0), s.2.2)).2.2) (((s.1, upd s.2.1 s.1 (nI 0), s.2.2)).1) (nI 1))).2.1, ((((s.1, upd s.2.1 s.1 (nI 0), s.2.2)).1, ((s.1, upd s.2.1 s.1 (nI 0), s.2.2)).2.1, upd (((s.1, upd s.2.1 s.1 (nI 0), s.2.2)).2.2) (((s.1, upd s.2.1 s.1 (nI 0), s.2.2)).1) (nI 1))).2.2))) hB hn k1 (by omega) (by omega) (nI q1) 59 (by omega)) vv_X5_sign dX1_readLine_82 wg_769 ((hR.bo hb3 (((((((s.1, upd s.2.1 s.1 (nI 0), s.2.2)).1, ((s.1, upd s.2.1 s.1 (nI 0), s.2.2)).2.1, upd (((s.1, upd s.2.1 s.1 (nI 0), s.2.2)).2.2) (((s.1, upd s.2.1 s.1 (nI 0), s.2.2)).1) (nI 1))).1) + 1, ((((s.1, upd s.2.1 s.1 (nI 0), s.2.2)).1, ((s.1, upd s.2.1 s.1 (nI 0), s.2.2)).2.1, upd (((s.1, upd s.2.1 s.1 (nI 0), s.2.2)).2.2) (((s.1, upd s.2.1 s.1 (nI 0), s.2.2)).1) (nI 1))).2.1, ((((s.1, upd s.2.1 s.1 (nI 0), s.2.2)).1, ((s.1, upd s.2.1 s.1 (nI 0), s.2.2)).2.1, upd (((s.1, upd s.2.1 s.1 (nI 0), s.2.2)).2.2) (((s.1, upd s.2.1 s.1 (nI 0), s.2.2)).1) (nI 1))).2.2))).1) rfl rfl rfl rfl (Nat.le_of_ble_eq_true rfl) (Nat.le_of_ble_eq_true rfl) (Nat.le_of_ble_eq_true rfl) (Nat.le_of_ble_eq_true rfl) ?_
        exact ww_vret dX1_readLine_85 rfl ⟨rfl, (by rw [blS_l hr1]; exact ⟨((((((s.1, upd s.2.1 s.1 (nI 0), s.2.2)).1, ((s.1, upd s.2.1 s.1 (nI 0), s.2.2)).2.1, upd (((s.1, upd s.2.1 s.1 (nI 0), s.2.2)).2.2) (((s.1, upd s.2.1 s.1 (nI 0), s.2.2)).1) (nI 1))).1) + 1, ((((s.1, upd s.2.1 s.1 (nI 0), s.2.2)).1, ((s.1, upd s.2.1 s.1 (nI 0), s.2.2)).2.1, upd (((s.1, upd s.2.1 s.1 (nI 0), s.2.2)).2.2) (((s.1, upd s.2.1 s.1 (nI 0), s.2.2)).1) (nI 1))).2.1, ((((s.1, upd s.2.1 s.1 (nI 0), s.2.2)).1, ((s.1, upd s.2.1 s.1 (nI 0), s.2.2)).2.1, upd (((s.1, upd s.2.1 s.1 (nI 0), s.2.2)).2.2) (((s.1, upd s.2.1 s.1 (nI 0), s.2.2)).1) (nI 1))).2.2), by show s.1 + 1 ≤ 8; omega, rfl⟩)⟩
      · refine ww_aload_n dX1_readLine_36 rfl rfl ?_
        refine ww_iconst (v := nI 3) dX1_readLine_37 (by decide) ?_
        refine ww_iload_n dX1_readLine_38 rfl rfl ?_
        refine ww_cV0 (M := m_X1_readLine) (pc := 39) (h1 := rdS (boS h b s) n n k1 (nI q1)) (st := []) (d := 3) (bc := 0) (bs := 0) (c_Rd_fail1 hst (hR.bo hb3 s) hB hn n k1 (by omega) (by omega) (nI q1) 3 (nI a)) vv_X5_fail dX1_readLine_39 wg_768 ((hR.bo hb3 s).1) rfl rfl rfl rfl (Nat.le_of_ble_eq_true rfl) (Nat.le_of_ble_eq_true rfl) (Nat.le_of_ble_eq_true rfl) (Nat.le_of_ble_eq_true rfl) ?_
        exact ww_vret dX1_readLine_42 rfl ⟨rfl, (by rw [blS_l hr1]; exact ⟨s, by omega, rfl⟩)⟩
  · have hf1 := figS_r (by omega) hr1
    have hg1 := sk_ge (T := T) (show a ≤ n by omega)
    refine ww_cVr (M := m_X1_readLine) (pc := 9) (v := .int (nI v1)) (h1 := rdS (boS h b s) n a1 0 (-1)) (st := []) (d := 3) (bc := 0) (bs := 0) (c_Rd_fig_r hst (hR.bo hb3 s) hB hn a (by omega) 0 61 (nI 60) (by omega) (by omega) (hi_c 60 (by decide)) hr1) vv_X5_figure dX1_readLine_9 wg_763 ((hR.bo hb3 s).1) rfl rfl rfl rfl (Nat.le_of_ble_eq_true rfl) (Nat.le_of_ble_eq_true rfl) (Nat.le_of_ble_eq_true rfl) (Nat.le_of_ble_eq_true rfl) ?_
    refine ww_sti_n (lv2 := [.ref b, .ref 1, .int (nI a), .int (nI v1)]) dX1_readLine_12 rfl rfl (by decide) rfl ?_
    refine ww_aload_n dX1_readLine_13 rfl rfl ?_
    refine ww_iload_n dX1_readLine_14 rfl rfl ?_
    refine ww_cVr (M := m_X1_readLine) (pc := 15) (v := .int (bI (hdF s v1))) (h1 := rdS (boS h b s) n a1 0 (-1)) (st := []) (d := 3) (bc := 0) (bs := 0) (c_Bo_holds hst hR hB hn hb s (by omega) a1 0 (-1) v1) vv_X1_holds dX1_readLine_15 wg_764 hb.1 rfl rfl rfl rfl (Nat.le_of_ble_eq_true rfl) (Nat.le_of_ble_eq_true rfl) (Nat.le_of_ble_eq_true rfl) (Nat.le_of_ble_eq_true rfl) ?_
    refine ww_if_eqB (tgt := 27) dX1_readLine_18 (by decide) (fun c18 => ?_) (fun c18 => ?_)
    · refine ww_aload_n dX1_readLine_27 rfl rfl ?_
      refine ww_get 2 dX1_readLine_28 hb.1 rfl (by decide) inX1 wg_118 (rdS_o _ _ _ _ (by omega) (boS_2 h b s)) ?_
      refine ww_bipush (v := nI 8) dX1_readLine_31 (by decide) ?_
      refine ww_icmp_ltN (tgt := 43) dX1_readLine_33 (by decide) (by omega) (by omega) (fun c33 => ?_) (fun c33 => ?_)
      · refine ww_aload_n dX1_readLine_43 rfl rfl ?_
        refine ww_get 0 dX1_readLine_44 hb.1 rfl (by decide) inX1 wg_116 (rdS_o _ _ _ _ (by omega) (boS_j (by decide) hb.2.2.2.1)) ?_
        refine ww_aload_n dX1_readLine_47 rfl rfl ?_
        refine ww_get 2 dX1_readLine_48 hb.1 rfl (by decide) inX1 wg_118 (rdS_o _ _ _ _ (by omega) (boS_2 h b s)) ?_
        refine ww_iload_n dX1_readLine_51 rfl rfl ?_
        refine ww_iastF dX1_readLine_52 hb.2.1 (boS_n h b s) (by omega) (by omega) ?_
        refine ww_hp (h2 := rdS (boS h b ((s.1, upd s.2.1 s.1 (nI v1), s.2.2))) n a1 0 (-1)) (bo_s1 _ _ _ _ _ _ _ _) ?_
        refine ww_aload_n dX1_readLine_53 rfl rfl ?_
        refine ww_get 1 dX1_readLine_54 hb.1 rfl (by decide) inX1 wg_117 (rdS_o _ _ _ _ (by omega) (boS_j (by decide) hb.2.2.2.2.1)) ?_
        refine ww_aload_n dX1_readLine_57 rfl rfl ?_
        refine ww_get 2 dX1_readLine_58 hb.1 rfl (by decide) inX1 wg_118 (rdS_o _ _ _ _ (by omega) (boS_2 h b ((s.1, upd s.2.1 s.1 (nI v1), s.2.2)))) ?_
        refine ww_aload_n dX1_readLine_61 rfl rfl ?_
        refine ww_iconst (v := nI 1) dX1_readLine_62 (by decide) ?_
        refine ww_bipush (v := nI 30) dX1_readLine_63 (by decide) ?_
        rcases hr2 : figS T n 1 31 a1 with ⟨k2, q2⟩ | ⟨a2, v2⟩
        · have hf2 := (figS_l hr2).1
          refine ww_cVr (M := m_X1_readLine) (pc := 65) (v := .int (nI 1)) (h1 := rdS (boS h b ((s.1, upd s.2.1 s.1 (nI v1), s.2.2))) n n k2 (nI q2)) (st := [.int (nI (((s.1, upd s.2.1 s.1 (nI v1), s.2.2)).1)), .ref (b + 2)]) (d := 3) (bc := 0) (bs := 0) (c_Rd_fig_l hst (hR.bo hb3 ((s.1, upd s.2.1 s.1 (nI v1), s.2.2))) hB hn a1 (by omega) 1 31 (nI 30) (by omega) (by omega) (hi_c 30 (by decide)) hr2) vv_X5_figure dX1_readLine_65 wg_763 ((hR.bo hb3 ((s.1, upd s.2.1 s.1 (nI v1), s.2.2))).1) rfl rfl rfl rfl (Nat.le_of_ble_eq_true rfl) (Nat.le_of_ble_eq_true rfl) (Nat.le_of_ble_eq_true rfl) (Nat.le_of_ble_eq_true rfl) ?_
          refine ww_iastF dX1_readLine_68 hb.2.2.1 (boS_t h b ((s.1, upd s.2.1 s.1 (nI v1), s.2.2))) (by omega) (by omega) ?_
          refine ww_hp (h2 := rdS (boS h b ((((s.1, upd s.2.1 s.1 (nI v1), s.2.2)).1, ((s.1, upd s.2.1 s.1 (nI v1), s.2.2)).2.1, upd (((s.1, upd s.2.1 s.1 (nI v1), s.2.2)).2.2) (((s.1, upd s.2.1 s.1 (nI v1), s.2.2)).1) (nI 1)))) n n k2 (nI q2)) (bo_s2 _ _ _ _ _ _ _ _) ?_
          refine ww_aload_n dX1_readLine_69 rfl rfl ?_
          refine ww_dup dX1_readLine_70 rfl ?_
          refine ww_get 2 dX1_readLine_71 hb.1 rfl (by decide) inX1 wg_118 (rdS_o _ _ _ _ (by omega) (boS_2 h b ((((s.1, upd s.2.1 s.1 (nI v1), s.2.2)).1, ((s.1, upd s.2.1 s.1 (nI v1), s.2.2)).2.1, upd (((s.1, upd s.2.1 s.1 (nI v1), s.2.2)).2.2) (((s.1, upd s.2.1 s.1 (nI v1), s.2.2)).1) (nI 1))))) ?_
          refine ww_iconst (v := nI 1) dX1_readLine_74 (by decide) ?_
          refine ww_iaddN dX1_readLine_75 ?_
          refine ww_pfI tyX1 2 dX1_readLine_76 hb.1 rfl (by decide) inX1 tyX1_ok nmX1 wg_118 rfl rfl ?_
          refine ww_hp (h2 := rdS (boS h b (((((((s.1, upd s.2.1 s.1 (nI v1), s.2.2)).1, ((s.1, upd s.2.1 s.1 (nI v1), s.2.2)).2.1, upd (((s.1, upd s.2.1 s.1 (nI v1), s.2.2)).2.2) (((s.1, upd s.2.1 s.1 (nI v1), s.2.2)).1) (nI 1))).1) + 1, ((((s.1, upd s.2.1 s.1 (nI v1), s.2.2)).1, ((s.1, upd s.2.1 s.1 (nI v1), s.2.2)).2.1, upd (((s.1, upd s.2.1 s.1 (nI v1), s.2.2)).2.2) (((s.1, upd s.2.1 s.1 (nI v1), s.2.2)).1) (nI 1))).2.1, ((((s.1, upd s.2.1 s.1 (nI v1), s.2.2)).1, ((s.1, upd s.2.1 s.1 (nI v1), s.2.2)).2.1, upd (((s.1, upd s.2.1 s.1 (nI v1), s.2.2)).2.2) (((s.1, upd s.2.1 s.1 (nI v1), s.2.2)).1) (nI 1))).2.2))) n n k2 (nI q2)) (bo_s4 hb3 _) ?_
          refine ww_aload_n dX1_readLine_79 rfl rfl ?_
          refine ww_bipush (v := nI 59) dX1_readLine_80 (by decide) ?_
          refine ww_cV0 (M := m_X1_readLine) (pc := 82) (h1 := rdS (boS h b (((((((s.1, upd s.2.1 s.1 (nI v1), s.2.2)).1, ((s.1, upd s.2.1 s.1 (nI v1), s.2.2)).2.1, upd (((s.1, upd s.2.1 s.1 (nI v1), s.2.2)).2.2) (((s.1, upd s.2.1 s.1 (nI v1), s.2.2)).1) (nI 1))).1) + 1, ((((s.1, upd s.2.1 s.1 (nI v1), s.2.2)).1, ((s.1, upd s.2.1 s.1 (nI v1), s.2.2)).2.1, upd (((s.1, upd s.2.1 s.1 (nI v1), s.2.2)).2.2) (((s.1, upd s.2.1 s.1 (nI v1), s.2.2)).1) (nI 1))).2.1, ((((s.1, upd s.2.1 s.1 (nI v1), s.2.2)).1, ((s.1, upd s.2.1 s.1 (nI v1), s.2.2)).2.1, upd (((s.1, upd s.2.1 s.1 (nI v1), s.2.2)).2.2) (((s.1, upd s.2.1 s.1 (nI v1), s.2.2)).1) (nI 1))).2.2))) n n k2 (nI q2)) (st := []) (d := 3) (bc := 0) (bs := 0) (c_Rd_sign_f hst (hR.bo hb3 (((((((s.1, upd s.2.1 s.1 (nI v1), s.2.2)).1, ((s.1, upd s.2.1 s.1 (nI v1), s.2.2)).2.1, upd (((s.1, upd s.2.1 s.1 (nI v1), s.2.2)).2.2) (((s.1, upd s.2.1 s.1 (nI v1), s.2.2)).1) (nI 1))).1) + 1, ((((s.1, upd s.2.1 s.1 (nI v1), s.2.2)).1, ((s.1, upd s.2.1 s.1 (nI v1), s.2.2)).2.1, upd (((s.1, upd s.2.1 s.1 (nI v1), s.2.2)).2.2) (((s.1, upd s.2.1 s.1 (nI v1), s.2.2)).1) (nI 1))).2.1, ((((s.1, upd s.2.1 s.1 (nI v1), s.2.2)).1, ((s.1, upd s.2.1 s.1 (nI v1), s.2.2)).2.1, upd (((s.1, upd s.2.1 s.1 (nI v1), s.2.2)).2.2) (((s.1, upd s.2.1 s.1 (nI v1), s.2.2)).1) (nI 1))).2.2))) hB hn k2 (by omega) (by omega) (nI q2) 59 (by omega)) vv_X5_sign dX1_readLine_82 wg_769 ((hR.bo hb3 (((((((s.1, upd s.2.1 s.1 (nI v1), s.2.2)).1, ((s.1, upd s.2.1 s.1 (nI v1), s.2.2)).2.1, upd (((s.1, upd s.2.1 s.1 (nI v1), s.2.2)).2.2) (((s.1, upd s.2.1 s.1 (nI v1), s.2.2)).1) (nI 1))).1) + 1, ((((s.1, upd s.2.1 s.1 (nI v1), s.2.2)).1, ((s.1, upd s.2.1 s.1 (nI v1), s.2.2)).2.1, upd (((s.1, upd s.2.1 s.1 (nI v1), s.2.2)).2.2) (((s.1, upd s.2.1 s.1 (nI v1), s.2.2)).1) (nI 1))).2.1, ((((s.1, upd s.2.1 s.1 (nI v1), s.2.2)).1, ((s.1, upd s.2.1 s.1 (nI v1), s.2.2)).2.1, upd (((s.1, upd s.2.1 s.1 (nI v1), s.2.2)).2.2) (((s.1, upd s.2.1 s.1 (nI v1), s.2.2)).1) (nI 1))).2.2))).1) rfl rfl rfl rfl (Nat.le_of_ble_eq_true rfl) (Nat.le_of_ble_eq_true rfl) (Nat.le_of_ble_eq_true rfl) (Nat.le_of_ble_eq_true rfl) ?_
          exact ww_vret dX1_readLine_85 rfl ⟨rfl, (by rw [blS_r hr1 c18 (by omega), hr2, bS_l]; exact ⟨((((((s.1, upd s.2.1 s.1 (nI v1), s.2.2)).1, ((s.1, upd s.2.1 s.1 (nI v1), s.2.2)).2.1, upd (((s.1, upd s.2.1 s.1 (nI v1), s.2.2)).2.2) (((s.1, upd s.2.1 s.1 (nI v1), s.2.2)).1) (nI 1))).1) + 1, ((((s.1, upd s.2.1 s.1 (nI v1), s.2.2)).1, ((s.1, upd s.2.1 s.1 (nI v1), s.2.2)).2.1, upd (((s.1, upd s.2.1 s.1 (nI v1), s.2.2)).2.2) (((s.1, upd s.2.1 s.1 (nI v1), s.2.2)).1) (nI 1))).2.1, ((((s.1, upd s.2.1 s.1 (nI v1), s.2.2)).1, ((s.1, upd s.2.1 s.1 (nI v1), s.2.2)).2.1, upd (((s.1, upd s.2.1 s.1 (nI v1), s.2.2)).2.2) (((s.1, upd s.2.1 s.1 (nI v1), s.2.2)).1) (nI 1))).2.2), by show s.1 + 1 ≤ 8; omega, rfl⟩)⟩
        · have hf2 := figS_r (by omega) hr2
          have hg2 := sk_ge (T := T) (show a1 ≤ n by omega)
          refine ww_cVr (M := m_X1_readLine) (pc := 65) (v := .int (nI v2)) (h1 := rdS (boS h b ((s.1, upd s.2.1 s.1 (nI v1), s.2.2))) n a2 0 (-1)) (st := [.int (nI (((s.1, upd s.2.1 s.1 (nI v1), s.2.2)).1)), .ref (b + 2)]) (d := 3) (bc := 0) (bs := 0) (c_Rd_fig_r hst (hR.bo hb3 ((s.1, upd s.2.1 s.1 (nI v1), s.2.2))) hB hn a1 (by omega) 1 31 (nI 30) (by omega) (by omega) (hi_c 30 (by decide)) hr2) vv_X5_figure dX1_readLine_65 wg_763 ((hR.bo hb3 ((s.1, upd s.2.1 s.1 (nI v1), s.2.2))).1) rfl rfl rfl rfl (Nat.le_of_ble_eq_true rfl) (Nat.le_of_ble_eq_true rfl) (Nat.le_of_ble_eq_true rfl) (Nat.le_of_ble_eq_true rfl) ?_
          refine ww_iastF dX1_readLine_68 hb.2.2.1 (boS_t h b ((s.1, upd s.2.1 s.1 (nI v1), s.2.2))) (by omega) (by omega) ?_
          refine ww_hp (h2 := rdS (boS h b ((((s.1, upd s.2.1 s.1 (nI v1), s.2.2)).1, ((s.1, upd s.2.1 s.1 (nI v1), s.2.2)).2.1, upd (((s.1, upd s.2.1 s.1 (nI v1), s.2.2)).2.2) (((s.1, upd s.2.1 s.1 (nI v1), s.2.2)).1) (nI v2)))) n a2 0 (-1)) (bo_s2 _ _ _ _ _ _ _ _) ?_
          refine ww_aload_n dX1_readLine_69 rfl rfl ?_
          refine ww_dup dX1_readLine_70 rfl ?_
          refine ww_get 2 dX1_readLine_71 hb.1 rfl (by decide) inX1 wg_118 (rdS_o _ _ _ _ (by omega) (boS_2 h b ((((s.1, upd s.2.1 s.1 (nI v1), s.2.2)).1, ((s.1, upd s.2.1 s.1 (nI v1), s.2.2)).2.1, upd (((s.1, upd s.2.1 s.1 (nI v1), s.2.2)).2.2) (((s.1, upd s.2.1 s.1 (nI v1), s.2.2)).1) (nI v2))))) ?_
          refine ww_iconst (v := nI 1) dX1_readLine_74 (by decide) ?_
          refine ww_iaddN dX1_readLine_75 ?_
          refine ww_pfI tyX1 2 dX1_readLine_76 hb.1 rfl (by decide) inX1 tyX1_ok nmX1 wg_118 rfl rfl ?_
          refine ww_hp (h2 := rdS (boS h b (((((((s.1, upd s.2.1 s.1 (nI v1), s.2.2)).1, ((s.1, upd s.2.1 s.1 (nI v1), s.2.2)).2.1, upd (((s.1, upd s.2.1 s.1 (nI v1), s.2.2)).2.2) (((s.1, upd s.2.1 s.1 (nI v1), s.2.2)).1) (nI v2))).1) + 1, ((((s.1, upd s.2.1 s.1 (nI v1), s.2.2)).1, ((s.1, upd s.2.1 s.1 (nI v1), s.2.2)).2.1, upd (((s.1, upd s.2.1 s.1 (nI v1), s.2.2)).2.2) (((s.1, upd s.2.1 s.1 (nI v1), s.2.2)).1) (nI v2))).2.1, ((((s.1, upd s.2.1 s.1 (nI v1), s.2.2)).1, ((s.1, upd s.2.1 s.1 (nI v1), s.2.2)).2.1, upd (((s.1, upd s.2.1 s.1 (nI v1), s.2.2)).2.2) (((s.1, upd s.2.1 s.1 (nI v1), s.2.2)).1) (nI v2))).2.2))) n a2 0 (-1)) (bo_s4 hb3 _) ?_
          refine ww_aload_n dX1_readLine_79 rfl rfl ?_
          refine ww_bipush (v := nI 59) dX1_readLine_80 (by decide) ?_
          rcases hr3 : sgnS T n 59 a2 with ⟨k3, q3⟩ | ⟨a3, u3⟩
          · have hf3 := (sgnS_l hr3).1
            refine ww_cV0 (M := m_X1_readLine) (pc := 82) (h1 := rdS (boS h b (((((((s.1, upd s.2.1 s.1 (nI v1), s.2.2)).1, ((s.1, upd s.2.1 s.1 (nI v1), s.2.2)).2.1, upd (((s.1, upd s.2.1 s.1 (nI v1), s.2.2)).2.2) (((s.1, upd s.2.1 s.1 (nI v1), s.2.2)).1) (nI v2))).1) + 1, ((((s.1, upd s.2.1 s.1 (nI v1), s.2.2)).1, ((s.1, upd s.2.1 s.1 (nI v1), s.2.2)).2.1, upd (((s.1, upd s.2.1 s.1 (nI v1), s.2.2)).2.2) (((s.1, upd s.2.1 s.1 (nI v1), s.2.2)).1) (nI v2))).2.1, ((((s.1, upd s.2.1 s.1 (nI v1), s.2.2)).1, ((s.1, upd s.2.1 s.1 (nI v1), s.2.2)).2.1, upd (((s.1, upd s.2.1 s.1 (nI v1), s.2.2)).2.2) (((s.1, upd s.2.1 s.1 (nI v1), s.2.2)).1) (nI v2))).2.2))) n n k3 (nI q3)) (st := []) (d := 3) (bc := 0) (bs := 0) (c_Rd_sign_l hst (hR.bo hb3 (((((((s.1, upd s.2.1 s.1 (nI v1), s.2.2)).1, ((s.1, upd s.2.1 s.1 (nI v1), s.2.2)).2.1, upd (((s.1, upd s.2.1 s.1 (nI v1), s.2.2)).2.2) (((s.1, upd s.2.1 s.1 (nI v1), s.2.2)).1) (nI v2))).1) + 1, ((((s.1, upd s.2.1 s.1 (nI v1), s.2.2)).1, ((s.1, upd s.2.1 s.1 (nI v1), s.2.2)).2.1, upd (((s.1, upd s.2.1 s.1 (nI v1), s.2.2)).2.2) (((s.1, upd s.2.1 s.1 (nI v1), s.2.2)).1) (nI v2))).2.1, ((((s.1, upd s.2.1 s.1 (nI v1), s.2.2)).1, ((s.1, upd s.2.1 s.1 (nI v1), s.2.2)).2.1, upd (((s.1, upd s.2.1 s.1 (nI v1), s.2.2)).2.2) (((s.1, upd s.2.1 s.1 (nI v1), s.2.2)).1) (nI v2))).2.2))) hB hn a2 (by omega) 59 (by omega) hr3) vv_X5_sign dX1_readLine_82 wg_769 ((hR.bo hb3 (((((((s.1, upd s.2.1 s.1 (nI v1), s.2.2)).1, ((s.1, upd s.2.1 s.1 (nI v1), s.2.2)).2.1, upd (((s.1, upd s.2.1 s.1 (nI v1), s.2.2)).2.2) (((s.1, upd s.2.1 s.1 (nI v1), s.2.2)).1) (nI v2))).1) + 1, ((((s.1, upd s.2.1 s.1 (nI v1), s.2.2)).1, ((s.1, upd s.2.1 s.1 (nI v1), s.2.2)).2.1, upd (((s.1, upd s.2.1 s.1 (nI v1), s.2.2)).2.2) (((s.1, upd s.2.1 s.1 (nI v1), s.2.2)).1) (nI v2))).2.1, ((((s.1, upd s.2.1 s.1 (nI v1), s.2.2)).1, ((s.1, upd s.2.1 s.1 (nI v1), s.2.2)).2.1, upd (((s.1, upd s.2.1 s.1 (nI v1), s.2.2)).2.2) (((s.1, upd s.2.1 s.1 (nI v1), s.2.2)).1) (nI v2))).2.2))).1) rfl rfl rfl rfl (Nat.le_of_ble_eq_true rfl) (Nat.le_of_ble_eq_true rfl) (Nat.le_of_ble_eq_true rfl) (Nat.le_of_ble_eq_true rfl) ?_
            exact ww_vret dX1_readLine_85 rfl ⟨rfl, (by rw [blS_r hr1 c18 (by omega), hr2, bS_r, hr3, bS_l]; exact ⟨((((((s.1, upd s.2.1 s.1 (nI v1), s.2.2)).1, ((s.1, upd s.2.1 s.1 (nI v1), s.2.2)).2.1, upd (((s.1, upd s.2.1 s.1 (nI v1), s.2.2)).2.2) (((s.1, upd s.2.1 s.1 (nI v1), s.2.2)).1) (nI v2))).1) + 1, ((((s.1, upd s.2.1 s.1 (nI v1), s.2.2)).1, ((s.1, upd s.2.1 s.1 (nI v1), s.2.2)).2.1, upd (((s.1, upd s.2.1 s.1 (nI v1), s.2.2)).2.2) (((s.1, upd s.2.1 s.1 (nI v1), s.2.2)).1) (nI v2))).2.1, ((((s.1, upd s.2.1 s.1 (nI v1), s.2.2)).1, ((s.1, upd s.2.1 s.1 (nI v1), s.2.2)).2.1, upd (((s.1, upd s.2.1 s.1 (nI v1), s.2.2)).2.2) (((s.1, upd s.2.1 s.1 (nI v1), s.2.2)).1) (nI v2))).2.2), by show s.1 + 1 ≤ 8; omega, rfl⟩)⟩
          · have hf3 := sgnS_r hr3
            have hg3 := sk_ge (T := T) (show a2 ≤ n by omega)
            refine ww_cV0 (M := m_X1_readLine) (pc := 82) (h1 := rdS (boS h b (((((((s.1, upd s.2.1 s.1 (nI v1), s.2.2)).1, ((s.1, upd s.2.1 s.1 (nI v1), s.2.2)).2.1, upd (((s.1, upd s.2.1 s.1 (nI v1), s.2.2)).2.2) (((s.1, upd s.2.1 s.1 (nI v1), s.2.2)).1) (nI v2))).1) + 1, ((((s.1, upd s.2.1 s.1 (nI v1), s.2.2)).1, ((s.1, upd s.2.1 s.1 (nI v1), s.2.2)).2.1, upd (((s.1, upd s.2.1 s.1 (nI v1), s.2.2)).2.2) (((s.1, upd s.2.1 s.1 (nI v1), s.2.2)).1) (nI v2))).2.1, ((((s.1, upd s.2.1 s.1 (nI v1), s.2.2)).1, ((s.1, upd s.2.1 s.1 (nI v1), s.2.2)).2.1, upd (((s.1, upd s.2.1 s.1 (nI v1), s.2.2)).2.2) (((s.1, upd s.2.1 s.1 (nI v1), s.2.2)).1) (nI v2))).2.2))) n a3 0 (-1)) (st := []) (d := 3) (bc := 0) (bs := 0) (c_Rd_sign_r hst (hR.bo hb3 (((((((s.1, upd s.2.1 s.1 (nI v1), s.2.2)).1, ((s.1, upd s.2.1 s.1 (nI v1), s.2.2)).2.1, upd (((s.1, upd s.2.1 s.1 (nI v1), s.2.2)).2.2) (((s.1, upd s.2.1 s.1 (nI v1), s.2.2)).1) (nI v2))).1) + 1, ((((s.1, upd s.2.1 s.1 (nI v1), s.2.2)).1, ((s.1, upd s.2.1 s.1 (nI v1), s.2.2)).2.1, upd (((s.1, upd s.2.1 s.1 (nI v1), s.2.2)).2.2) (((s.1, upd s.2.1 s.1 (nI v1), s.2.2)).1) (nI v2))).2.1, ((((s.1, upd s.2.1 s.1 (nI v1), s.2.2)).1, ((s.1, upd s.2.1 s.1 (nI v1), s.2.2)).2.1, upd (((s.1, upd s.2.1 s.1 (nI v1), s.2.2)).2.2) (((s.1, upd s.2.1 s.1 (nI v1), s.2.2)).1) (nI v2))).2.2))) hB hn a2 (by omega) 59 (by omega) hr3) vv_X5_sign dX1_readLine_82 wg_769 ((hR.bo hb3 (((((((s.1, upd s.2.1 s.1 (nI v1), s.2.2)).1, ((s.1, upd s.2.1 s.1 (nI v1), s.2.2)).2.1, upd (((s.1, upd s.2.1 s.1 (nI v1), s.2.2)).2.2) (((s.1, upd s.2.1 s.1 (nI v1), s.2.2)).1) (nI v2))).1) + 1, ((((s.1, upd s.2.1 s.1 (nI v1), s.2.2)).1, ((s.1, upd s.2.1 s.1 (nI v1), s.2.2)).2.1, upd (((s.1, upd s.2.1 s.1 (nI v1), s.2.2)).2.2) (((s.1, upd s.2.1 s.1 (nI v1), s.2.2)).1) (nI v2))).2.1, ((((s.1, upd s.2.1 s.1 (nI v1), s.2.2)).1, ((s.1, upd s.2.1 s.1 (nI v1), s.2.2)).2.1, upd (((s.1, upd s.2.1 s.1 (nI v1), s.2.2)).2.2) (((s.1, upd s.2.1 s.1 (nI v1), s.2.2)).1) (nI v2))).2.2))).1) rfl rfl rfl rfl (Nat.le_of_ble_eq_true rfl) (Nat.le_of_ble_eq_true rfl) (Nat.le_of_ble_eq_true rfl) (Nat.le_of_ble_eq_true rfl) ?_
            exact ww_vret dX1_readLine_85 rfl ⟨rfl, (by rw [blS_r hr1 c18 (by omega), hr2, bS_r, hr3, bS_r]; exact rfl)⟩
      · refine ww_aload_n dX1_readLine_36 rfl rfl ?_
        refine ww_iconst (v := nI 3) dX1_readLine_37 (by decide) ?_
        refine ww_iload_n dX1_readLine_38 rfl rfl ?_
        refine ww_cV0 (M := m_X1_readLine) (pc := 39) (h1 := rdS (boS h b s) n n 3 (nI a)) (st := []) (d := 3) (bc := 0) (bs := 0) (c_Rd_fail0 hst (hR.bo hb3 s) hB hn a1 (-1) 3 (nI a)) vv_X5_fail dX1_readLine_39 wg_768 ((hR.bo hb3 s).1) rfl rfl rfl rfl (Nat.le_of_ble_eq_true rfl) (Nat.le_of_ble_eq_true rfl) (Nat.le_of_ble_eq_true rfl) (Nat.le_of_ble_eq_true rfl) ?_
        exact ww_vret dX1_readLine_42 rfl ⟨rfl, (by rw [blS_3 hr1 c18 (by omega), hka]; exact ⟨s, by omega, rfl⟩)⟩
    · refine ww_aload_n dX1_readLine_21 rfl rfl ?_
      refine ww_iconst (v := nI 2) dX1_readLine_22 (by decide) ?_
      refine ww_iload_n dX1_readLine_23 rfl rfl ?_
      refine ww_cV0 (M := m_X1_readLine) (pc := 24) (h1 := rdS (boS h b s) n n 2 (nI a)) (st := []) (d := 3) (bc := 0) (bs := 0) (c_Rd_fail0 hst (hR.bo hb3 s) hB hn a1 (-1) 2 (nI a)) vv_X5_fail dX1_readLine_24 wg_768 ((hR.bo hb3 s).1) rfl rfl rfl rfl (Nat.le_of_ble_eq_true rfl) (Nat.le_of_ble_eq_true rfl) (Nat.le_of_ble_eq_true rfl) (Nat.le_of_ble_eq_true rfl) ?_
      refine ww_aload_n dX1_readLine_27 rfl rfl ?_
      refine ww_get 2 dX1_readLine_28 hb.1 rfl (by decide) inX1 wg_118 (rdS_o _ _ _ _ (by omega) (boS_2 h b s)) ?_
      refine ww_bipush (v := nI 8) dX1_readLine_31 (by decide) ?_
      refine ww_icmp_ltN (tgt := 43) dX1_readLine_33 (by decide) (by omega) (by omega) (fun c33 => ?_) (fun c33 => ?_)
      · refine ww_aload_n dX1_readLine_43 rfl rfl ?_
        refine ww_get 0 dX1_readLine_44 hb.1 rfl (by decide) inX1 wg_116 (rdS_o _ _ _ _ (by omega) (boS_j (by decide) hb.2.2.2.1)) ?_
        refine ww_aload_n dX1_readLine_47 rfl rfl ?_
        refine ww_get 2 dX1_readLine_48 hb.1 rfl (by decide) inX1 wg_118 (rdS_o _ _ _ _ (by omega) (boS_2 h b s)) ?_
        refine ww_iload_n dX1_readLine_51 rfl rfl ?_
        refine ww_iastF dX1_readLine_52 hb.2.1 (boS_n h b s) (by omega) (by omega) ?_
        refine ww_hp (h2 := rdS (boS h b ((s.1, upd s.2.1 s.1 (nI v1), s.2.2))) n n 2 (nI a)) (bo_s1 _ _ _ _ _ _ _ _) ?_
        refine ww_aload_n dX1_readLine_53 rfl rfl ?_
        refine ww_get 1 dX1_readLine_54 hb.1 rfl (by decide) inX1 wg_117 (rdS_o _ _ _ _ (by omega) (boS_j (by decide) hb.2.2.2.2.1)) ?_
        refine ww_aload_n dX1_readLine_57 rfl rfl ?_
        refine ww_get 2 dX1_readLine_58 hb.1 rfl (by decide) inX1 wg_118 (rdS_o _ _ _ _ (by omega) (boS_2 h b ((s.1, upd s.2.1 s.1 (nI v1), s.2.2)))) ?_
        refine ww_aload_n dX1_readLine_61 rfl rfl ?_
        refine ww_iconst (v := nI 1) dX1_readLine_62 (by decide) ?_
        refine ww_bipush (v := nI 30) dX1_readLine_63 (by decide) ?_
        refine ww_cVr (M := m_X1_readLine) (pc := 65) (v := .int (nI 1)) (h1 := rdS (boS h b ((s.1, upd s.2.1 s.1 (nI v1), s.2.2))) n n 2 (nI a)) (st := [.int (nI (((s.1, upd s.2.1 s.1 (nI v1), s.2.2)).1)), .ref (b + 2)]) (d := 3) (bc := 0) (bs := 0) (c_Rd_fig_f hst (hR.bo hb3 ((s.1, upd s.2.1 s.1 (nI v1), s.2.2))) hB hn 2 (by omega) (by omega) (nI a) 1 (nI 30)) vv_X5_figure dX1_readLine_65 wg_763 ((hR.bo hb3 ((s.1, upd s.2.1 s.1 (nI v1), s.2.2))).1) rfl rfl rfl rfl (Nat.le_of_ble_eq_true rfl) (Nat.le_of_ble_eq_true rfl) (Nat.le_of_ble_eq_true rfl) (Nat.le_of_ble_eq_true rfl) ?_
        refine ww_iastF dX1_readLine_68 hb.2.2.1 (boS_t h b ((s.1, upd s.2.1 s.1 (nI v1), s.2.2))) (by omega) (by omega) ?_
        refine ww_hp (h2 := rdS (boS h b ((((s.1, upd s.2.1 s.1 (nI v1), s.2.2)).1, ((s.1, upd s.2.1 s.1 (nI v1), s.2.2)).2.1, upd (((s.1, upd s.2.1 s.1 (nI v1), s.2.2)).2.2) (((s.1, upd s.2.1 s.1 (nI v1), s.2.2)).1) (nI 1)))) n n 2 (nI a)) (bo_s2 _ _ _ _ _ _ _ _) ?_
        refine ww_aload_n dX1_readLine_69 rfl rfl ?_
        refine ww_dup dX1_readLine_70 rfl ?_
        refine ww_get 2 dX1_readLine_71 hb.1 rfl (by decide) inX1 wg_118 (rdS_o _ _ _ _ (by omega) (boS_2 h b ((((s.1, upd s.2.1 s.1 (nI v1), s.2.2)).1, ((s.1, upd s.2.1 s.1 (nI v1), s.2.2)).2.1, upd (((s.1, upd s.2.1 s.1 (nI v1), s.2.2)).2.2) (((s.1, upd s.2.1 s.1 (nI v1), s.2.2)).1) (nI 1))))) ?_
        refine ww_iconst (v := nI 1) dX1_readLine_74 (by decide) ?_
        refine ww_iaddN dX1_readLine_75 ?_
        refine ww_pfI tyX1 2 dX1_readLine_76 hb.1 rfl (by decide) inX1 tyX1_ok nmX1 wg_118 rfl rfl ?_
        refine ww_hp (h2 := rdS (boS h b (((((((s.1, upd s.2.1 s.1 (nI v1), s.2.2)).1, ((s.1, upd s.2.1 s.1 (nI v1), s.2.2)).2.1, upd (((s.1, upd s.2.1 s.1 (nI v1), s.2.2)).2.2) (((s.1, upd s.2.1 s.1 (nI v1), s.2.2)).1) (nI 1))).1) + 1, ((((s.1, upd s.2.1 s.1 (nI v1), s.2.2)).1, ((s.1, upd s.2.1 s.1 (nI v1), s.2.2)).2.1, upd (((s.1, upd s.2.1 s.1 (nI v1), s.2.2)).2.2) (((s.1, upd s.2.1 s.1 (nI v1), s.2.2)).1) (nI 1))).2.1, ((((s.1, upd s.2.1 s.1 (nI v1), s.2.2)).1, ((s.1, upd s.2.1 s.1 (nI v1), s.2.2)).2.1, upd (((s.1, upd s.2.1 s.1 (nI v1), s.2.2)).2.2) (((s.1, upd s.2.1 s.1 (nI v1), s.2.2)).1) (nI 1))).2.2))) n n 2 (nI a)) (bo_s4 hb3 _) ?_
        refine ww_aload_n dX1_readLine_79 rfl rfl ?_
        refine ww_bipush (v := nI 59) dX1_readLine_80 (by decide) ?_
        refine ww_cV0 (M := m_X1_readLine) (pc := 82) (h1 := rdS (boS h b (((((((s.1, upd s.2.1 s.1 (nI v1), s.2.2)).1, ((s.1, upd s.2.1 s.1 (nI v1), s.2.2)).2.1, upd (((s.1, upd s.2.1 s.1 (nI v1), s.2.2)).2.2) (((s.1, upd s.2.1 s.1 (nI v1), s.2.2)).1) (nI 1))).1) + 1, ((((s.1, upd s.2.1 s.1 (nI v1), s.2.2)).1, ((s.1, upd s.2.1 s.1 (nI v1), s.2.2)).2.1, upd (((s.1, upd s.2.1 s.1 (nI v1), s.2.2)).2.2) (((s.1, upd s.2.1 s.1 (nI v1), s.2.2)).1) (nI 1))).2.1, ((((s.1, upd s.2.1 s.1 (nI v1), s.2.2)).1, ((s.1, upd s.2.1 s.1 (nI v1), s.2.2)).2.1, upd (((s.1, upd s.2.1 s.1 (nI v1), s.2.2)).2.2) (((s.1, upd s.2.1 s.1 (nI v1), s.2.2)).1) (nI 1))).2.2))) n n 2 (nI a)) (st := []) (d := 3) (bc := 0) (bs := 0) (c_Rd_sign_f hst (hR.bo hb3 (((((((s.1, upd s.2.1 s.1 (nI v1), s.2.2)).1, ((s.1, upd s.2.1 s.1 (nI v1), s.2.2)).2.1, upd (((s.1, upd s.2.1 s.1 (nI v1), s.2.2)).2.2) (((s.1, upd s.2.1 s.1 (nI v1), s.2.2)).1) (nI 1))).1) + 1, ((((s.1, upd s.2.1 s.1 (nI v1), s.2.2)).1, ((s.1, upd s.2.1 s.1 (nI v1), s.2.2)).2.1, upd (((s.1, upd s.2.1 s.1 (nI v1), s.2.2)).2.2) (((s.1, upd s.2.1 s.1 (nI v1), s.2.2)).1) (nI 1))).2.1, ((((s.1, upd s.2.1 s.1 (nI v1), s.2.2)).1, ((s.1, upd s.2.1 s.1 (nI v1), s.2.2)).2.1, upd (((s.1, upd s.2.1 s.1 (nI v1), s.2.2)).2.2) (((s.1, upd s.2.1 s.1 (nI v1), s.2.2)).1) (nI 1))).2.2))) hB hn 2 (by omega) (by omega) (nI a) 59 (by omega)) vv_X5_sign dX1_readLine_82 wg_769 ((hR.bo hb3 (((((((s.1, upd s.2.1 s.1 (nI v1), s.2.2)).1, ((s.1, upd s.2.1 s.1 (nI v1), s.2.2)).2.1, upd (((s.1, upd s.2.1 s.1 (nI v1), s.2.2)).2.2) (((s.1, upd s.2.1 s.1 (nI v1), s.2.2)).1) (nI 1))).1) + 1, ((((s.1, upd s.2.1 s.1 (nI v1), s.2.2)).1, ((s.1, upd s.2.1 s.1 (nI v1), s.2.2)).2.1, upd (((s.1, upd s.2.1 s.1 (nI v1), s.2.2)).2.2) (((s.1, upd s.2.1 s.1 (nI v1), s.2.2)).1) (nI 1))).2.1, ((((s.1, upd s.2.1 s.1 (nI v1), s.2.2)).1, ((s.1, upd s.2.1 s.1 (nI v1), s.2.2)).2.1, upd (((s.1, upd s.2.1 s.1 (nI v1), s.2.2)).2.2) (((s.1, upd s.2.1 s.1 (nI v1), s.2.2)).1) (nI 1))).2.2))).1) rfl rfl rfl rfl (Nat.le_of_ble_eq_true rfl) (Nat.le_of_ble_eq_true rfl) (Nat.le_of_ble_eq_true rfl) (Nat.le_of_ble_eq_true rfl) ?_
        exact ww_vret dX1_readLine_85 rfl ⟨rfl, (by rw [blS_2 hr1 c18, hka]; exact ⟨((((((s.1, upd s.2.1 s.1 (nI v1), s.2.2)).1, ((s.1, upd s.2.1 s.1 (nI v1), s.2.2)).2.1, upd (((s.1, upd s.2.1 s.1 (nI v1), s.2.2)).2.2) (((s.1, upd s.2.1 s.1 (nI v1), s.2.2)).1) (nI 1))).1) + 1, ((((s.1, upd s.2.1 s.1 (nI v1), s.2.2)).1, ((s.1, upd s.2.1 s.1 (nI v1), s.2.2)).2.1, upd (((s.1, upd s.2.1 s.1 (nI v1), s.2.2)).2.2) (((s.1, upd s.2.1 s.1 (nI v1), s.2.2)).1) (nI 1))).2.1, ((((s.1, upd s.2.1 s.1 (nI v1), s.2.2)).1, ((s.1, upd s.2.1 s.1 (nI v1), s.2.2)).2.1, upd (((s.1, upd s.2.1 s.1 (nI v1), s.2.2)).2.2) (((s.1, upd s.2.1 s.1 (nI v1), s.2.2)).1) (nI 1))).2.2), by show s.1 + 1 ≤ 8; omega, rfl⟩)⟩
      · refine ww_aload_n dX1_readLine_36 rfl rfl ?_
        refine ww_iconst (v := nI 3) dX1_readLine_37 (by decide) ?_
        refine ww_iload_n dX1_readLine_38 rfl rfl ?_
        refine ww_cV0 (M := m_X1_readLine) (pc := 39) (h1 := rdS (boS h b s) n n 2 (nI a)) (st := []) (d := 3) (bc := 0) (bs := 0) (c_Rd_fail1 hst (hR.bo hb3 s) hB hn n 2 (by omega) (by omega) (nI a) 3 (nI a)) vv_X5_fail dX1_readLine_39 wg_768 ((hR.bo hb3 s).1) rfl rfl rfl rfl (Nat.le_of_ble_eq_true rfl) (Nat.le_of_ble_eq_true rfl) (Nat.le_of_ble_eq_true rfl) (Nat.le_of_ble_eq_true rfl) ?_
        exact ww_vret dX1_readLine_42 rfl ⟨rfl, (by rw [blS_2 hr1 c18, hka]; exact ⟨s, by omega, rfl⟩)⟩
set_option maxHeartbeats 4000000 in
set_option maxRecDepth 100000 in
theorem l_Bo_read_r {l : Launch} {Z : EE} (hst : l.stackTraces = false) {h : PH} {tf : Nat → Int32} (hR : RdK h tf) {T : Nat → Nat} (hB : BT tf T) {n : Nat} (hn : n ≤ 600) {b : Nat} (hb : BoK h b) {a9 : Nat} {s9 : BKt} : ∀ (c i : Nat) (s : BKt) (a : Nat), i = s.1 → s.1 + c = 9 → BkG s → a ≤ n → bkL T n c s a = .inr (a9, s9) → WW l Z m_X1_read 4 0 0 7 [.ref b, .ref 1, .int (nI i)] [] (rdS (boS h b s) n a 0 (-1)) (RT (some (.int (nI 1))) (rdS (boS h b s9) n n 0 (-1))) := by
  have hb3 := hb.2.2.2.2.2
  intro c
  induction c with
  | zero =>
    intro i s a hi hc hs ha hr
    have h9 := hs.1
    omega
  | succ c ih =>
    intro i s a hi hc hs ha hr
    have hs8 := hs.1
    refine ww_iload_n dX1_read_7 rfl rfl ?_
    refine ww_bipush (v := nI 8) dX1_read_8 (by decide) ?_
    refine ww_icmp_gtN (tgt := 32) dX1_read_10 (by decide) (by omega) (by omega) (fun c10 => ?_) (fun c10 => ?_)
    · exfalso; omega
    · refine ww_aload_n dX1_read_13 rfl rfl ?_
      have hsl4 := sk_le (T := T) (show a ≤ n by omega)
      have hsg4 := sk_ge (T := T) (show a ≤ n by omega)
      have hsT4 := (hB (sk T n a)).2
      by_cases hl4 : sk T n a < n
      · refine ww_cVr (M := m_X1_read) (pc := 14) (v := .int (nI (T (sk T n a)))) (h1 := rdS (boS h b s) n (sk T n a) 0 (-1)) (st := []) (d := 4) (bc := 0) (bs := 0) (c_Rd_ahead_i hst (hR.bo hb3 s) hB hn 0 (-1) a (by omega) hl4) vv_X5_ahead dX1_read_14 wg_758 ((hR.bo hb3 s).1) rfl rfl rfl rfl (Nat.le_of_ble_eq_true rfl) (Nat.le_of_ble_eq_true rfl) (Nat.le_of_ble_eq_true rfl) (Nat.le_of_ble_eq_true rfl) ?_
        refine ww_iconst (v := -1) dX1_read_17 (by decide) ?_
        refine ww_icmp_eq (tgt := 32) dX1_read_18 (by decide) (fun c18 => ?_) (fun c18 => ?_)
        · exact absurd c18 (nI_m1 (by omega))
        · refine ww_aload_n dX1_read_21 rfl rfl ?_
          refine ww_aload_n dX1_read_22 rfl rfl ?_
          refine ww_cVq0 (M := m_X1_read) (pc := 23) (st := []) (d := 4) (bc := 0) (bs := 0) (c_Bo_line hst hR hB hn hb (sk T n a) (by omega) (sk_id (by omega)) s hs.1) vv_X1_readLine dX1_read_23 wg_759 hb.1 rfl rfl rfl rfl (Nat.le_of_ble_eq_true rfl) (Nat.le_of_ble_eq_true rfl) (Nat.le_of_ble_eq_true rfl) (Nat.le_of_ble_eq_true rfl) (fun ho5 qo5 => ?_)
          rcases hr5 : blS T n s (sk T n a) with ⟨k5, q5⟩ | ⟨a5, s5⟩
          · rw [hr5] at qo5
            obtain ⟨s5, hz5, rfl⟩ := qo5
            have hf5 := blS_k (by omega) hr5
            refine ww_incN (c := 1) (lv2 := [.ref b, .ref 1, .int (nI (i + 1))]) dX1_read_26 rfl rfl rfl (by decide) rfl ?_
            refine ww_goto (tgt := 7) dX1_read_29 (by decide) ?_
            refine ww_iload_n dX1_read_7 rfl rfl ?_
            refine ww_bipush (v := nI 8) dX1_read_8 (by decide) ?_
            refine ww_icmp_gtN (tgt := 32) dX1_read_10 (by decide) (by omega) (by omega) (fun c10 => ?_) (fun c10 => ?_)
            · refine ww_aload_n dX1_read_32 rfl rfl ?_
              refine ww_cVr (M := m_X1_read) (pc := 33) (v := .int (nI 0)) (h1 := rdS (boS h b s5) n n k5 (nI q5)) (st := []) (d := 4) (bc := 0) (bs := 0) (c_Rd_finish_f hst (hR.bo hb3 s5) hB hn k5 (by omega) (by omega) (nI q5)) vv_X5_finish dX1_read_33 wg_770 ((hR.bo hb3 s5).1) rfl rfl rfl rfl (Nat.le_of_ble_eq_true rfl) (Nat.le_of_ble_eq_true rfl) (Nat.le_of_ble_eq_true rfl) (Nat.le_of_ble_eq_true rfl) ?_
              exact ww_zret dX1_read_36 rfl (by first | rfl | exact nar_bI _) (by exfalso; rw [bkL_i (by assumption), hr5, bS_l] at hr; cases hr)
            · refine ww_aload_n dX1_read_13 rfl rfl ?_
              refine ww_cVr (M := m_X1_read) (pc := 14) (v := .int (-1)) (h1 := rdS (boS h b s5) n n k5 (nI q5)) (st := []) (d := 4) (bc := 0) (bs := 0) (c_Rd_ahead_f hst (hR.bo hb3 s5) hB hn k5 (by omega) (by omega) (nI q5)) vv_X5_ahead dX1_read_14 wg_758 ((hR.bo hb3 s5).1) rfl rfl rfl rfl (Nat.le_of_ble_eq_true rfl) (Nat.le_of_ble_eq_true rfl) (Nat.le_of_ble_eq_true rfl) (Nat.le_of_ble_eq_true rfl) ?_
              refine ww_iconst (v := -1) dX1_read_17 (by decide) ?_
              refine ww_icmp_eq (tgt := 32) dX1_read_18 (by decide) (fun c18 => ?_) (fun c18 => ?_)
              · refine ww_aload_n dX1_read_32 rfl rfl ?_
                refine ww_cVr (M := m_X1_read) (pc := 33) (v := .int (nI 0)) (h1 := rdS (boS h b s5) n n k5 (nI q5)) (st := []) (d := 4) (bc := 0) (bs := 0) (c_Rd_finish_f hst (hR.bo hb3 s5) hB hn k5 (by omega) (by omega) (nI q5)) vv_X5_finish dX1_read_33 wg_770 ((hR.bo hb3 s5).1) rfl rfl rfl rfl (Nat.le_of_ble_eq_true rfl) (Nat.le_of_ble_eq_true rfl) (Nat.le_of_ble_eq_true rfl) (Nat.le_of_ble_eq_true rfl) ?_
                exact ww_zret dX1_read_36 rfl (by first | rfl | exact nar_bI _) (by exfalso; rw [bkL_i (by assumption), hr5, bS_l] at hr; cases hr)
              · exact absurd c18 (by decide)
          · rw [hr5] at qo5
            have qo5 : _ = _ := qo5
            subst qo5
            have hf5 := blS_G hs (by omega) hr5
            refine ww_incN (c := 1) (lv2 := [.ref b, .ref 1, .int (nI (i + 1))]) dX1_read_26 rfl rfl rfl (by decide) rfl ?_
            refine ww_goto (tgt := 7) dX1_read_29 (by decide) ?_
            rw [bkL_i (by assumption), hr5, bS_r] at hr
            exact ih (i + 1) s5 a5 (by omega) (by omega) hf5.1 (by omega) hr
      · refine ww_cVr (M := m_X1_read) (pc := 14) (v := .int (-1)) (h1 := rdS (boS h b s) n n 0 (-1)) (st := []) (d := 4) (bc := 0) (bs := 0) (c_Rd_ahead_e hst (hR.bo hb3 s) hB hn 0 (-1) a (by omega) hl4) vv_X5_ahead dX1_read_14 wg_758 ((hR.bo hb3 s).1) rfl rfl rfl rfl (Nat.le_of_ble_eq_true rfl) (Nat.le_of_ble_eq_true rfl) (Nat.le_of_ble_eq_true rfl) (Nat.le_of_ble_eq_true rfl) ?_
        refine ww_iconst (v := -1) dX1_read_17 (by decide) ?_
        refine ww_icmp_eq (tgt := 32) dX1_read_18 (by decide) (fun c18 => ?_) (fun c18 => ?_)
        · refine ww_aload_n dX1_read_32 rfl rfl ?_
          refine ww_cVr (M := m_X1_read) (pc := 33) (v := .int (nI 1)) (h1 := rdS (boS h b s) n n 0 (-1)) (st := []) (d := 4) (bc := 0) (bs := 0) (c_Rd_finish_t hst (hR.bo hb3 s) hB hn n (Nat.le_refl _) (sk_n T n)) vv_X5_finish dX1_read_33 wg_770 ((hR.bo hb3 s).1) rfl rfl rfl rfl (Nat.le_of_ble_eq_true rfl) (Nat.le_of_ble_eq_true rfl) (Nat.le_of_ble_eq_true rfl) (Nat.le_of_ble_eq_true rfl) ?_
          exact ww_zret dX1_read_36 rfl (by first | rfl | exact nar_bI _) ⟨rfl, (by rw [bkL_e (by assumption)] at hr; cases hr; rfl)⟩
        · exact absurd c18 (by decide)
set_option maxHeartbeats 4000000 in
set_option maxRecDepth 100000 in
theorem c_Bo_read_r {l : Launch} {Z : EE} (hst : l.stackTraces = false) {h : PH} {tf : Nat → Int32} (hR : RdK h tf) {T : Nat → Nat} (hB : BT tf T) {n : Nat} (hn : n ≤ 600) {b : Nat} (hb : BoK h b) (s : BKt) {a9 : Nat} {s9 : BKt} (hr : bkL T n 9 (0, s.2.1, s.2.2) 0 = .inr (a9, s9)) : CC l Z m_X1_read 4 0 0 [.ref b, .ref 1] (rdS (boS h b s) n 0 0 (-1)) (RT (some (.int (nI 1))) (rdS (boS h b s9) n n 0 (-1))) := by
  refine ee_entry hst (by decide +kernel) rfl rfl (by simp [Value.category]) (Nat.le_of_ble_eq_true rfl) ?_
  refine ww_lv (lv2 := [.ref b, .ref 1, UU]) rfl ?_
  have hb3 := hb.2.2.2.2.2
  refine ww_aload_n dX1_read_0 rfl rfl ?_
  refine ww_iconst (v := nI 0) dX1_read_1 (by decide) ?_
  refine ww_pfI tyX1 2 dX1_read_2 hb.1 rfl (by decide) inX1 tyX1_ok nmX1 wg_118 rfl rfl ?_
  refine ww_hp (h2 := rdS (boS h b ((0, s.2.1, s.2.2))) n 0 0 (-1)) (bo_s4 hb3 _) ?_
  refine ww_iconst (v := nI 0) dX1_read_5 (by decide) ?_
  refine ww_sti_n (lv2 := [.ref b, .ref 1, .int (nI 0)]) dX1_read_6 rfl rfl (by decide) rfl ?_
  exact l_Bo_read_r hst hR hB hn hb 9 0 (0, s.2.1, s.2.2) 0 rfl rfl ⟨Nat.zero_le _, fun i hi => absurd hi (Nat.not_lt_zero i)⟩ (Nat.zero_le _) hr
set_option maxHeartbeats 4000000 in
set_option maxRecDepth 100000 in
theorem l_Bo_read_l {l : Launch} {Z : EE} (hst : l.stackTraces = false) {h : PH} {tf : Nat → Int32} (hR : RdK h tf) {T : Nat → Nat} (hB : BT tf T) {n : Nat} (hn : n ≤ 600) {b : Nat} (hb : BoK h b) {k9 q9 : Nat} : ∀ (c i : Nat) (s : BKt) (a : Nat), i = s.1 → s.1 + c = 9 → BkG s → a ≤ n → bkL T n c s a = .inl (k9, q9) → WW l Z m_X1_read 4 0 0 7 [.ref b, .ref 1, .int (nI i)] [] (rdS (boS h b s) n a 0 (-1)) (RQ (some (.int (nI 0))) (fun h9 => ∃ s9 : BKt, s9.1 ≤ 8 ∧ h9 = rdS (boS h b s9) n n k9 (nI q9))) := by
  have hb3 := hb.2.2.2.2.2
  intro c
  induction c with
  | zero =>
    intro i s a hi hc hs ha hr
    have h9 := hs.1
    omega
  | succ c ih =>
    intro i s a hi hc hs ha hr
    have hs8 := hs.1
    refine ww_iload_n dX1_read_7 rfl rfl ?_
    refine ww_bipush (v := nI 8) dX1_read_8 (by decide) ?_
    refine ww_icmp_gtN (tgt := 32) dX1_read_10 (by decide) (by omega) (by omega) (fun c10 => ?_) (fun c10 => ?_)
    · exfalso; omega
    · refine ww_aload_n dX1_read_13 rfl rfl ?_
      have hsl6 := sk_le (T := T) (show a ≤ n by omega)
      have hsg6 := sk_ge (T := T) (show a ≤ n by omega)
      have hsT6 := (hB (sk T n a)).2
      by_cases hl6 : sk T n a < n
      · refine ww_cVr (M := m_X1_read) (pc := 14) (v := .int (nI (T (sk T n a)))) (h1 := rdS (boS h b s) n (sk T n a) 0 (-1)) (st := []) (d := 4) (bc := 0) (bs := 0) (c_Rd_ahead_i hst (hR.bo hb3 s) hB hn 0 (-1) a (by omega) hl6) vv_X5_ahead dX1_read_14 wg_758 ((hR.bo hb3 s).1) rfl rfl rfl rfl (Nat.le_of_ble_eq_true rfl) (Nat.le_of_ble_eq_true rfl) (Nat.le_of_ble_eq_true rfl) (Nat.le_of_ble_eq_true rfl) ?_
        refine ww_iconst (v := -1) dX1_read_17 (by decide) ?_
        refine ww_icmp_eq (tgt := 32) dX1_read_18 (by decide) (fun c18 => ?_) (fun c18 => ?_)
        · exact absurd c18 (nI_m1 (by omega))
        · refine ww_aload_n dX1_read_21 rfl rfl ?_
          refine ww_aload_n dX1_read_22 rfl rfl ?_
          refine ww_cVq0 (M := m_X1_read) (pc := 23) (st := []) (d := 4) (bc := 0) (bs := 0) (c_Bo_line hst hR hB hn hb (sk T n a) (by omega) (sk_id (by omega)) s hs.1) vv_X1_readLine dX1_read_23 wg_759 hb.1 rfl rfl rfl rfl (Nat.le_of_ble_eq_true rfl) (Nat.le_of_ble_eq_true rfl) (Nat.le_of_ble_eq_true rfl) (Nat.le_of_ble_eq_true rfl) (fun ho7 qo7 => ?_)
          rcases hr7 : blS T n s (sk T n a) with ⟨k7, q7⟩ | ⟨a7, s7⟩
          · rw [hr7] at qo7
            obtain ⟨s7, hz7, rfl⟩ := qo7
            have hf7 := blS_k (by omega) hr7
            refine ww_incN (c := 1) (lv2 := [.ref b, .ref 1, .int (nI (i + 1))]) dX1_read_26 rfl rfl rfl (by decide) rfl ?_
            refine ww_goto (tgt := 7) dX1_read_29 (by decide) ?_
            refine ww_iload_n dX1_read_7 rfl rfl ?_
            refine ww_bipush (v := nI 8) dX1_read_8 (by decide) ?_
            refine ww_icmp_gtN (tgt := 32) dX1_read_10 (by decide) (by omega) (by omega) (fun c10 => ?_) (fun c10 => ?_)
            · refine ww_aload_n dX1_read_32 rfl rfl ?_
              refine ww_cVr (M := m_X1_read) (pc := 33) (v := .int (nI 0)) (h1 := rdS (boS h b s7) n n k7 (nI q7)) (st := []) (d := 4) (bc := 0) (bs := 0) (c_Rd_finish_f hst (hR.bo hb3 s7) hB hn k7 (by omega) (by omega) (nI q7)) vv_X5_finish dX1_read_33 wg_770 ((hR.bo hb3 s7).1) rfl rfl rfl rfl (Nat.le_of_ble_eq_true rfl) (Nat.le_of_ble_eq_true rfl) (Nat.le_of_ble_eq_true rfl) (Nat.le_of_ble_eq_true rfl) ?_
              exact ww_zret dX1_read_36 rfl (by first | rfl | exact nar_bI _) ⟨rfl, (by rw [bkL_i (by assumption), hr7, bS_l] at hr; cases hr; exact ⟨s7, hz7, rfl⟩)⟩
            · refine ww_aload_n dX1_read_13 rfl rfl ?_
              refine ww_cVr (M := m_X1_read) (pc := 14) (v := .int (-1)) (h1 := rdS (boS h b s7) n n k7 (nI q7)) (st := []) (d := 4) (bc := 0) (bs := 0) (c_Rd_ahead_f hst (hR.bo hb3 s7) hB hn k7 (by omega) (by omega) (nI q7)) vv_X5_ahead dX1_read_14 wg_758 ((hR.bo hb3 s7).1) rfl rfl rfl rfl (Nat.le_of_ble_eq_true rfl) (Nat.le_of_ble_eq_true rfl) (Nat.le_of_ble_eq_true rfl) (Nat.le_of_ble_eq_true rfl) ?_
              refine ww_iconst (v := -1) dX1_read_17 (by decide) ?_
              refine ww_icmp_eq (tgt := 32) dX1_read_18 (by decide) (fun c18 => ?_) (fun c18 => ?_)
              · refine ww_aload_n dX1_read_32 rfl rfl ?_
                refine ww_cVr (M := m_X1_read) (pc := 33) (v := .int (nI 0)) (h1 := rdS (boS h b s7) n n k7 (nI q7)) (st := []) (d := 4) (bc := 0) (bs := 0) (c_Rd_finish_f hst (hR.bo hb3 s7) hB hn k7 (by omega) (by omega) (nI q7)) vv_X5_finish dX1_read_33 wg_770 ((hR.bo hb3 s7).1) rfl rfl rfl rfl (Nat.le_of_ble_eq_true rfl) (Nat.le_of_ble_eq_true rfl) (Nat.le_of_ble_eq_true rfl) (Nat.le_of_ble_eq_true rfl) ?_
                exact ww_zret dX1_read_36 rfl (by first | rfl | exact nar_bI _) ⟨rfl, (by rw [bkL_i (by assumption), hr7, bS_l] at hr; cases hr; exact ⟨s7, hz7, rfl⟩)⟩
              · exact absurd c18 (by decide)
          · rw [hr7] at qo7
            have qo7 : _ = _ := qo7
            subst qo7
            have hf7 := blS_G hs (by omega) hr7
            refine ww_incN (c := 1) (lv2 := [.ref b, .ref 1, .int (nI (i + 1))]) dX1_read_26 rfl rfl rfl (by decide) rfl ?_
            refine ww_goto (tgt := 7) dX1_read_29 (by decide) ?_
            rw [bkL_i (by assumption), hr7, bS_r] at hr
            exact ih (i + 1) s7 a7 (by omega) (by omega) hf7.1 (by omega) hr
      · refine ww_cVr (M := m_X1_read) (pc := 14) (v := .int (-1)) (h1 := rdS (boS h b s) n n 0 (-1)) (st := []) (d := 4) (bc := 0) (bs := 0) (c_Rd_ahead_e hst (hR.bo hb3 s) hB hn 0 (-1) a (by omega) hl6) vv_X5_ahead dX1_read_14 wg_758 ((hR.bo hb3 s).1) rfl rfl rfl rfl (Nat.le_of_ble_eq_true rfl) (Nat.le_of_ble_eq_true rfl) (Nat.le_of_ble_eq_true rfl) (Nat.le_of_ble_eq_true rfl) ?_
        refine ww_iconst (v := -1) dX1_read_17 (by decide) ?_
        refine ww_icmp_eq (tgt := 32) dX1_read_18 (by decide) (fun c18 => ?_) (fun c18 => ?_)
        · refine ww_aload_n dX1_read_32 rfl rfl ?_
          refine ww_cVr (M := m_X1_read) (pc := 33) (v := .int (nI 1)) (h1 := rdS (boS h b s) n n 0 (-1)) (st := []) (d := 4) (bc := 0) (bs := 0) (c_Rd_finish_t hst (hR.bo hb3 s) hB hn n (Nat.le_refl _) (sk_n T n)) vv_X5_finish dX1_read_33 wg_770 ((hR.bo hb3 s).1) rfl rfl rfl rfl (Nat.le_of_ble_eq_true rfl) (Nat.le_of_ble_eq_true rfl) (Nat.le_of_ble_eq_true rfl) (Nat.le_of_ble_eq_true rfl) ?_
          exact ww_zret dX1_read_36 rfl (by first | rfl | exact nar_bI _) (by exfalso; rw [bkL_e (by assumption)] at hr; cases hr)
        · exact absurd c18 (by decide)
set_option maxHeartbeats 4000000 in
set_option maxRecDepth 100000 in
theorem c_Bo_read_l {l : Launch} {Z : EE} (hst : l.stackTraces = false) {h : PH} {tf : Nat → Int32} (hR : RdK h tf) {T : Nat → Nat} (hB : BT tf T) {n : Nat} (hn : n ≤ 600) {b : Nat} (hb : BoK h b) (s : BKt) {k9 q9 : Nat} (hr : bkL T n 9 (0, s.2.1, s.2.2) 0 = .inl (k9, q9)) : CC l Z m_X1_read 4 0 0 [.ref b, .ref 1] (rdS (boS h b s) n 0 0 (-1)) (RQ (some (.int (nI 0))) (fun h9 => ∃ s9 : BKt, s9.1 ≤ 8 ∧ h9 = rdS (boS h b s9) n n k9 (nI q9))) := by
  refine ee_entry hst (by decide +kernel) rfl rfl (by simp [Value.category]) (Nat.le_of_ble_eq_true rfl) ?_
  refine ww_lv (lv2 := [.ref b, .ref 1, UU]) rfl ?_
  have hb3 := hb.2.2.2.2.2
  refine ww_aload_n dX1_read_0 rfl rfl ?_
  refine ww_iconst (v := nI 0) dX1_read_1 (by decide) ?_
  refine ww_pfI tyX1 2 dX1_read_2 hb.1 rfl (by decide) inX1 tyX1_ok nmX1 wg_118 rfl rfl ?_
  refine ww_hp (h2 := rdS (boS h b ((0, s.2.1, s.2.2))) n 0 0 (-1)) (bo_s4 hb3 _) ?_
  refine ww_iconst (v := nI 0) dX1_read_5 (by decide) ?_
  refine ww_sti_n (lv2 := [.ref b, .ref 1, .int (nI 0)]) dX1_read_6 rfl rfl (by decide) rfl ?_
  exact l_Bo_read_l hst hR hB hn hb 9 0 (0, s.2.1, s.2.2) 0 rfl rfl ⟨Nat.zero_le _, fun i hi => absurd hi (Nat.not_lt_zero i)⟩ (Nat.zero_le _) hr
