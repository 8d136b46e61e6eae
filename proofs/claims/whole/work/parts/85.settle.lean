/-! ===== the class settles all numbers ===== -/
theorem kn_stay {own : Nat → Nat} {D t : Nat} (h : lsU (knS own D t).1 (knS own D t).2.1 61 = none) : ∀ i, knS own D (t + i) = knS own D t
  | 0 => rfl
  | i + 1 => by
    rw [show t + (i + 1) = (t + i) + 1 from rfl]
    show stpS D (t + i) (knS own D (t + i)) = knS own D t
    rw [kn_stay h i, kn_none h]
def knB (own : Nat → Nat) (D : Nat) : Prop := (∀ m, m ≤ 60 → (knS own D 61).1.1 m < spFAR → (knS own D 61).1.1 m ≤ 1000 ∧ (knS own D 61).1.2 m ≤ 1000000) ∧ (∀ m, m ≤ 60 → own m ≤ 1000000000) ∧ D ≤ 20
theorem kn_bd {own : Nat → Nat} {D : Nat} (hb : knB own D) {t : Nat} (ht : t ≤ 61) {m : Nat} (hm : m ≤ 60) (sm : (knS own D t).2.1 m = true) : (knS own D t).1.1 m ≤ 1000 ∧ (knS own D t).1.2 m ≤ 1000000 := by
  have h1 := kn_keep own D t hm sm (61 - t)
  rw [show t + (61 - t) = 61 by omega] at h1
  have h2 := (kn_I own D t).1.2.2.2.2.2 m hm sm
  have h3 := hb.1 m hm (by rw [h1.2.1]; exact h2)
  rw [h1.2.1, h1.2.2] at h3
  exact h3
theorem kn_SpB {own : Nat → Nat} {D : Nat} (hb : knB own D) {t : Nat} (ht : t ≤ 61) : SpB (knS own D t).1 := fun m hm => by
  have hD := hb.2.2
  rcases (kn_I own D t).1.2.2.1 m hm with ⟨e1, e2⟩ | ⟨a, b, ha, hb2, sa, sb, -, e1, e2⟩
  · have h9 := hb.2.1 m hm
    rw [e1, e2]; exact ⟨h9, by omega⟩
  · have h1 := kn_bd hb ht ha sa
    have h2 := kn_bd hb ht hb2 sb
    rw [e1, e2]; exact ⟨by omega, by omega⟩
/-- what the offers of one settled number find -/
theorem kn_off {own : Nat → Nat} {D : Nat} (hb : knB own D) {t n : Nat} (ht : t < 61) (hC : knC t (knS own D t)) (hl : lsU (knS own D t).1 (knS own D t).2.1 61 = some n) :
    n ≤ 60 ∧ (∀ i, i ≤ t → ubN (knS own D t).2.2 t n i ≤ 60) ∧ ∀ i, i ≤ t + 1 → SpB (ofA (ubN (knS own D t).2.1 n true) D (knS own D t).1 n (ubN (knS own D t).2.2 t n) i) ∧ (i ≤ t →
      (ofA (ubN (knS own D t).2.1 n true) D (knS own D t).1 n (ubN (knS own D t).2.2 t n) i).1 n + (ofA (ubN (knS own D t).2.1 n true) D (knS own D t).1 n (ubN (knS own D t).2.2 t n) i).1 (ubN (knS own D t).2.2 t n i) + D ≤ 1000000000 ∧
      (ofA (ubN (knS own D t).2.1 n true) D (knS own D t).1 n (ubN (knS own D t).2.2 t n) i).2 n + (ofA (ubN (knS own D t).2.1 n true) D (knS own D t).1 n (ubN (knS own D t).2.2 t n) i).2 (ubN (knS own D t).2.2 t n i) ≤ 2000000) := by
  have hD := hb.2.2
  have hn : n ≤ 60 := by
    rcases lsU_ok (knS own D t).1 (knS own D t).2.1 61 with ⟨e, -⟩ | ⟨k, e, hk, -⟩
    · rw [hl] at e; cases e
    · rw [hl] at e; cases e; omega
  have hI := (kn_I own D t).1
  have hst := kn_step hI hC hl
  have hB := kn_SpB hb (show t ≤ 61 by omega)
  have hbs : ∀ m, m ≤ 60 → ubN (knS own D t).2.1 n true m = true → (knS own D t).1.1 m ≤ 1000 ∧ (knS own D t).1.2 m ≤ 1000000 := fun m hm sm => by
    by_cases e : m = n
    · subst e
      have h1 : (knS own D (t + 1)).2.1 m = true := by show (stpS D t (knS own D t)).2.1 m = true; rw [kn_some hl]; exact ubN_s _ _ _
      have h2 := kn_bd hb (show t + 1 ≤ 61 by omega) hm h1
      have h3 : (knS own D (t + 1)).1.1 m = (knS own D t).1.1 m := hst.2.2.2.1
      have h4 : (knS own D (t + 1)).1.2 m = (knS own D t).1.2 m := hst.2.2.2.2
      rw [h3, h4] at h2; exact h2
    · rw [ubN_n _ _ e] at sm; exact kn_bd hb (by omega) hm sm
  have hσ : ∀ i, i ≤ t → ubN (knS own D t).2.2 t n i ≤ 60 ∧ ubN (knS own D t).2.1 n true (ubN (knS own D t).2.2 t n i) = true := fun i hi => by
    by_cases e : i = t
    · rw [e, ubN_s]; exact ⟨hn, ubN_s _ _ _⟩
    · rw [ubN_n _ _ e]
      have h1 := hC.1 i (by omega)
      refine ⟨h1.1, ?_⟩
      by_cases e2 : (knS own D t).2.2 i = n
      · rw [e2]; exact ubN_s _ _ _
      · rw [ubN_n _ _ e2]; exact h1.2
  refine ⟨hn, fun i hi => (hσ i hi).1, fun i hi => ?_⟩
  obtain ⟨⟨g1, g2, -⟩, -⟩ := ofA_G (s := ubN (knS own D t).2.1 n true) (D := D) (x0 := (knS own D t).1) (a := n) (σ := ubN (knS own D t).2.2 t n) (ubN_s _ _ _) i (fun k hk => hσ k (by omega))
  have hnb := hbs n hn (ubN_s _ _ _)
  refine ⟨fun m hm => ?_, fun hi2 => ?_⟩
  · rcases g2 m hm with ⟨e1, e2⟩ | ⟨b, hb2, sb, -, e1, e2⟩
    · rw [e1, e2]; exact hB m hm
    · have h2 := hbs b hb2 sb
      rw [e1, e2]; exact ⟨by omega, by omega⟩
  · have h1 := hσ i hi2
    have h2 := hbs _ h1.1 h1.2
    have h3 := g1 n (ubN_s _ _ _)
    have h4 := g1 _ h1.2
    rw [h3.1, h3.2, h4.1, h4.2]
    exact ⟨by omega, by omega⟩
def spX4 : Nat → Prop := fun c => c = 32 ∨ c = 33 ∨ c = 34 ∨ c = 35
theorem SpX_4 {c : Nat} (h : SpX c) : spX4 c := h.elim Or.inl (fun e => Or.inr (Or.inl e))
theorem SpK.s4 {h h' : PH} (hK : SpK h) (hS : Same spX4 SpN h h') : SpK h' := hK.same hS (fun _ _ e => e)
def bQ (f : Nat → Int32) (s : Nat → Bool) : Prop := ∀ i, i < 61 → f i = bI (s i)
set_option maxHeartbeats 4000000 in
set_option maxRecDepth 100000 in
theorem l_Sp_in {l : Launch} {Z : EE} (hst : l.stackTraces = false) {h : PH} {s : Nat → Bool} {D : Nat} {x0 : PQ} {n t : Nat} {σ : Nat → Nat} (ht : t < 61) (hn : n ≤ 60) (hσ : ∀ i, i ≤ t → σ i ≤ 60) (hx : ∀ i, i ≤ t + 1 → SpB (ofA s D x0 n σ i) ∧ (i ≤ t → (ofA s D x0 n σ i).1 n + (ofA s D x0 n σ i).1 (σ i) + D ≤ 1000000000 ∧ (ofA s D x0 n σ i).2 n + (ofA s D x0 n σ i).2 (σ i) ≤ 2000000)) {Post : Res → PH → Prop} : ∀ (j i : Nat) (hq : PH), i + j = t + 1 → SpK hq → SpA hq (ofA s D x0 n σ i) s D → (∀ k, k ≤ t → hp_I hq 34 k = nI (σ k)) → Same spX4 SpN h hq → (∀ h9, SpK h9 → SpA h9 (ofA s D x0 n σ (t + 1)) s D → (∀ k, k ≤ t → hp_I h9 34 k = nI (σ k)) → Same spX4 SpN h h9 → WW l Z m_X7_settleAll 3 0 0 97 [.ref 30, .int (nI t), .int (nI n), .int (nI (t + 1))] [] h9 Post) → WW l Z m_X7_settleAll 3 0 0 75 [.ref 30, .int (nI t), .int (nI n), .int (nI i)] [] hq Post := by
  intro j
  induction j with
  | zero =>
    intro i hq hi hK hA h34 hS hexit
    have hi0 : i = t + 1 := by omega
    subst hi0
    refine ww_iload_n dX7_settleAll_75 rfl rfl ?_
    refine ww_iload_n dX7_settleAll_76 rfl rfl ?_
    refine ww_icmp_gtN (tgt := 97) dX7_settleAll_77 (by decide) (by omega) (by omega) (fun c77 => ?_) (fun c77 => ?_)
    · exact hexit hq hK hA h34 hS
    · exfalso; omega
  | succ j ih =>
    intro i hq hi hK hA h34 hS hexit
    refine ww_iload_n dX7_settleAll_75 rfl rfl ?_
    refine ww_iload_n dX7_settleAll_76 rfl rfl ?_
    refine ww_icmp_gtN (tgt := 97) dX7_settleAll_77 (by decide) (by omega) (by omega) (fun c77 => ?_) (fun c77 => ?_)
    · exfalso; omega
    · refine ww_aload_n dX7_settleAll_80 rfl rfl ?_
      refine ww_iload_n dX7_settleAll_81 rfl rfl ?_
      refine ww_aload_n dX7_settleAll_82 rfl rfl ?_
      refine ww_get 3 dX7_settleAll_83 hK.1 rfl (by decide) inX7 wg_174 hK.2.2.2.2.2.1 ?_
      refine ww_iload_n dX7_settleAll_86 rfl rfl ?_
      refine ww_ialdF dX7_settleAll_87 hK.2.1.2.2.2.1 rfl (by omega) (by omega) ?_
      refine ww_sk (st2 := [.int (nI (σ i)), .int (nI n), .ref 30]) (by rw [h34 i (by omega)]) ?_
      refine ww_cVq0 (M := m_X7_settleAll) (pc := 88) (st := []) (d := 3) (bc := 0) (bs := 0) (c_Sp_offerJoined hst hK hA (hx i (by omega)).1 n (σ i) hn (hσ i (by omega)) _ _ rfl rfl ((hx i (by omega)).2 (by omega)).1 ((hx i (by omega)).2 (by omega)).2) vv_X7_offerJoined dX7_settleAll_88 wg_904 hK.1 rfl rfl rfl rfl (Nat.le_of_ble_eq_true rfl) (Nat.le_of_ble_eq_true rfl) (Nat.le_of_ble_eq_true rfl) (Nat.le_of_ble_eq_true rfl) (fun hr qq => ?_)
      have hK2 := hK.same qq.2 (fun _ _ e => e)
      refine ww_incN (c := 1) (lv2 := [.ref 30, .int (nI t), .int (nI n), .int (nI (i + 1))]) dX7_settleAll_91 rfl rfl rfl (by decide) rfl ?_
      refine ww_goto (tgt := 75) dX7_settleAll_94 (by decide) ?_
      refine ih (i + 1) hr (by omega) hK2 qq.1 (fun k hk => by rw [qq.2.2.2.2.1 _ (by omega)]; exact h34 k hk) (hS.tr (qq.2.mono (fun _ e => SpX_4 e) (fun _ _ e => e))) hexit
set_option maxHeartbeats 4000000 in
set_option maxRecDepth 100000 in
theorem l_Sp_out {l : Launch} {Z : EE} (hst : l.stackTraces = false) {h : PH} {own : Nat → Nat} {D : Nat} (hb : knB own D) : ∀ (j t : Nat) (hq : PH), t + j = 61 → SpK hq → SpA hq (knS own D t).1 (knS own D t).2.1 D → (∀ i, i < t → hp_I hq 34 i = nI ((knS own D t).2.2 i)) → Same spX4 SpN h hq → knC t (knS own D t) → WW l Z m_X7_settleAll 3 0 0 42 [.ref 30, .int (nI t), UU, UU] [] hq (RQ none (fun h9 => SpA h9 (knS own D 61).1 (knS own D 61).2.1 D ∧ SpK h9 ∧ Same spX4 SpN h h9)) := by
  intro j
  induction j with
  | zero =>
    intro t hq ht hK hA h34 hS hC
    have ht0 : t = 61 := by omega
    subst ht0
    refine ww_iload_n dX7_settleAll_42 rfl rfl ?_
    refine ww_bipush (v := nI 61) dX7_settleAll_43 (by decide) ?_
    refine ww_icmp_geN (tgt := 103) dX7_settleAll_45 (by decide) (by omega) (by omega) (fun c45 => ?_) (fun c45 => ?_)
    · exact ww_vret dX7_settleAll_103 rfl ⟨rfl, hA, hK, hS⟩
    · exfalso; omega
  | succ j ih =>
    intro t hq ht hK hA h34 hS hC
    rcases hl : lsU (knS own D t).1 (knS own D t).2.1 61 with _ | n
    · refine ww_iload_n dX7_settleAll_42 rfl rfl ?_
      refine ww_bipush (v := nI 61) dX7_settleAll_43 (by decide) ?_
      refine ww_icmp_geN (tgt := 103) dX7_settleAll_45 (by decide) (by omega) (by omega) (fun c45 => ?_) (fun c45 => ?_)
      · exfalso; omega
      · refine ww_aload_n dX7_settleAll_48 rfl rfl ?_
        have hlc := c_Sp_least (Z := Z) hst hK hA (kn_SpB hb (show t ≤ 61 by omega))
        rw [hl] at hlc
        refine ww_cVr (M := m_X7_settleAll) (pc := 49) (v := .int (-1)) (h1 := hq) (st := []) (d := 3) (bc := 0) (bs := 0) hlc vv_X7_leastUnsettled dX7_settleAll_49 wg_895 hK.1 rfl rfl rfl rfl (Nat.le_of_ble_eq_true rfl) (Nat.le_of_ble_eq_true rfl) (Nat.le_of_ble_eq_true rfl) (Nat.le_of_ble_eq_true rfl) ?_
        refine ww_sti_n (lv2 := [.ref 30, .int (nI t), .int (-1), UU]) dX7_settleAll_52 rfl rfl (by decide) rfl ?_
        refine ww_iload_n dX7_settleAll_53 rfl rfl ?_
        refine ww_iconst (v := -1) dX7_settleAll_54 (by decide) ?_
        refine ww_icmp_ne (tgt := 59) dX7_settleAll_55 (by decide) (fun c55 => ?_) (fun c55 => ?_)
        · exact absurd c55 (by decide)
        · exact ww_vret dX7_settleAll_58 rfl ⟨rfl, (by have h9 := kn_stay hl (61 - t); rw [show t + (61 - t) = 61 by omega] at h9; rw [h9]; exact hA), hK, hS⟩
    · have ko := kn_off hb (show t < 61 by omega) hC hl
      have hn := ko.1
      refine ww_iload_n dX7_settleAll_42 rfl rfl ?_
      refine ww_bipush (v := nI 61) dX7_settleAll_43 (by decide) ?_
      refine ww_icmp_geN (tgt := 103) dX7_settleAll_45 (by decide) (by omega) (by omega) (fun c45 => ?_) (fun c45 => ?_)
      · exfalso; omega
      · refine ww_aload_n dX7_settleAll_48 rfl rfl ?_
        have hlc := c_Sp_least (Z := Z) hst hK hA (kn_SpB hb (show t ≤ 61 by omega))
        rw [hl] at hlc
        refine ww_cVr (M := m_X7_settleAll) (pc := 49) (v := .int (nI n)) (h1 := hq) (st := []) (d := 3) (bc := 0) (bs := 0) hlc vv_X7_leastUnsettled dX7_settleAll_49 wg_895 hK.1 rfl rfl rfl rfl (Nat.le_of_ble_eq_true rfl) (Nat.le_of_ble_eq_true rfl) (Nat.le_of_ble_eq_true rfl) (Nat.le_of_ble_eq_true rfl) ?_
        refine ww_sti_n (lv2 := [.ref 30, .int (nI t), .int (nI n), UU]) dX7_settleAll_52 rfl rfl (by decide) rfl ?_
        refine ww_iload_n dX7_settleAll_53 rfl rfl ?_
        refine ww_iconst (v := -1) dX7_settleAll_54 (by decide) ?_
        refine ww_icmp_ne (tgt := 59) dX7_settleAll_55 (by decide) (fun c55 => ?_) (fun c55 => ?_)
        · refine ww_aload_n dX7_settleAll_59 rfl rfl ?_
          refine ww_get 4 dX7_settleAll_60 hK.1 rfl (by decide) inX7 wg_175 hK.2.2.2.2.2.2 ?_
          refine ww_iload_n dX7_settleAll_63 rfl rfl ?_
          refine ww_iconst (v := nI 1) dX7_settleAll_64 (by decide) ?_
          refine ww_zastF dX7_settleAll_65 hK.2.1.2.2.2.2 rfl (by omega) (by omega) (by decide) ?_
          refine ww_aload_n dX7_settleAll_66 rfl rfl ?_
          refine ww_get 3 dX7_settleAll_67 hK.1 rfl (by decide) inX7 wg_174 hK.2.2.2.2.2.1 ?_
          refine ww_iload_n dX7_settleAll_70 rfl rfl ?_
          refine ww_iload_n dX7_settleAll_71 rfl rfl ?_
          refine ww_iastF dX7_settleAll_72 hK.2.1.2.2.2.1 (hp_I_nx (by decide) rfl) (by omega) (by omega) ?_
          refine ww_iconst (v := nI 0) dX7_settleAll_73 (by decide) ?_
          refine ww_sti_n (lv2 := [.ref 30, .int (nI t), .int (nI n), .int (nI 0)]) dX7_settleAll_74 rfl rfl (by decide) rfl ?_
          have hA1 : SpA (hp_sI (hp_sI hq 35 (upd (hp_I hq 35) n (nI 1))) 34 (upd (hp_I hq 34) t (nI n))) (knS own D t).1 (ubN (knS own D t).2.1 n true) D := by
            refine ⟨fun i hi => ?_, fun i hi => ?_, fun i hi => ?_, hA.2.2.2⟩
            · rw [hp_I_ne (by decide), hp_I_ne (by decide)]; exact hA.1 i hi
            · rw [hp_I_ne (by decide), hp_I_ne (by decide)]; exact hA.2.1 i hi
            · rw [hp_I_ne (by decide), hp_I_eq]
              by_cases e : i = n
              · rw [e, pk_us, ubN_s]; rfl
              · rw [pk_un e, ubN_n _ _ e]; exact hA.2.2.1 i hi
          have h341 : ∀ k, k ≤ t → hp_I (hp_sI (hp_sI hq 35 (upd (hp_I hq 35) n (nI 1))) 34 (upd (hp_I hq 34) t (nI n))) 34 k = nI (ubN (knS own D t).2.2 t n k) := fun k hk => by
            rw [hp_I_eq]
            by_cases e : k = t
            · rw [e, pk_us, ubN_s]
            · rw [pk_un e, ubN_n _ _ e]; exact h34 k (by omega)
          have hS1 : Same spX4 SpN h (hp_sI (hp_sI hq 35 (upd (hp_I hq 35) n (nI 1))) 34 (upd (hp_I hq 34) t (nI n))) := Same.sI (Same.sI hS (show spX4 35 from by unfold spX4; omega)) (show spX4 34 from by unfold spX4; omega)
          have hK1 : SpK (hp_sI (hp_sI hq 35 (upd (hp_I hq 35) n (nI 1))) 34 (upd (hp_I hq 34) t (nI n))) := hK
          generalize hp_sI (hp_sI hq 35 (upd (hp_I hq 35) n (nI 1))) 34 (upd (hp_I hq 34) t (nI n)) = hz at hA1 h341 hS1 hK1 ⊢
          have hst9 := kn_step (kn_I own D t).1 hC hl
          have hC2 : knC (t + 1) (knS own D (t + 1)) := hst9.2.1
          have hy : knS own D (t + 1) = (ofA (ubN (knS own D t).2.1 n true) D (knS own D t).1 n (ubN (knS own D t).2.2 t n) (t + 1), ubN (knS own D t).2.1 n true, ubN (knS own D t).2.2 t n) := kn_some hl
          refine l_Sp_in hst (show t < 61 by omega) ko.1 ko.2.1 ko.2.2 (t + 1) 0 hz (by omega) hK1 hA1 h341 hS1 (fun h9 k9 a9 r9 s9 => ?_)
          refine ww_incN (c := 1) (lv2 := [.ref 30, .int (nI (t + 1)), .int (nI n), .int (nI (t + 1))]) dX7_settleAll_97 rfl rfl rfl (by decide) rfl ?_
          refine ww_goto (tgt := 42) dX7_settleAll_100 (by decide) ?_
          refine ww_fg (lv2 := [.ref 30, .int (nI (t + 1)), UU, UU]) ⟨Or.inr rfl, Or.inr rfl, Or.inl rfl, Or.inl rfl, trivial⟩ ?_
          refine ih (t + 1) h9 (by omega) k9 (by rw [hy]; exact a9) (fun i hi => by rw [hy]; exact r9 i (by omega)) s9 hC2
        · exact absurd c55 (nI_m1 (by omega))
theorem kn_c0 : ∀ {k : Nat}, cnt (fun _ => false) k = 0
  | 0 => rfl
  | k + 1 => by simp [cnt, kn_c0 (k := k)]
set_option maxHeartbeats 4000000 in
set_option maxRecDepth 100000 in
theorem l_Sp_init {l : Launch} {Z : EE} (hst : l.stackTraces = false) {h : PH} {own : Nat → Nat} {D : Nat} (hb : knB own D) : ∀ (j k : Nat) (hq : PH), k + j = 61 → SpK hq → (∀ i, i < 61 → hp_I hq 31 i = nI (own i)) → (∀ i, i < k → hp_I hq 32 i = nI (own i) ∧ hp_I hq 33 i = nI 1 ∧ hp_I hq 35 i = nI 0) → hp_F hq 30 5 = .int (nI D) → Same spX4 SpN h hq → WW l Z m_X7_settleAll 3 0 0 2 [.ref 30, .int (nI k), UU, UU] [] hq (RQ none (fun h9 => SpA h9 (knS own D 61).1 (knS own D 61).2.1 D ∧ SpK h9 ∧ Same spX4 SpN h h9)) := by
  intro j
  induction j with
  | zero =>
    intro k hq hk hK ho hf hd hS
    have hk0 : k = 61 := by omega
    subst hk0
    refine ww_iload_n dX7_settleAll_2 rfl rfl ?_
    refine ww_bipush (v := nI 60) dX7_settleAll_3 (by decide) ?_
    refine ww_icmp_gtN (tgt := 40) dX7_settleAll_5 (by decide) (by omega) (by omega) (fun c5 => ?_) (fun c5 => ?_)
    · refine ww_iconst (v := nI 0) dX7_settleAll_40 (by decide) ?_
      refine ww_sti_n (lv2 := [.ref 30, .int (nI 0), UU, UU]) dX7_settleAll_41 rfl rfl (by decide) rfl ?_
      refine l_Sp_out hst hb 61 0 hq rfl hK ⟨fun i hi => (hf i hi).1, fun i hi => (hf i hi).2.1, fun i hi => (hf i hi).2.2, hd⟩ (fun i hi => absurd hi (Nat.not_lt_zero i)) hS ?_
      exact (kn_I own D 0).2.elim id (fun e => ⟨fun i hi => absurd hi (Nat.not_lt_zero i), fun n hn e2 => (by cases e2), kn_c0⟩)
    · exfalso; omega
  | succ j ih =>
    intro k hq hk hK ho hf hd hS
    refine ww_iload_n dX7_settleAll_2 rfl rfl ?_
    refine ww_bipush (v := nI 60) dX7_settleAll_3 (by decide) ?_
    refine ww_icmp_gtN (tgt := 40) dX7_settleAll_5 (by decide) (by omega) (by omega) (fun c5 => ?_) (fun c5 => ?_)
    · exfalso; omega
    · refine ww_aload_n dX7_settleAll_8 rfl rfl ?_
      refine ww_get 1 dX7_settleAll_9 hK.1 rfl (by decide) inX7 wg_170 hK.2.2.2.1 ?_
      refine ww_iload_n dX7_settleAll_12 rfl rfl ?_
      refine ww_aload_n dX7_settleAll_13 rfl rfl ?_
      refine ww_get 0 dX7_settleAll_14 hK.1 rfl (by decide) inX7 wg_168 hK.2.2.1 ?_
      refine ww_iload_n dX7_settleAll_17 rfl rfl ?_
      refine ww_ialdF dX7_settleAll_18 hK.2.1.1 rfl (by omega) (by omega) ?_
      refine ww_sk (st2 := [.int (nI (own k)), .int (nI k), .ref 32]) (by rw [ho k (by omega)]) ?_
      refine ww_iastF dX7_settleAll_19 hK.2.1.2.1 rfl (by omega) (by omega) ?_
      refine ww_aload_n dX7_settleAll_20 rfl rfl ?_
      refine ww_get 2 dX7_settleAll_21 hK.1 rfl (by decide) inX7 wg_172 hK.2.2.2.2.1 ?_
      refine ww_iload_n dX7_settleAll_24 rfl rfl ?_
      refine ww_iconst (v := nI 1) dX7_settleAll_25 (by decide) ?_
      refine ww_iastF dX7_settleAll_26 hK.2.1.2.2.1 (hp_I_nx (by decide) rfl) (by omega) (by omega) ?_
      refine ww_aload_n dX7_settleAll_27 rfl rfl ?_
      refine ww_get 4 dX7_settleAll_28 hK.1 rfl (by decide) inX7 wg_175 hK.2.2.2.2.2.2 ?_
      refine ww_iload_n dX7_settleAll_31 rfl rfl ?_
      refine ww_iconst (v := nI 0) dX7_settleAll_32 (by decide) ?_
      refine ww_zastF dX7_settleAll_33 hK.2.1.2.2.2.2 (hp_I_nx (by decide) (hp_I_nx (by decide) rfl)) (by omega) (by omega) (by decide) ?_
      refine ww_incN (c := 1) (lv2 := [.ref 30, .int (nI (k + 1)), UU, UU]) dX7_settleAll_34 rfl rfl rfl (by decide) rfl ?_
      refine ww_goto (tgt := 2) dX7_settleAll_37 (by decide) ?_
      refine ih (k + 1) _ (by omega) (show SpK _ from hK) (fun i hi => by rw [hp_I_ne (by decide), hp_I_ne (by decide), hp_I_ne (by decide)]; exact ho i hi) (fun i hi => ?_) hd (Same.sI (Same.sI (Same.sI hS (show spX4 32 from by unfold spX4; omega)) (show spX4 33 from by unfold spX4; omega)) (show spX4 35 from by unfold spX4; omega))
      rw [hp_I_ne (show (32 : Nat) ≠ 35 by decide), hp_I_ne (show (32 : Nat) ≠ 33 by decide), hp_I_eq, hp_I_ne (show (33 : Nat) ≠ 35 by decide), hp_I_eq, hp_I_eq]
      by_cases e : i = k
      · rw [e, pk_us, pk_us, pk_us]; exact ⟨rfl, rfl, rfl⟩
      · rw [pk_un e, pk_un e, pk_un e]; exact hf i (by omega)
set_option maxHeartbeats 4000000 in
set_option maxRecDepth 100000 in
theorem c_Sp_settle {l : Launch} {Z : EE} (hst : l.stackTraces = false) {h : PH} (hK : SpK h) {own : Nat → Nat} {D : Nat} (hb : knB own D) (ho : ∀ i, i < 61 → hp_I h 31 i = nI (own i)) (hd : hp_F h 30 5 = .int (nI D)) : CC l Z m_X7_settleAll 3 0 0 [.ref 30] h (RQ none (fun h9 => SpA h9 (knS own D 61).1 (knS own D 61).2.1 D ∧ SpK h9 ∧ Same spX4 SpN h h9)) := by
  refine ee_entry hst (by decide +kernel) rfl rfl (by simp [Value.category]) (Nat.le_of_ble_eq_true rfl) ?_
  refine ww_lv (lv2 := [.ref 30, UU, UU, UU]) rfl ?_
  refine ww_iconst (v := nI 0) dX7_settleAll_0 (by decide) ?_
  refine ww_sti_n (lv2 := [.ref 30, .int (nI 0), UU, UU]) dX7_settleAll_1 rfl rfl (by decide) rfl ?_
  exact l_Sp_init hst hb 61 0 h rfl hK ho (fun i hi => absurd hi (Nat.not_lt_zero i)) hd Same.rf
