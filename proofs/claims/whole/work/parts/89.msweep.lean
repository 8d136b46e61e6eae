/-! ===== the reference's sweeps ===== -/
theorem lcmp_lt {a b : Nat} (h : a < b) (hb : b < 2 ^ 62) : lg_cmp (lI a) (lI b) = -1 := by rw [lcmp_N (by omega) hb, if_neg (by omega), if_neg (by omega)]
theorem lcmp_ge {a b : Nat} (h : b ≤ a) (ha : a < 2 ^ 62) : ¬ lg_cmp (lI a) (lI b) < 0 := by
  rw [lcmp_N ha (by omega)]
  split
  · decide
  · rw [if_pos (by omega)]; decide
theorem nsub_neg {a b : Nat} (h : a < b) (hb : b ≤ 60) : nI a - nI b < 0 := by
  have h1 : (nI a).toInt = a := Int32.toInt_ofNat_of_lt (by omega)
  have h2 : (nI b).toInt = b := Int32.toInt_ofNat_of_lt (by omega)
  rw [Int32.lt_iff_toInt_lt, Int32.toInt_sub, h1, h2]
  have h3 : ((a : Int) - b).bmod (2 ^ 32) = (a : Int) - b := Int.bmod_eq_of_le (by omega) (by omega)
  rw [h3]
  show (a : Int) - b < 0
  omega
theorem mdO_none {w a b : Nat} (h : mdO w a b = none) : w = 2 ∧ a < b := by
  unfold mdO at h
  split at h
  · cases h
  · split at h
    · split at h
      · cases h
      · exact ⟨by assumption, by omega⟩
    · cases h
theorem mdO_le {w a b n : Nat} (ha : a ≤ 60) (hb : b ≤ 60) (h : mdO w a b = some n) : n ≤ 3600 := by
  have hm : a * b ≤ 60 * 60 := Nat.mul_le_mul ha hb
  unfold mdO at h
  split at h
  · cases h; omega
  · split at h
    · split at h
      · cases h; omega
      · cases h
    · cases h; omega
theorem c_M_made {l : Launch} {Z : EE} (hst : l.stackTraces = false) {w a b n : Nat} (h1 : 1 ≤ w) (h3 : w ≤ 3) (ha : a ≤ 60) (hb : b ≤ 60) (e : mdO w a b = some n) (h : PH) : CC l Z m_X11_madeBy 0 0 0 [.int (nI w), .int (nI a), .int (nI b)] h (RT (some (.int (nI n))) h) := by
  have hw : w = 1 ∨ w = 2 ∨ w = 3 := by omega
  rcases hw with rfl | rfl | rfl
  · cases e; exact c_M_madeBy1 hst a b ha hb h
  · unfold mdO at e
    rw [if_neg (by decide), if_pos rfl] at e
    split at e
    · cases e; exact c_M_madeBy2 hst a b ha hb (by assumption) h
    · cases e
  · cases e; exact c_M_madeBy3 hst a b ha hb h
theorem c_M_madeN {l : Launch} {Z : EE} (hst : l.stackTraces = false) {w a b : Nat} (ha : a ≤ 60) (hb : b ≤ 60) (e : mdO w a b = none) (h : PH) : CC l Z m_X11_madeBy 0 0 0 [.int (nI w), .int (nI a), .int (nI b)] h (RT (some (.int (nI a - nI b))) h) := by
  have h9 := mdO_none e
  rw [h9.1]
  exact c_M_madeByN hst a b ha hb h9.2 h
theorem sw_sum {x y D : Nat} (hD : D ≤ 20) : lI x + lI y + 1000000 * (nI D).toInt64 = lI (x + y + 1000000 * D) := by
  rw [nI_long (by omega), show (1000000 : Int64) = lI 1000000 from rfl, lI_mul, lI_add, lI_add]
def SaA (h : PH) (m : Nat) (v : Nat → Nat) (D : Nat) : Prop := ModS h m ∧ (∀ i, i < 61 → hp_L h (m + 19) i = lI (v i)) ∧ hp_F h m 16 = .int (nI D)
def saX (m : Nat) : Nat → Prop := fun c => c = m + 19
theorem SaA.up {h : PH} {m : Nat} {v : Nat → Nat} {D n x : Nat} (hA : SaA h m v D) : SaA (hp_sL h (m + 19) (vp_updL (hp_L h (m + 19)) n (lI x))) m (ubN v n x) D :=
  ⟨hA.1, fun i hi => by
    rw [hp_L_eq]
    by_cases e : i = n
    · rw [e, ubN_s]; simp [vp_updL]
    · rw [ubN_n _ _ e]; simp [vp_updL, e]; exact hA.2.1 i hi, hA.2.2⟩
theorem swI_le {own : Nat → Nat} {W : Nat} {v : Nat → Nat} (h : swI own W v) (ho : ∀ n, n ≤ 60 → own n ≤ 99000001) {n : Nat} (hn : n ≤ 60) : v n ≤ 99000001 := Nat.le_trans (h.1 n hn) (ho n hn)
set_option maxHeartbeats 4000000 in
set_option maxRecDepth 100000 in
theorem l_M_swb {l : Launch} {Z : EE} (hst : l.stackTraces = false) {h : PH} {m : Nat} {own : Nat → Nat} {D : Nat} (hD : D ≤ 20) (ho : ∀ n, n ≤ 60 → own n ≤ 99000001) {v0 : Nat → Nat} (w a : Nat) (h1 : 1 ≤ w) (h3 : w ≤ 3) (ha : a ≤ 60) {Post : Res → PH → Prop} : ∀ (j b c : Nat) (v : Nat → Nat) (hq : PH), b + j = 61 → SaA hq m v D → swI own (1000000 * D) v → swP (1000000 * D) v0 w a b c v → Same (saX m) (fun _ _ => False) h hq → (∀ c v h9, SaA h9 m v D → swI own (1000000 * D) v → swP (1000000 * D) v0 w a 61 c v → Same (saX m) (fun _ _ => False) h h9 → WW l Z m_X11_laySaid 5 0 0 153 [.ref m, .int (nI c), .int (nI w), .int (nI a), .int (nI 61), UU, UU, UU] [] h9 Post) → WW l Z m_X11_laySaid 5 0 0 63 [.ref m, .int (nI c), .int (nI w), .int (nI a), .int (nI b), UU, UU, UU] [] hq Post := by
  intro j
  induction j with
  | zero =>
    intro b c v hq hj hA hI hP hS hex
    have hb9 : b = 61 := by omega
    subst hb9
    refine ww_iload dX11_laySaid_63 rfl ?_
    refine ww_bipush (v := nI 61) dX11_laySaid_65 (by decide) ?_
    refine ww_icmp_geN (tgt := 153) dX11_laySaid_67 (by decide) (by omega) (by omega) (fun c67 => ?_) (fun c67 => ?_)
    · exact hex c v hq hA hI hP hS
    · exfalso; omega
  | succ j ih =>
    intro b c v hq hj hA hI hP hS hex
    have hc1 : c ≤ 1 := by rcases hP with q | q <;> omega
    have va := swI_le hI ho (n := a) (by omega)
    have vb := swI_le hI ho (n := b) (by omega)
    rcases e : mdO w a b with _ | n
    · refine ww_iload dX11_laySaid_63 rfl ?_
      refine ww_bipush (v := nI 61) dX11_laySaid_65 (by decide) ?_
      refine ww_icmp_geN (tgt := 153) dX11_laySaid_67 (by decide) (by omega) (by omega) (fun c67 => ?_) (fun c67 => ?_)
      · exfalso; omega
      · refine ww_iload_n dX11_laySaid_70 rfl rfl ?_
        refine ww_iload_n dX11_laySaid_71 rfl rfl ?_
        refine ww_iload dX11_laySaid_72 rfl ?_
        refine ww_cSr (M := m_X11_laySaid) (pc := 74) (v := .int (nI a - nI b)) (h1 := hq) (st := []) (d := 5) (bc := 0) (bs := 0) (c_M_madeN hst (by omega) (by omega) e _) vv_X11_madeBy dX11_laySaid_74 wg_1641 rfl rfl rfl (Nat.le_of_ble_eq_true rfl) (Nat.le_of_ble_eq_true rfl) (Nat.le_of_ble_eq_true rfl) (Nat.le_of_ble_eq_true rfl) ?_
        refine ww_sti (lv2 := [.ref m, .int (nI c), .int (nI w), .int (nI a), .int (nI b), .int (nI a - nI b), UU, UU]) dX11_laySaid_77 rfl (by decide) rfl ?_
        refine ww_iload dX11_laySaid_79 rfl ?_
        refine ww_if_lt (tgt := 147) dX11_laySaid_81 (by decide) (fun c81 => ?_) (fun c81 => ?_)
        · refine ww_incN (c := 1) (lv2 := [.ref m, .int (nI c), .int (nI w), .int (nI a), .int (nI (b + 1)), .int (nI a - nI b), UU, UU]) dX11_laySaid_147 rfl rfl rfl (by decide) rfl ?_
          refine ww_goto (tgt := 63) dX11_laySaid_150 (by decide) ?_
          refine ww_fg (lv2 := [.ref m, .int (nI c), .int (nI w), .int (nI a), .int (nI (b + 1)), UU, UU, UU]) ⟨Or.inr rfl, Or.inr rfl, Or.inr rfl, Or.inr rfl, Or.inr rfl, Or.inl rfl, Or.inl rfl, Or.inl rfl, trivial⟩ ?_
          exact ih (b + 1) c v hq (by omega) hA hI (swP_keep hP (fun n q _ => by rw [e] at q; cases q)) hS hex
        · exact absurd (nsub_neg (mdO_none e).2 (by omega)) c81
    · have hn9 := mdO_le (show a ≤ 60 by omega) (show b ≤ 60 by omega) e
      by_cases c9 : n ≤ 60
      · have vn := swI_le hI ho c9
        by_cases hl : v a + v b + 1000000 * D < v n
        · refine ww_iload dX11_laySaid_63 rfl ?_
          refine ww_bipush (v := nI 61) dX11_laySaid_65 (by decide) ?_
          refine ww_icmp_geN (tgt := 153) dX11_laySaid_67 (by decide) (by omega) (by omega) (fun c67 => ?_) (fun c67 => ?_)
          · exfalso; omega
          · refine ww_iload_n dX11_laySaid_70 rfl rfl ?_
            refine ww_iload_n dX11_laySaid_71 rfl rfl ?_
            refine ww_iload dX11_laySaid_72 rfl ?_
            refine ww_cSr (M := m_X11_laySaid) (pc := 74) (v := .int (nI n)) (h1 := hq) (st := []) (d := 5) (bc := 0) (bs := 0) (c_M_made hst (by omega) (by omega) (by omega) (by omega) e _) vv_X11_madeBy dX11_laySaid_74 wg_1641 rfl rfl rfl (Nat.le_of_ble_eq_true rfl) (Nat.le_of_ble_eq_true rfl) (Nat.le_of_ble_eq_true rfl) (Nat.le_of_ble_eq_true rfl) ?_
            refine ww_sti (lv2 := [.ref m, .int (nI c), .int (nI w), .int (nI a), .int (nI b), .int (nI n), UU, UU]) dX11_laySaid_77 rfl (by decide) rfl ?_
            refine ww_iload dX11_laySaid_79 rfl ?_
            refine ww_if_ltN (tgt := 147) dX11_laySaid_81 (by decide) (by omega) ?_
            refine ww_iload dX11_laySaid_84 rfl ?_
            refine ww_bipush (v := nI 61) dX11_laySaid_86 (by decide) ?_
            refine ww_icmp_ltN (tgt := 94) dX11_laySaid_88 (by decide) (by omega) (by omega) (fun c88 => ?_) (fun c88 => ?_)
            · refine ww_aload_n dX11_laySaid_94 rfl rfl ?_
              refine ww_get 39 dX11_laySaid_95 hA.1.K0 rfl (by decide) inX11 wg_1279 hA.1.F19 ?_
              refine ww_iload_n dX11_laySaid_98 rfl rfl ?_
              refine ww_laldF dX11_laySaid_99 hA.1.K19 rfl (by omega) (by omega) ?_
              refine ww_sk (st2 := [.long (lI (v a))]) (by rw [hA.2.1 a (by omega)]) ?_
              refine ww_aload_n dX11_laySaid_100 rfl rfl ?_
              refine ww_get 39 dX11_laySaid_101 hA.1.K0 rfl (by decide) inX11 wg_1279 hA.1.F19 ?_
              refine ww_iload dX11_laySaid_104 rfl ?_
              refine ww_laldF dX11_laySaid_106 hA.1.K19 rfl (by omega) (by omega) ?_
              refine ww_sk (st2 := [.long (lI (v b)), .long (lI (v a))]) (by rw [hA.2.1 b (by omega)]) ?_
              refine ww_ladd dX11_laySaid_107 ?_
              refine ww_ldc2 (v := 1000000) dX11_laySaid_108 wg_1640 ?_
              refine ww_aload_n dX11_laySaid_111 rfl rfl ?_
              refine ww_get 16 dX11_laySaid_112 hA.1.K0 rfl (by decide) inX11 wg_1256 hA.2.2 ?_
              refine ww_i2l dX11_laySaid_115 ?_
              refine ww_lmul dX11_laySaid_116 ?_
              refine ww_ladd dX11_laySaid_117 ?_
              refine ww_sk (st2 := [.long (lI (v a + v b + 1000000 * D))]) (by rw [sw_sum hD]) ?_
              refine ww_stl (lv2 := [.ref m, .int (nI c), .int (nI w), .int (nI a), .int (nI b), .int (nI n), .long (lI (v a + v b + 1000000 * D)), UU]) dX11_laySaid_118 rfl (by decide) rfl ?_
              refine ww_lload dX11_laySaid_120 rfl ?_
              refine ww_aload_n dX11_laySaid_122 rfl rfl ?_
              refine ww_get 39 dX11_laySaid_123 hA.1.K0 rfl (by decide) inX11 wg_1279 hA.1.F19 ?_
              refine ww_iload dX11_laySaid_126 rfl ?_
              refine ww_laldF dX11_laySaid_128 hA.1.K19 rfl (by omega) (by omega) ?_
              refine ww_sk (st2 := [.long (lI (v n)), .long (lI (v a + v b + 1000000 * D))]) (by rw [hA.2.1 n (by omega)]) ?_
              refine ww_lcmp dX11_laySaid_129 ?_
              refine ww_sk (st2 := [.int (-1)]) (by rw [lcmp_lt hl (by omega)]) ?_
              refine ww_if_lt (tgt := 136) dX11_laySaid_130 (by decide) (fun c130 => ?_) (fun c130 => ?_)
              · refine ww_aload_n dX11_laySaid_136 rfl rfl ?_
                refine ww_get 39 dX11_laySaid_137 hA.1.K0 rfl (by decide) inX11 wg_1279 hA.1.F19 ?_
                refine ww_iload dX11_laySaid_140 rfl ?_
                refine ww_lload dX11_laySaid_142 rfl ?_
                refine ww_lastF dX11_laySaid_144 hA.1.K19 rfl (by omega) (by omega) ?_
                refine ww_iconst (v := nI 1) dX11_laySaid_145 (by decide) ?_
                refine ww_sti_n (lv2 := [.ref m, .int (nI 1), .int (nI w), .int (nI a), .int (nI b), .int (nI n), .long (lI (v a + v b + 1000000 * D)), UU]) dX11_laySaid_146 rfl rfl (by decide) rfl ?_
                refine ww_incN (c := 1) (lv2 := [.ref m, .int (nI 1), .int (nI w), .int (nI a), .int (nI (b + 1)), .int (nI n), .long (lI (v a + v b + 1000000 * D)), UU]) dX11_laySaid_147 rfl rfl rfl (by decide) rfl ?_
                refine ww_goto (tgt := 63) dX11_laySaid_150 (by decide) ?_
                refine ww_fg (lv2 := [.ref m, .int (nI 1), .int (nI w), .int (nI a), .int (nI (b + 1)), UU, UU, UU]) ⟨Or.inr rfl, Or.inr rfl, Or.inr rfl, Or.inr rfl, Or.inr rfl, Or.inl rfl, Or.inl rfl, Or.inl rfl, trivial⟩ ?_
                exact ih (b + 1) 1 _ _ (by omega) (SaA.up hA) (swI_up hI (by omega) (by omega) (by omega) (mdO_mk e) hl) (swP_new hP (by omega) hl) (hS.sL rfl) hex
              · exact absurd (by decide) c130
            · exfalso; omega
        · refine ww_iload dX11_laySaid_63 rfl ?_
          refine ww_bipush (v := nI 61) dX11_laySaid_65 (by decide) ?_
          refine ww_icmp_geN (tgt := 153) dX11_laySaid_67 (by decide) (by omega) (by omega) (fun c67 => ?_) (fun c67 => ?_)
          · exfalso; omega
          · refine ww_iload_n dX11_laySaid_70 rfl rfl ?_
            refine ww_iload_n dX11_laySaid_71 rfl rfl ?_
            refine ww_iload dX11_laySaid_72 rfl ?_
            refine ww_cSr (M := m_X11_laySaid) (pc := 74) (v := .int (nI n)) (h1 := hq) (st := []) (d := 5) (bc := 0) (bs := 0) (c_M_made hst (by omega) (by omega) (by omega) (by omega) e _) vv_X11_madeBy dX11_laySaid_74 wg_1641 rfl rfl rfl (Nat.le_of_ble_eq_true rfl) (Nat.le_of_ble_eq_true rfl) (Nat.le_of_ble_eq_true rfl) (Nat.le_of_ble_eq_true rfl) ?_
            refine ww_sti (lv2 := [.ref m, .int (nI c), .int (nI w), .int (nI a), .int (nI b), .int (nI n), UU, UU]) dX11_laySaid_77 rfl (by decide) rfl ?_
            refine ww_iload dX11_laySaid_79 rfl ?_
            refine ww_if_ltN (tgt := 147) dX11_laySaid_81 (by decide) (by omega) ?_
            refine ww_iload dX11_laySaid_84 rfl ?_
            refine ww_bipush (v := nI 61) dX11_laySaid_86 (by decide) ?_
            refine ww_icmp_ltN (tgt := 94) dX11_laySaid_88 (by decide) (by omega) (by omega) (fun c88 => ?_) (fun c88 => ?_)
            · refine ww_aload_n dX11_laySaid_94 rfl rfl ?_
              refine ww_get 39 dX11_laySaid_95 hA.1.K0 rfl (by decide) inX11 wg_1279 hA.1.F19 ?_
              refine ww_iload_n dX11_laySaid_98 rfl rfl ?_
              refine ww_laldF dX11_laySaid_99 hA.1.K19 rfl (by omega) (by omega) ?_
              refine ww_sk (st2 := [.long (lI (v a))]) (by rw [hA.2.1 a (by omega)]) ?_
              refine ww_aload_n dX11_laySaid_100 rfl rfl ?_
              refine ww_get 39 dX11_laySaid_101 hA.1.K0 rfl (by decide) inX11 wg_1279 hA.1.F19 ?_
              refine ww_iload dX11_laySaid_104 rfl ?_
              refine ww_laldF dX11_laySaid_106 hA.1.K19 rfl (by omega) (by omega) ?_
              refine ww_sk (st2 := [.long (lI (v b)), .long (lI (v a))]) (by rw [hA.2.1 b (by omega)]) ?_
              refine ww_ladd dX11_laySaid_107 ?_
              refine ww_ldc2 (v := 1000000) dX11_laySaid_108 wg_1640 ?_
              refine ww_aload_n dX11_laySaid_111 rfl rfl ?_
              refine ww_get 16 dX11_laySaid_112 hA.1.K0 rfl (by decide) inX11 wg_1256 hA.2.2 ?_
              refine ww_i2l dX11_laySaid_115 ?_
              refine ww_lmul dX11_laySaid_116 ?_
              refine ww_ladd dX11_laySaid_117 ?_
              refine ww_sk (st2 := [.long (lI (v a + v b + 1000000 * D))]) (by rw [sw_sum hD]) ?_
              refine ww_stl (lv2 := [.ref m, .int (nI c), .int (nI w), .int (nI a), .int (nI b), .int (nI n), .long (lI (v a + v b + 1000000 * D)), UU]) dX11_laySaid_118 rfl (by decide) rfl ?_
              refine ww_lload dX11_laySaid_120 rfl ?_
              refine ww_aload_n dX11_laySaid_122 rfl rfl ?_
              refine ww_get 39 dX11_laySaid_123 hA.1.K0 rfl (by decide) inX11 wg_1279 hA.1.F19 ?_
              refine ww_iload dX11_laySaid_126 rfl ?_
              refine ww_laldF dX11_laySaid_128 hA.1.K19 rfl (by omega) (by omega) ?_
              refine ww_sk (st2 := [.long (lI (v n)), .long (lI (v a + v b + 1000000 * D))]) (by rw [hA.2.1 n (by omega)]) ?_
              refine ww_lcmp dX11_laySaid_129 ?_
              refine ww_if_lt (tgt := 136) dX11_laySaid_130 (by decide) (fun c130 => ?_) (fun c130 => ?_)
              · exact absurd c130 (lcmp_ge (by omega) (by omega))
              · refine ww_goto (tgt := 147) dX11_laySaid_133 (by decide) ?_
                refine ww_incN (c := 1) (lv2 := [.ref m, .int (nI c), .int (nI w), .int (nI a), .int (nI (b + 1)), .int (nI n), .long (lI (v a + v b + 1000000 * D)), UU]) dX11_laySaid_147 rfl rfl rfl (by decide) rfl ?_
                refine ww_goto (tgt := 63) dX11_laySaid_150 (by decide) ?_
                refine ww_fg (lv2 := [.ref m, .int (nI c), .int (nI w), .int (nI a), .int (nI (b + 1)), UU, UU, UU]) ⟨Or.inr rfl, Or.inr rfl, Or.inr rfl, Or.inr rfl, Or.inr rfl, Or.inl rfl, Or.inl rfl, Or.inl rfl, trivial⟩ ?_
                exact ih (b + 1) c v hq (by omega) hA hI (swP_keep hP (fun n9 q q2 => by rw [e] at q; cases q; omega)) hS hex
            · exfalso; omega
      · refine ww_iload dX11_laySaid_63 rfl ?_
        refine ww_bipush (v := nI 61) dX11_laySaid_65 (by decide) ?_
        refine ww_icmp_geN (tgt := 153) dX11_laySaid_67 (by decide) (by omega) (by omega) (fun c67 => ?_) (fun c67 => ?_)
        · exfalso; omega
        · refine ww_iload_n dX11_laySaid_70 rfl rfl ?_
          refine ww_iload_n dX11_laySaid_71 rfl rfl ?_
          refine ww_iload dX11_laySaid_72 rfl ?_
          refine ww_cSr (M := m_X11_laySaid) (pc := 74) (v := .int (nI n)) (h1 := hq) (st := []) (d := 5) (bc := 0) (bs := 0) (c_M_made hst (by omega) (by omega) (by omega) (by omega) e _) vv_X11_madeBy dX11_laySaid_74 wg_1641 rfl rfl rfl (Nat.le_of_ble_eq_true rfl) (Nat.le_of_ble_eq_true rfl) (Nat.le_of_ble_eq_true rfl) (Nat.le_of_ble_eq_true rfl) ?_
          refine ww_sti (lv2 := [.ref m, .int (nI c), .int (nI w), .int (nI a), .int (nI b), .int (nI n), UU, UU]) dX11_laySaid_77 rfl (by decide) rfl ?_
          refine ww_iload dX11_laySaid_79 rfl ?_
          refine ww_if_ltN (tgt := 147) dX11_laySaid_81 (by decide) (by omega) ?_
          refine ww_iload dX11_laySaid_84 rfl ?_
          refine ww_bipush (v := nI 61) dX11_laySaid_86 (by decide) ?_
          refine ww_icmp_ltN (tgt := 94) dX11_laySaid_88 (by decide) (by omega) (by omega) (fun c88 => ?_) (fun c88 => ?_)
          · exfalso; omega
          · refine ww_goto (tgt := 147) dX11_laySaid_91 (by decide) ?_
            refine ww_incN (c := 1) (lv2 := [.ref m, .int (nI c), .int (nI w), .int (nI a), .int (nI (b + 1)), .int (nI n), UU, UU]) dX11_laySaid_147 rfl rfl rfl (by decide) rfl ?_
            refine ww_goto (tgt := 63) dX11_laySaid_150 (by decide) ?_
            refine ww_fg (lv2 := [.ref m, .int (nI c), .int (nI w), .int (nI a), .int (nI (b + 1)), UU, UU, UU]) ⟨Or.inr rfl, Or.inr rfl, Or.inr rfl, Or.inr rfl, Or.inr rfl, Or.inl rfl, Or.inl rfl, Or.inl rfl, trivial⟩ ?_
            exact ih (b + 1) c v hq (by omega) hA hI (swP_keep hP (fun n9 q q2 => by rw [e] at q; cases q; omega)) hS hex
set_option maxHeartbeats 4000000 in
set_option maxRecDepth 100000 in
theorem l_M_swa {l : Launch} {Z : EE} (hst : l.stackTraces = false) {h : PH} {m : Nat} {own : Nat → Nat} {D : Nat} (hD : D ≤ 20) (ho : ∀ n, n ≤ 60 → own n ≤ 99000001) {v0 : Nat → Nat} (w : Nat) (h1 : 1 ≤ w) (h3 : w ≤ 3) {Post : Res → PH → Prop} : ∀ (j a c : Nat) (v : Nat → Nat) (hq : PH), a + j = 61 → SaA hq m v D → swI own (1000000 * D) v → swP (1000000 * D) v0 w a 0 c v → Same (saX m) (fun _ _ => False) h hq → (∀ c v h9, SaA h9 m v D → swI own (1000000 * D) v → swP (1000000 * D) v0 w 61 0 c v → Same (saX m) (fun _ _ => False) h h9 → WW l Z m_X11_laySaid 5 0 0 159 [.ref m, .int (nI c), .int (nI w), .int (nI 61), UU, UU, UU, UU] [] h9 Post) → WW l Z m_X11_laySaid 5 0 0 54 [.ref m, .int (nI c), .int (nI w), .int (nI a), UU, UU, UU, UU] [] hq Post := by
  intro j
  induction j with
  | zero =>
    intro a c v hq hj hA hI hP hS hex
    have hb9 : a = 61 := by omega
    subst hb9
    refine ww_iload_n dX11_laySaid_54 rfl rfl ?_
    refine ww_bipush (v := nI 61) dX11_laySaid_55 (by decide) ?_
    refine ww_icmp_geN (tgt := 159) dX11_laySaid_57 (by decide) (by omega) (by omega) (fun c57 => ?_) (fun c57 => ?_)
    · exact hex c v hq hA hI hP hS
    · exfalso; omega
  | succ j ih =>
    intro a c v hq hj hA hI hP hS hex
    refine ww_iload_n dX11_laySaid_54 rfl rfl ?_
    refine ww_bipush (v := nI 61) dX11_laySaid_55 (by decide) ?_
    refine ww_icmp_geN (tgt := 159) dX11_laySaid_57 (by decide) (by omega) (by omega) (fun c57 => ?_) (fun c57 => ?_)
    · exfalso; omega
    · refine ww_iconst (v := nI 0) dX11_laySaid_60 (by decide) ?_
      refine ww_sti (lv2 := [.ref m, .int (nI c), .int (nI w), .int (nI a), .int (nI 0), UU, UU, UU]) dX11_laySaid_61 rfl (by decide) rfl ?_
      refine l_M_swb hst hD ho w a h1 h3 (by omega) 61 0 c v hq rfl hA hI hP hS (fun c9 v9 h9 a9 i9 p9 s9 => ?_)
      refine ww_incN (c := 1) (lv2 := [.ref m, .int (nI c9), .int (nI w), .int (nI (a + 1)), .int (nI 61), UU, UU, UU]) dX11_laySaid_153 rfl rfl rfl (by decide) rfl ?_
      refine ww_goto (tgt := 54) dX11_laySaid_156 (by decide) ?_
      refine ww_fg (lv2 := [.ref m, .int (nI c9), .int (nI w), .int (nI (a + 1)), UU, UU, UU, UU]) ⟨Or.inr rfl, Or.inr rfl, Or.inr rfl, Or.inr rfl, Or.inl rfl, Or.inl rfl, Or.inl rfl, Or.inl rfl, trivial⟩ ?_
      exact ih (a + 1) c9 v9 h9 (by omega) a9 i9 (swP_row p9) s9 hex
set_option maxHeartbeats 4000000 in
set_option maxRecDepth 100000 in
theorem l_M_sww {l : Launch} {Z : EE} (hst : l.stackTraces = false) {h : PH} {m : Nat} {own : Nat → Nat} {D : Nat} (hD : D ≤ 20) (ho : ∀ n, n ≤ 60 → own n ≤ 99000001) {v0 : Nat → Nat} {Post : Res → PH → Prop} : ∀ (j w c : Nat) (v : Nat → Nat) (hq : PH), w + j = 4 → 1 ≤ w → SaA hq m v D → swI own (1000000 * D) v → swP (1000000 * D) v0 w 0 0 c v → Same (saX m) (fun _ _ => False) h hq → (∀ c v h9, SaA h9 m v D → swI own (1000000 * D) v → swP (1000000 * D) v0 4 0 0 c v → Same (saX m) (fun _ _ => False) h h9 → WW l Z m_X11_laySaid 5 0 0 165 [.ref m, .int (nI c), .int (nI 4), UU, UU, UU, UU, UU] [] h9 Post) → WW l Z m_X11_laySaid 5 0 0 47 [.ref m, .int (nI c), .int (nI w), UU, UU, UU, UU, UU] [] hq Post := by
  intro j
  induction j with
  | zero =>
    intro w c v hq hj h1 hA hI hP hS hex
    have hb9 : w = 4 := by omega
    subst hb9
    refine ww_iload_n dX11_laySaid_47 rfl rfl ?_
    refine ww_iconst (v := nI 3) dX11_laySaid_48 (by decide) ?_
    refine ww_icmp_gtN (tgt := 165) dX11_laySaid_49 (by decide) (by omega) (by omega) (fun c49 => ?_) (fun c49 => ?_)
    · exact hex c v hq hA hI hP hS
    · exfalso; omega
  | succ j ih =>
    intro w c v hq hj h1 hA hI hP hS hex
    refine ww_iload_n dX11_laySaid_47 rfl rfl ?_
    refine ww_iconst (v := nI 3) dX11_laySaid_48 (by decide) ?_
    refine ww_icmp_gtN (tgt := 165) dX11_laySaid_49 (by decide) (by omega) (by omega) (fun c49 => ?_) (fun c49 => ?_)
    · exfalso; omega
    · refine ww_iconst (v := nI 0) dX11_laySaid_52 (by decide) ?_
      refine ww_sti_n (lv2 := [.ref m, .int (nI c), .int (nI w), .int (nI 0), UU, UU, UU, UU]) dX11_laySaid_53 rfl rfl (by decide) rfl ?_
      refine l_M_swa hst hD ho w h1 (by omega) 61 0 c v hq rfl hA hI hP hS (fun c9 v9 h9 a9 i9 p9 s9 => ?_)
      refine ww_incN (c := 1) (lv2 := [.ref m, .int (nI c9), .int (nI (w + 1)), .int (nI 61), UU, UU, UU, UU]) dX11_laySaid_159 rfl rfl rfl (by decide) rfl ?_
      refine ww_goto (tgt := 47) dX11_laySaid_162 (by decide) ?_
      refine ww_fg (lv2 := [.ref m, .int (nI c9), .int (nI (w + 1)), UU, UU, UU, UU, UU]) ⟨Or.inr rfl, Or.inr rfl, Or.inr rfl, Or.inl rfl, Or.inl rfl, Or.inl rfl, Or.inl rfl, Or.inl rfl, trivial⟩ ?_
      exact ih (w + 1) c9 v9 h9 (by omega) (by omega) a9 i9 (swP_way p9) s9 hex
set_option maxHeartbeats 4000000 in
set_option maxRecDepth 100000 in
theorem l_M_sw {l : Launch} {Z : EE} (hst : l.stackTraces = false) {h : PH} {m : Nat} {own : Nat → Nat} {D : Nat} (hD : D ≤ 20) (ho : ∀ n, n ≤ 60 → own n ≤ 99000001) {Post : Res → PH → Prop} : ∀ (k : Nat) (v : Nat → Nat) (hq : PH), smN v 61 < k → SaA hq m v D → swI own (1000000 * D) v → Same (saX m) (fun _ _ => False) h hq → (∀ v h9, SaA h9 m v D → fixU own (1000000 * D) v → Same (saX m) (fun _ _ => False) h h9 → WW l Z m_X11_laySaid 5 0 0 168 [.ref m, .int (nI 0), UU, UU, UU, UU, UU, UU] [] h9 Post) → WW l Z m_X11_laySaid 5 0 0 39 [.ref m, .int (nI 1), UU, UU, UU, UU, UU, UU] [] hq Post := by
  intro k
  induction k with
  | zero => intro v hq hk; exfalso; omega
  | succ k ih =>
    intro v hq hk hA hI hS hex
    refine ww_iload_n dX11_laySaid_39 rfl rfl ?_
    refine ww_if_eqN (tgt := 168) dX11_laySaid_40 (by decide) (by omega) (fun c40 => ?_) (fun c40 => ?_)
    · exfalso; omega
    · refine ww_iconst (v := nI 0) dX11_laySaid_43 (by decide) ?_
      refine ww_sti_n (lv2 := [.ref m, .int (nI 0), UU, UU, UU, UU, UU, UU]) dX11_laySaid_44 rfl rfl (by decide) rfl ?_
      refine ww_iconst (v := nI 1) dX11_laySaid_45 (by decide) ?_
      refine ww_sti_n (lv2 := [.ref m, .int (nI 0), .int (nI 1), UU, UU, UU, UU, UU]) dX11_laySaid_46 rfl rfl (by decide) rfl ?_
      refine l_M_sww hst hD ho 3 1 0 v hq rfl (by omega) hA hI swP_0 hS (fun c9 v9 h9 a9 i9 p9 s9 => ?_)
      refine ww_goto (tgt := 39) dX11_laySaid_165 (by decide) ?_
      refine ww_fg (lv2 := [.ref m, .int (nI c9), UU, UU, UU, UU, UU, UU]) ⟨Or.inr rfl, Or.inr rfl, Or.inl rfl, Or.inl rfl, Or.inl rfl, Or.inl rfl, Or.inl rfl, Or.inl rfl, trivial⟩ ?_
      have q9 : c9 = 0 ∨ (c9 = 1 ∧ smN v9 61 < smN v 61) := by
        rcases p9 with q | q
        · exact Or.inl q.1
        · exact Or.inr q
      rcases q9 with q9 | q9
      · subst q9
        refine ww_iload_n dX11_laySaid_39 rfl rfl ?_
        refine ww_if_eqN (tgt := 168) dX11_laySaid_40 (by decide) (by omega) (fun c40 => ?_) (fun c40 => ?_)
        · exact hex v9 h9 a9 (sw_fix i9 p9) s9
        · exfalso; omega
      · obtain ⟨q1, q2⟩ := q9
        subst q1
        exact ih v9 h9 (by omega) a9 i9 s9 hex
