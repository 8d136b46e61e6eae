/-! ===== how the reference says a number ===== -/
def rfT (v : Nat → Nat) (D n a b : Nat) : Bool := v a + v b + 1000000 * D == v n
def rfP (v : Nat → Nat) (D n w a b : Nat) : Bool := mdO w a b == some n && rfT v D n a b
def rsS (w a : Nat) : Nat := if w = 2 then 0 else a
def rsd (v : Nat → Nat) (D n w : Nat) : Nat → Nat → Option (Nat × Nat)
  | _, 0 => none
  | a, j + 1 => match fstN (rfP v D n w a) (rsS w a) (61 - rsS w a) with
    | some b => some (a, b)
    | none => rsd v D n w (a + 1) j
theorem rsd_t {v : Nat → Nat} {D n w a b : Nat} (j : Nat) (h : fstN (rfP v D n w a) (rsS w a) (61 - rsS w a) = some b) : rsd v D n w a (j + 1) = some (a, b) := by simp [rsd, h]
theorem rsd_f {v : Nat → Nat} {D n w a : Nat} (j : Nat) (h : fstN (rfP v D n w a) (rsS w a) (61 - rsS w a) = none) : rsd v D n w a (j + 1) = rsd v D n w (a + 1) j := by simp [rsd, h]
def rsw (v : Nat → Nat) (D n : Nat) : Nat → Nat → Option WAY
  | _, 0 => none
  | w, j + 1 => match rsd v D n w 0 61 with
    | some (a, b) => some (w, a, b)
    | none => rsw v D n (w + 1) j
theorem rsw_t {v : Nat → Nat} {D n w a b : Nat} (j : Nat) (h : rsd v D n w 0 61 = some (a, b)) : rsw v D n w (j + 1) = some (w, a, b) := by simp [rsw, h]
theorem rsw_f {v : Nat → Nat} {D n w : Nat} (j : Nat) (h : rsd v D n w 0 61 = none) : rsw v D n w (j + 1) = rsw v D n (w + 1) j := by simp [rsw, h]
theorem lcmp_eqN {a b : Nat} (ha : a < 2 ^ 62) (h : a = b) : lg_cmp (lI a) (lI b) = 0 := by rw [h]; rw [lcmp_N (by omega) (by omega), if_neg (by omega), if_pos rfl]
theorem lcmp_neN {a b : Nat} (ha : a < 2 ^ 62) (hb : b < 2 ^ 62) (h : a ≠ b) : lg_cmp (lI a) (lI b) ≠ 0 := by
  rw [lcmp_N ha hb]
  split
  · decide
  · first | decide | (rw [if_neg h]; decide)
def wyV (w a b k : Nat) : Int32 := if k = 0 then nI w else if k = 1 then nI a else nI b
theorem nI_nn {n : Nat} (hn : n ≤ 60 := by omega) : ¬ nI n < 0 := by
  rw [Int32.not_lt, Int32.le_iff_toInt_le, show (nI n).toInt = n from Int32.toInt_ofNat_of_lt (by omega)]
  show (0 : Int) ≤ n
  omega
set_option maxHeartbeats 4000000 in
set_option maxRecDepth 100000 in
theorem l_M_rfb {l : Launch} {Z : EE} (hst : l.stackTraces = false) {h : PH} {m : Nat} {v : Nat → Nat} {D : Nat} (hA : SaA h m v D) (hD : D ≤ 20) (hv : ∀ i, i ≤ 60 → v i ≤ 99999999) (n : Nat) (hn : n ≤ 60) (k : Nat) (hk : k ≤ 2) (w a : Nat) (h1 : 1 ≤ w) (h3 : w ≤ 3) (ha : a ≤ 60) {Post : Res → PH → Prop} : ∀ (j b : Nat), b + j = 61 → (fstN (rfP v D n w a) b j = none → WW l Z m_X11_saying 6 0 0 171 [.ref m, .int (nI n), .int (nI k), .int (nI w), .int (nI a), .int (nI 61)] [] h Post) → (∀ b9, fstN (rfP v D n w a) b j = some b9 → Post (.inl (some (.int (wyV w a b9 k)))) h) → WW l Z m_X11_saying 6 0 0 90 [.ref m, .int (nI n), .int (nI k), .int (nI w), .int (nI a), .int (nI b)] [] h Post := by
  intro j
  induction j with
  | zero =>
    intro b hj hno hyes
    have hb9 : b = 61 := by omega
    subst hb9
    refine ww_iload dX11_saying_90 rfl ?_
    refine ww_bipush (v := nI 61) dX11_saying_92 (by decide) ?_
    refine ww_icmp_geN (tgt := 171) dX11_saying_94 (by decide) (by omega) (by omega) (fun c94 => ?_) (fun c94 => ?_)
    · exact hno rfl
    · exfalso; omega
  | succ j ih =>
    intro b hj hno hyes
    have va := hv a (by omega)
    have vb := hv b (by omega)
    have vn := hv n (by omega)
    rcases e : mdO w a b with _ | r
    · have hP : rfP v D n w a b = false := by simp [rfP, e]
      rw [fstN_f j hP] at hno hyes
      refine ww_iload dX11_saying_90 rfl ?_
      refine ww_bipush (v := nI 61) dX11_saying_92 (by decide) ?_
      refine ww_icmp_geN (tgt := 171) dX11_saying_94 (by decide) (by omega) (by omega) (fun c94 => ?_) (fun c94 => ?_)
      · exfalso; omega
      · refine ww_iload_n dX11_saying_97 rfl rfl ?_
        refine ww_iload dX11_saying_98 rfl ?_
        refine ww_iload dX11_saying_100 rfl ?_
        refine ww_cSr (M := m_X11_saying) (pc := 102) (v := .int (nI a - nI b)) (h1 := h) (st := []) (d := 6) (bc := 0) (bs := 0) (c_M_madeN hst (by omega) (by omega) e _) vv_X11_madeBy dX11_saying_102 wg_1641 rfl rfl rfl (Nat.le_of_ble_eq_true rfl) (Nat.le_of_ble_eq_true rfl) (Nat.le_of_ble_eq_true rfl) (Nat.le_of_ble_eq_true rfl) ?_
        refine ww_iload_n dX11_saying_105 rfl rfl ?_
        refine ww_icmp_ne (tgt := 165) dX11_saying_106 (by decide) (fun c106 => ?_) (fun c106 => ?_)
        · refine ww_incN (c := 1) (lv2 := [.ref m, .int (nI n), .int (nI k), .int (nI w), .int (nI a), .int (nI (b + 1))]) dX11_saying_165 rfl rfl rfl (by decide) rfl ?_
          refine ww_goto (tgt := 90) dX11_saying_168 (by decide) ?_
          exact ih (b + 1) (by omega) hno hyes
        · exact absurd (nsub_neg (mdO_none e).2 (by omega)) (by first | (rw [c106]; exact nI_nn) | (have q := Classical.not_not.mp c106; rw [q]; exact nI_nn))
    · have hr9 := mdO_le (show a ≤ 60 by omega) (show b ≤ 60 by omega) e
      by_cases c9 : r = n
      · by_cases hl : v a + v b + 1000000 * D = v n
        · have hP : rfP v D n w a b = true := by simp [rfP, rfT, e, c9, hl]
          rw [fstN_t j hP] at hyes
          have hy := hyes b rfl
          have hk3 : k = 0 ∨ k = 1 ∨ k = 2 := by omega
          rcases hk3 with rfl | rfl | rfl
          · refine ww_iload dX11_saying_90 rfl ?_
            refine ww_bipush (v := nI 61) dX11_saying_92 (by decide) ?_
            refine ww_icmp_geN (tgt := 171) dX11_saying_94 (by decide) (by omega) (by omega) (fun c94 => ?_) (fun c94 => ?_)
            · exfalso; omega
            · refine ww_iload_n dX11_saying_97 rfl rfl ?_
              refine ww_iload dX11_saying_98 rfl ?_
              refine ww_iload dX11_saying_100 rfl ?_
              refine ww_cSr (M := m_X11_saying) (pc := 102) (v := .int (nI r)) (h1 := h) (st := []) (d := 6) (bc := 0) (bs := 0) (c_M_made hst (by omega) (by omega) (by omega) (by omega) e _) vv_X11_madeBy dX11_saying_102 wg_1641 rfl rfl rfl (Nat.le_of_ble_eq_true rfl) (Nat.le_of_ble_eq_true rfl) (Nat.le_of_ble_eq_true rfl) (Nat.le_of_ble_eq_true rfl) ?_
              refine ww_iload_n dX11_saying_105 rfl rfl ?_
              refine ww_icmp_neN (tgt := 165) dX11_saying_106 (by decide) (by omega) (by omega) (fun c106 => ?_) (fun c106 => ?_)
              · exfalso; omega
              · refine ww_aload_n dX11_saying_109 rfl rfl ?_
                refine ww_get 39 dX11_saying_110 hA.1.K0 rfl (by decide) inX11 wg_1279 hA.1.F19 ?_
                refine ww_iload dX11_saying_113 rfl ?_
                refine ww_laldF dX11_saying_115 hA.1.K19 rfl (by omega) (by omega) ?_
                refine ww_sk (st2 := [.long (lI (v a))]) (by rw [hA.2.1 a (by omega)]) ?_
                refine ww_aload_n dX11_saying_116 rfl rfl ?_
                refine ww_get 39 dX11_saying_117 hA.1.K0 rfl (by decide) inX11 wg_1279 hA.1.F19 ?_
                refine ww_iload dX11_saying_120 rfl ?_
                refine ww_laldF dX11_saying_122 hA.1.K19 rfl (by omega) (by omega) ?_
                refine ww_sk (st2 := [.long (lI (v b)), .long (lI (v a))]) (by rw [hA.2.1 b (by omega)]) ?_
                refine ww_ladd dX11_saying_123 ?_
                refine ww_ldc2 (v := 1000000) dX11_saying_124 wg_1640 ?_
                refine ww_aload_n dX11_saying_127 rfl rfl ?_
                refine ww_get 16 dX11_saying_128 hA.1.K0 rfl (by decide) inX11 wg_1256 hA.2.2 ?_
                refine ww_i2l dX11_saying_131 ?_
                refine ww_lmul dX11_saying_132 ?_
                refine ww_ladd dX11_saying_133 ?_
                refine ww_sk (st2 := [.long (lI (v a + v b + 1000000 * D))]) (by rw [sw_sum hD]) ?_
                refine ww_aload_n dX11_saying_134 rfl rfl ?_
                refine ww_get 39 dX11_saying_135 hA.1.K0 rfl (by decide) inX11 wg_1279 hA.1.F19 ?_
                refine ww_iload_n dX11_saying_138 rfl rfl ?_
                refine ww_laldF dX11_saying_139 hA.1.K19 rfl (by omega) (by omega) ?_
                refine ww_sk (st2 := [.long (lI (v n)), .long (lI (v a + v b + 1000000 * D))]) (by rw [hA.2.1 n (by omega)]) ?_
                refine ww_lcmp dX11_saying_140 ?_
                refine ww_sk (st2 := [.int (nI 0)]) (by rw [lcmp_eqN (by omega) hl, nI_0]) ?_
                refine ww_if_neN (tgt := 165) dX11_saying_141 (by decide) (by omega) (fun c141 => ?_) (fun c141 => ?_)
                · exfalso; omega
                · refine ww_iload_n dX11_saying_144 rfl rfl ?_
                  refine ww_if_neN (tgt := 152) dX11_saying_145 (by decide) (by omega) (fun c145 => ?_) (fun c145 => ?_)
                  · exfalso; omega
                  · refine ww_iload_n dX11_saying_148 rfl rfl ?_
                    refine ww_goto (tgt := 164) dX11_saying_149 (by decide) ?_
                    exact ww_iret dX11_saying_164 rfl hy
          · refine ww_iload dX11_saying_90 rfl ?_
            refine ww_bipush (v := nI 61) dX11_saying_92 (by decide) ?_
            refine ww_icmp_geN (tgt := 171) dX11_saying_94 (by decide) (by omega) (by omega) (fun c94 => ?_) (fun c94 => ?_)
            · exfalso; omega
            · refine ww_iload_n dX11_saying_97 rfl rfl ?_
              refine ww_iload dX11_saying_98 rfl ?_
              refine ww_iload dX11_saying_100 rfl ?_
              refine ww_cSr (M := m_X11_saying) (pc := 102) (v := .int (nI r)) (h1 := h) (st := []) (d := 6) (bc := 0) (bs := 0) (c_M_made hst (by omega) (by omega) (by omega) (by omega) e _) vv_X11_madeBy dX11_saying_102 wg_1641 rfl rfl rfl (Nat.le_of_ble_eq_true rfl) (Nat.le_of_ble_eq_true rfl) (Nat.le_of_ble_eq_true rfl) (Nat.le_of_ble_eq_true rfl) ?_
              refine ww_iload_n dX11_saying_105 rfl rfl ?_
              refine ww_icmp_neN (tgt := 165) dX11_saying_106 (by decide) (by omega) (by omega) (fun c106 => ?_) (fun c106 => ?_)
              · exfalso; omega
              · refine ww_aload_n dX11_saying_109 rfl rfl ?_
                refine ww_get 39 dX11_saying_110 hA.1.K0 rfl (by decide) inX11 wg_1279 hA.1.F19 ?_
                refine ww_iload dX11_saying_113 rfl ?_
                refine ww_laldF dX11_saying_115 hA.1.K19 rfl (by omega) (by omega) ?_
                refine ww_sk (st2 := [.long (lI (v a))]) (by rw [hA.2.1 a (by omega)]) ?_
                refine ww_aload_n dX11_saying_116 rfl rfl ?_
                refine ww_get 39 dX11_saying_117 hA.1.K0 rfl (by decide) inX11 wg_1279 hA.1.F19 ?_
                refine ww_iload dX11_saying_120 rfl ?_
                refine ww_laldF dX11_saying_122 hA.1.K19 rfl (by omega) (by omega) ?_
                refine ww_sk (st2 := [.long (lI (v b)), .long (lI (v a))]) (by rw [hA.2.1 b (by omega)]) ?_
                refine ww_ladd dX11_saying_123 ?_
                refine ww_ldc2 (v := 1000000) dX11_saying_124 wg_1640 ?_
                refine ww_aload_n dX11_saying_127 rfl rfl ?_
                refine ww_get 16 dX11_saying_128 hA.1.K0 rfl (by decide) inX11 wg_1256 hA.2.2 ?_
                refine ww_i2l dX11_saying_131 ?_
                refine ww_lmul dX11_saying_132 ?_
                refine ww_ladd dX11_saying_133 ?_
                refine ww_sk (st2 := [.long (lI (v a + v b + 1000000 * D))]) (by rw [sw_sum hD]) ?_
                refine ww_aload_n dX11_saying_134 rfl rfl ?_
                refine ww_get 39 dX11_saying_135 hA.1.K0 rfl (by decide) inX11 wg_1279 hA.1.F19 ?_
                refine ww_iload_n dX11_saying_138 rfl rfl ?_
                refine ww_laldF dX11_saying_139 hA.1.K19 rfl (by omega) (by omega) ?_
                refine ww_sk (st2 := [.long (lI (v n)), .long (lI (v a + v b + 1000000 * D))]) (by rw [hA.2.1 n (by omega)]) ?_
                refine ww_lcmp dX11_saying_140 ?_
                refine ww_sk (st2 := [.int (nI 0)]) (by rw [lcmp_eqN (by omega) hl, nI_0]) ?_
                refine ww_if_neN (tgt := 165) dX11_saying_141 (by decide) (by omega) (fun c141 => ?_) (fun c141 => ?_)
                · exfalso; omega
                · refine ww_iload_n dX11_saying_144 rfl rfl ?_
                  refine ww_if_neN (tgt := 152) dX11_saying_145 (by decide) (by omega) (fun c145 => ?_) (fun c145 => ?_)
                  · refine ww_iload_n dX11_saying_152 rfl rfl ?_
                    refine ww_iconst (v := nI 1) dX11_saying_153 (by decide) ?_
                    refine ww_icmp_neN (tgt := 162) dX11_saying_154 (by decide) (by omega) (by omega) (fun c154 => ?_) (fun c154 => ?_)
                    · exfalso; omega
                    · refine ww_iload dX11_saying_157 rfl ?_
                      refine ww_goto (tgt := 164) dX11_saying_159 (by decide) ?_
                      exact ww_iret dX11_saying_164 rfl hy
                  · exfalso; omega
          · refine ww_iload dX11_saying_90 rfl ?_
            refine ww_bipush (v := nI 61) dX11_saying_92 (by decide) ?_
            refine ww_icmp_geN (tgt := 171) dX11_saying_94 (by decide) (by omega) (by omega) (fun c94 => ?_) (fun c94 => ?_)
            · exfalso; omega
            · refine ww_iload_n dX11_saying_97 rfl rfl ?_
              refine ww_iload dX11_saying_98 rfl ?_
              refine ww_iload dX11_saying_100 rfl ?_
              refine ww_cSr (M := m_X11_saying) (pc := 102) (v := .int (nI r)) (h1 := h) (st := []) (d := 6) (bc := 0) (bs := 0) (c_M_made hst (by omega) (by omega) (by omega) (by omega) e _) vv_X11_madeBy dX11_saying_102 wg_1641 rfl rfl rfl (Nat.le_of_ble_eq_true rfl) (Nat.le_of_ble_eq_true rfl) (Nat.le_of_ble_eq_true rfl) (Nat.le_of_ble_eq_true rfl) ?_
              refine ww_iload_n dX11_saying_105 rfl rfl ?_
              refine ww_icmp_neN (tgt := 165) dX11_saying_106 (by decide) (by omega) (by omega) (fun c106 => ?_) (fun c106 => ?_)
              · exfalso; omega
              · refine ww_aload_n dX11_saying_109 rfl rfl ?_
                refine ww_get 39 dX11_saying_110 hA.1.K0 rfl (by decide) inX11 wg_1279 hA.1.F19 ?_
                refine ww_iload dX11_saying_113 rfl ?_
                refine ww_laldF dX11_saying_115 hA.1.K19 rfl (by omega) (by omega) ?_
                refine ww_sk (st2 := [.long (lI (v a))]) (by rw [hA.2.1 a (by omega)]) ?_
                refine ww_aload_n dX11_saying_116 rfl rfl ?_
                refine ww_get 39 dX11_saying_117 hA.1.K0 rfl (by decide) inX11 wg_1279 hA.1.F19 ?_
                refine ww_iload dX11_saying_120 rfl ?_
                refine ww_laldF dX11_saying_122 hA.1.K19 rfl (by omega) (by omega) ?_
                refine ww_sk (st2 := [.long (lI (v b)), .long (lI (v a))]) (by rw [hA.2.1 b (by omega)]) ?_
                refine ww_ladd dX11_saying_123 ?_
                refine ww_ldc2 (v := 1000000) dX11_saying_124 wg_1640 ?_
                refine ww_aload_n dX11_saying_127 rfl rfl ?_
                refine ww_get 16 dX11_saying_128 hA.1.K0 rfl (by decide) inX11 wg_1256 hA.2.2 ?_
                refine ww_i2l dX11_saying_131 ?_
                refine ww_lmul dX11_saying_132 ?_
                refine ww_ladd dX11_saying_133 ?_
                refine ww_sk (st2 := [.long (lI (v a + v b + 1000000 * D))]) (by rw [sw_sum hD]) ?_
                refine ww_aload_n dX11_saying_134 rfl rfl ?_
                refine ww_get 39 dX11_saying_135 hA.1.K0 rfl (by decide) inX11 wg_1279 hA.1.F19 ?_
                refine ww_iload_n dX11_saying_138 rfl rfl ?_
                refine ww_laldF dX11_saying_139 hA.1.K19 rfl (by omega) (by omega) ?_
                refine ww_sk (st2 := [.long (lI (v n)), .long (lI (v a + v b + 1000000 * D))]) (by rw [hA.2.1 n (by omega)]) ?_
                refine ww_lcmp dX11_saying_140 ?_
                refine ww_sk (st2 := [.int (nI 0)]) (by rw [lcmp_eqN (by omega) hl, nI_0]) ?_
                refine ww_if_neN (tgt := 165) dX11_saying_141 (by decide) (by omega) (fun c141 => ?_) (fun c141 => ?_)
                · exfalso; omega
                · refine ww_iload_n dX11_saying_144 rfl rfl ?_
                  refine ww_if_neN (tgt := 152) dX11_saying_145 (by decide) (by omega) (fun c145 => ?_) (fun c145 => ?_)
                  · refine ww_iload_n dX11_saying_152 rfl rfl ?_
                    refine ww_iconst (v := nI 1) dX11_saying_153 (by decide) ?_
                    refine ww_icmp_neN (tgt := 162) dX11_saying_154 (by decide) (by omega) (by omega) (fun c154 => ?_) (fun c154 => ?_)
                    · refine ww_iload dX11_saying_162 rfl ?_
                      exact ww_iret dX11_saying_164 rfl hy
                    · exfalso; omega
                  · exfalso; omega
        · have hP : rfP v D n w a b = false := by simp [rfP, rfT, e, hl]
          rw [fstN_f j hP] at hno hyes
          refine ww_iload dX11_saying_90 rfl ?_
          refine ww_bipush (v := nI 61) dX11_saying_92 (by decide) ?_
          refine ww_icmp_geN (tgt := 171) dX11_saying_94 (by decide) (by omega) (by omega) (fun c94 => ?_) (fun c94 => ?_)
          · exfalso; omega
          · refine ww_iload_n dX11_saying_97 rfl rfl ?_
            refine ww_iload dX11_saying_98 rfl ?_
            refine ww_iload dX11_saying_100 rfl ?_
            refine ww_cSr (M := m_X11_saying) (pc := 102) (v := .int (nI r)) (h1 := h) (st := []) (d := 6) (bc := 0) (bs := 0) (c_M_made hst (by omega) (by omega) (by omega) (by omega) e _) vv_X11_madeBy dX11_saying_102 wg_1641 rfl rfl rfl (Nat.le_of_ble_eq_true rfl) (Nat.le_of_ble_eq_true rfl) (Nat.le_of_ble_eq_true rfl) (Nat.le_of_ble_eq_true rfl) ?_
            refine ww_iload_n dX11_saying_105 rfl rfl ?_
            refine ww_icmp_neN (tgt := 165) dX11_saying_106 (by decide) (by omega) (by omega) (fun c106 => ?_) (fun c106 => ?_)
            · exfalso; omega
            · refine ww_aload_n dX11_saying_109 rfl rfl ?_
              refine ww_get 39 dX11_saying_110 hA.1.K0 rfl (by decide) inX11 wg_1279 hA.1.F19 ?_
              refine ww_iload dX11_saying_113 rfl ?_
              refine ww_laldF dX11_saying_115 hA.1.K19 rfl (by omega) (by omega) ?_
              refine ww_sk (st2 := [.long (lI (v a))]) (by rw [hA.2.1 a (by omega)]) ?_
              refine ww_aload_n dX11_saying_116 rfl rfl ?_
              refine ww_get 39 dX11_saying_117 hA.1.K0 rfl (by decide) inX11 wg_1279 hA.1.F19 ?_
              refine ww_iload dX11_saying_120 rfl ?_
              refine ww_laldF dX11_saying_122 hA.1.K19 rfl (by omega) (by omega) ?_
              refine ww_sk (st2 := [.long (lI (v b)), .long (lI (v a))]) (by rw [hA.2.1 b (by omega)]) ?_
              refine ww_ladd dX11_saying_123 ?_
              refine ww_ldc2 (v := 1000000) dX11_saying_124 wg_1640 ?_
              refine ww_aload_n dX11_saying_127 rfl rfl ?_
              refine ww_get 16 dX11_saying_128 hA.1.K0 rfl (by decide) inX11 wg_1256 hA.2.2 ?_
              refine ww_i2l dX11_saying_131 ?_
              refine ww_lmul dX11_saying_132 ?_
              refine ww_ladd dX11_saying_133 ?_
              refine ww_sk (st2 := [.long (lI (v a + v b + 1000000 * D))]) (by rw [sw_sum hD]) ?_
              refine ww_aload_n dX11_saying_134 rfl rfl ?_
              refine ww_get 39 dX11_saying_135 hA.1.K0 rfl (by decide) inX11 wg_1279 hA.1.F19 ?_
              refine ww_iload_n dX11_saying_138 rfl rfl ?_
              refine ww_laldF dX11_saying_139 hA.1.K19 rfl (by omega) (by omega) ?_
              refine ww_sk (st2 := [.long (lI (v n)), .long (lI (v a + v b + 1000000 * D))]) (by rw [hA.2.1 n (by omega)]) ?_
              refine ww_lcmp dX11_saying_140 ?_
              refine ww_if_ne (tgt := 165) dX11_saying_141 (by decide) (fun c141 => ?_) (fun c141 => ?_)
              · refine ww_incN (c := 1) (lv2 := [.ref m, .int (nI n), .int (nI k), .int (nI w), .int (nI a), .int (nI (b + 1))]) dX11_saying_165 rfl rfl rfl (by decide) rfl ?_
                refine ww_goto (tgt := 90) dX11_saying_168 (by decide) ?_
                exact ih (b + 1) (by omega) hno hyes
              · exact absurd (by first | exact c141 | exact Classical.not_not.mp c141) (lcmp_neN (by omega) (by omega) hl)
      · have hP : rfP v D n w a b = false := by simp [rfP, e, c9]
        rw [fstN_f j hP] at hno hyes
        refine ww_iload dX11_saying_90 rfl ?_
        refine ww_bipush (v := nI 61) dX11_saying_92 (by decide) ?_
        refine ww_icmp_geN (tgt := 171) dX11_saying_94 (by decide) (by omega) (by omega) (fun c94 => ?_) (fun c94 => ?_)
        · exfalso; omega
        · refine ww_iload_n dX11_saying_97 rfl rfl ?_
          refine ww_iload dX11_saying_98 rfl ?_
          refine ww_iload dX11_saying_100 rfl ?_
          refine ww_cSr (M := m_X11_saying) (pc := 102) (v := .int (nI r)) (h1 := h) (st := []) (d := 6) (bc := 0) (bs := 0) (c_M_made hst (by omega) (by omega) (by omega) (by omega) e _) vv_X11_madeBy dX11_saying_102 wg_1641 rfl rfl rfl (Nat.le_of_ble_eq_true rfl) (Nat.le_of_ble_eq_true rfl) (Nat.le_of_ble_eq_true rfl) (Nat.le_of_ble_eq_true rfl) ?_
          refine ww_iload_n dX11_saying_105 rfl rfl ?_
          refine ww_icmp_neN (tgt := 165) dX11_saying_106 (by decide) (by omega) (by omega) (fun c106 => ?_) (fun c106 => ?_)
          · refine ww_incN (c := 1) (lv2 := [.ref m, .int (nI n), .int (nI k), .int (nI w), .int (nI a), .int (nI (b + 1))]) dX11_saying_165 rfl rfl rfl (by decide) rfl ?_
            refine ww_goto (tgt := 90) dX11_saying_168 (by decide) ?_
            exact ih (b + 1) (by omega) hno hyes
          · exfalso; omega
set_option maxHeartbeats 4000000 in
set_option maxRecDepth 100000 in
theorem l_M_rfa {l : Launch} {Z : EE} (hst : l.stackTraces = false) {h : PH} {m : Nat} {v : Nat → Nat} {D : Nat} (hA : SaA h m v D) (hD : D ≤ 20) (hv : ∀ i, i ≤ 60 → v i ≤ 99999999) (n : Nat) (hn : n ≤ 60) (k : Nat) (hk : k ≤ 2) (w : Nat) (h1 : 1 ≤ w) (h3 : w ≤ 3) {Post : Res → PH → Prop} : ∀ (j a : Nat), a + j = 61 → (rsd v D n w a j = none → WW l Z m_X11_saying 6 0 0 177 [.ref m, .int (nI n), .int (nI k), .int (nI w), .int (nI 61), UU] [] h Post) → (∀ a9 b9, rsd v D n w a j = some (a9, b9) → Post (.inl (some (.int (wyV w a9 b9 k)))) h) → WW l Z m_X11_saying 6 0 0 70 [.ref m, .int (nI n), .int (nI k), .int (nI w), .int (nI a), UU] [] h Post := by
  intro j
  induction j with
  | zero =>
    intro a hj hno hyes
    have hb9 : a = 61 := by omega
    subst hb9
    refine ww_iload dX11_saying_70 rfl ?_
    refine ww_bipush (v := nI 61) dX11_saying_72 (by decide) ?_
    refine ww_icmp_geN (tgt := 177) dX11_saying_74 (by decide) (by omega) (by omega) (fun c74 => ?_) (fun c74 => ?_)
    · exact hno rfl
    · exfalso; omega
  | succ j ih =>
    intro a hj hno hyes
    by_cases c2 : w = 2
    · refine ww_iload dX11_saying_70 rfl ?_
      refine ww_bipush (v := nI 61) dX11_saying_72 (by decide) ?_
      refine ww_icmp_geN (tgt := 177) dX11_saying_74 (by decide) (by omega) (by omega) (fun c74 => ?_) (fun c74 => ?_)
      · exfalso; omega
      · refine ww_iload_n dX11_saying_77 rfl rfl ?_
        refine ww_iconst (v := nI 2) dX11_saying_78 (by decide) ?_
        refine ww_icmp_neN (tgt := 86) dX11_saying_79 (by decide) (by omega) (by omega) (fun c79 => ?_) (fun c79 => ?_)
        · exfalso; omega
        · refine ww_iconst (v := nI 0) dX11_saying_82 (by decide) ?_
          refine ww_goto (tgt := 88) dX11_saying_83 (by decide) ?_
          refine ww_sti (lv2 := [.ref m, .int (nI n), .int (nI k), .int (nI w), .int (nI a), .int (nI 0)]) dX11_saying_88 rfl (by decide) rfl ?_
          have hs : rsS w a = 0 := by simp [rsS, c2]
          refine l_M_rfb hst hA hD hv n hn k hk w a h1 h3 (by omega) (61 - rsS w a) 0 (by omega) (fun e => ?_) (fun b9 e => ?_)
          · replace e : fstN (rfP v D n w a) (rsS w a) (61 - rsS w a) = none := by rw [hs] at e ⊢; exact e
            refine ww_incN (c := 1) (lv2 := [.ref m, .int (nI n), .int (nI k), .int (nI w), .int (nI (a + 1)), .int (nI 61)]) dX11_saying_171 rfl rfl rfl (by decide) rfl ?_
            refine ww_goto (tgt := 70) dX11_saying_174 (by decide) ?_
            refine ww_fg (lv2 := [.ref m, .int (nI n), .int (nI k), .int (nI w), .int (nI (a + 1)), UU]) ⟨Or.inr rfl, Or.inr rfl, Or.inr rfl, Or.inr rfl, Or.inr rfl, Or.inl rfl, trivial⟩ ?_
            rw [rsd_f j e] at hno hyes
            exact ih (a + 1) (by omega) hno hyes
          · replace e : fstN (rfP v D n w a) (rsS w a) (61 - rsS w a) = some b9 := by rw [hs] at e ⊢; exact e
            rw [rsd_t j e] at hyes
            exact hyes a b9 rfl
    · refine ww_iload dX11_saying_70 rfl ?_
      refine ww_bipush (v := nI 61) dX11_saying_72 (by decide) ?_
      refine ww_icmp_geN (tgt := 177) dX11_saying_74 (by decide) (by omega) (by omega) (fun c74 => ?_) (fun c74 => ?_)
      · exfalso; omega
      · refine ww_iload_n dX11_saying_77 rfl rfl ?_
        refine ww_iconst (v := nI 2) dX11_saying_78 (by decide) ?_
        refine ww_icmp_neN (tgt := 86) dX11_saying_79 (by decide) (by omega) (by omega) (fun c79 => ?_) (fun c79 => ?_)
        · refine ww_iload dX11_saying_86 rfl ?_
          refine ww_sti (lv2 := [.ref m, .int (nI n), .int (nI k), .int (nI w), .int (nI a), .int (nI a)]) dX11_saying_88 rfl (by decide) rfl ?_
          have hs : rsS w a = a := by simp [rsS, c2]
          refine l_M_rfb hst hA hD hv n hn k hk w a h1 h3 (by omega) (61 - rsS w a) a (by omega) (fun e => ?_) (fun b9 e => ?_)
          · replace e : fstN (rfP v D n w a) (rsS w a) (61 - rsS w a) = none := by rw [hs] at e ⊢; exact e
            refine ww_incN (c := 1) (lv2 := [.ref m, .int (nI n), .int (nI k), .int (nI w), .int (nI (a + 1)), .int (nI 61)]) dX11_saying_171 rfl rfl rfl (by decide) rfl ?_
            refine ww_goto (tgt := 70) dX11_saying_174 (by decide) ?_
            refine ww_fg (lv2 := [.ref m, .int (nI n), .int (nI k), .int (nI w), .int (nI (a + 1)), UU]) ⟨Or.inr rfl, Or.inr rfl, Or.inr rfl, Or.inr rfl, Or.inr rfl, Or.inl rfl, trivial⟩ ?_
            rw [rsd_f j e] at hno hyes
            exact ih (a + 1) (by omega) hno hyes
          · replace e : fstN (rfP v D n w a) (rsS w a) (61 - rsS w a) = some b9 := by rw [hs] at e ⊢; exact e
            rw [rsd_t j e] at hyes
            exact hyes a b9 rfl
        · exfalso; omega
set_option maxHeartbeats 4000000 in
set_option maxRecDepth 100000 in
theorem l_M_rfw {l : Launch} {Z : EE} (hst : l.stackTraces = false) {h : PH} {m : Nat} {v : Nat → Nat} {D : Nat} (hA : SaA h m v D) (hD : D ≤ 20) (hv : ∀ i, i ≤ 60 → v i ≤ 99999999) (n : Nat) (hn : n ≤ 60) (k : Nat) (hk : k ≤ 2) {Post : Res → PH → Prop} : ∀ (j w : Nat), w + j = 4 → 1 ≤ w → (rsw v D n w j = none → Post (.inl (some (.int (-1)))) h) → (∀ w9 a9 b9, rsw v D n w j = some (w9, a9, b9) → Post (.inl (some (.int (wyV w9 a9 b9 k)))) h) → WW l Z m_X11_saying 6 0 0 62 [.ref m, .int (nI n), .int (nI k), .int (nI w), UU, UU] [] h Post := by
  intro j
  induction j with
  | zero =>
    intro w hj h1 hno hyes
    have hb9 : w = 4 := by omega
    subst hb9
    refine ww_iload_n dX11_saying_62 rfl rfl ?_
    refine ww_iconst (v := nI 3) dX11_saying_63 (by decide) ?_
    refine ww_icmp_gtN (tgt := 183) dX11_saying_64 (by decide) (by omega) (by omega) (fun c64 => ?_) (fun c64 => ?_)
    · refine ww_iconst (v := -1) dX11_saying_183 (by decide) ?_
      exact ww_iret dX11_saying_184 rfl (hno rfl)
    · exfalso; omega
  | succ j ih =>
    intro w hj h1 hno hyes
    refine ww_iload_n dX11_saying_62 rfl rfl ?_
    refine ww_iconst (v := nI 3) dX11_saying_63 (by decide) ?_
    refine ww_icmp_gtN (tgt := 183) dX11_saying_64 (by decide) (by omega) (by omega) (fun c64 => ?_) (fun c64 => ?_)
    · exfalso; omega
    · refine ww_iconst (v := nI 0) dX11_saying_67 (by decide) ?_
      refine ww_sti (lv2 := [.ref m, .int (nI n), .int (nI k), .int (nI w), .int (nI 0), UU]) dX11_saying_68 rfl (by decide) rfl ?_
      refine l_M_rfa hst hA hD hv n hn k hk w h1 (by omega) 61 0 rfl (fun e => ?_) (fun a9 b9 e => ?_)
      · refine ww_incN (c := 1) (lv2 := [.ref m, .int (nI n), .int (nI k), .int (nI (w + 1)), .int (nI 61), UU]) dX11_saying_177 rfl rfl rfl (by decide) rfl ?_
        refine ww_goto (tgt := 62) dX11_saying_180 (by decide) ?_
        refine ww_fg (lv2 := [.ref m, .int (nI n), .int (nI k), .int (nI (w + 1)), UU, UU]) ⟨Or.inr rfl, Or.inr rfl, Or.inr rfl, Or.inr rfl, Or.inl rfl, Or.inl rfl, trivial⟩ ?_
        rw [rsw_f j e] at hno hyes
        exact ih (w + 1) (by omega) (by omega) hno hyes
      · rw [rsw_t j e] at hyes
        exact hyes w a9 b9 rfl
