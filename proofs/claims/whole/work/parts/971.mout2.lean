/-! ===== the reference's out: one sweep ===== -/
def SoA (h : PH) (m : Nat) (v : Nat → Nat) : Prop := ModS h m ∧ ∀ i, i < 61 → hp_I h (m + 20) i = nI (v i)
def soX (m : Nat) : Nat → Prop := fun c => c = m + 20
theorem SoA.up {h : PH} {m : Nat} {v : Nat → Nat} {n x : Nat} (hA : SoA h m v) {F : Nat → Int32} (hF : F = upd (hp_I h (m + 20)) n (nI x)) : SoA (hp_sI h (m + 20) F) m (ubN v n x) :=
  ⟨hA.1, fun i hi => by
    rw [hp_I_eq, hF]
    by_cases e : i = n
    · rw [e, ubN_s]; simp [upd]
    · rw [ubN_n _ _ e]; simp [upd, e]; exact hA.2 i hi⟩
set_option maxHeartbeats 4000000 in
set_option maxRecDepth 100000 in
theorem l_M_soi {l : Launch} {Z : EE} (hst : l.stackTraces = false) {h : PH} {m : Nat} {own : Nat → Nat} (ho : ∀ n, n ≤ 60 → own n ≤ 100000) {v0 : Nat → Nat} (n : Nat) (w : Nat) (h1 : 1 ≤ w) (h3 : w ≤ 3) {Post : Res → PH → Prop} : ∀ (j i c : Nat) (v : Nat → Nat) (hq : PH), i + j = 3721 → SoA hq m v → soI own 1 v → swP 1 v0 w (i / 61) (i % 61) c v → Same (soX m) (fun _ _ => False) h hq → (∀ c v h9, SoA h9 m v → soI own 1 v → swP 1 v0 w (3721 / 61) (3721 % 61) c v → Same (soX m) (fun _ _ => False) h h9 → WW l Z m_X11_out 6 0 0 166 [.ref m, .int (nI n), .int (nI c), .int (nI w), .int (nI 3721), UU, UU] [] h9 Post) → WW l Z m_X11_out 6 0 0 73 [.ref m, .int (nI n), .int (nI c), .int (nI w), .int (nI i), UU, UU] [] hq Post := by
  intro j
  induction j with
  | zero =>
    intro i c v hq hj hA hI hP hS hex
    have hb9 : i = 3721 := by omega
    subst hb9
    refine ww_iload dX11_out_73 rfl ?_
    refine ww_sipush (v := nI 3721) dX11_out_75 (by decide) ?_
    refine ww_icmp_geN (tgt := 166) dX11_out_78 (by decide) (by omega) (by omega) (fun c78 => ?_) (fun c78 => ?_)
    · exact hex c v hq hA hI hP hS
    · exfalso; omega
  | succ j ih =>
    intro i c v hq hj hA hI hP hS hex
    have hc1 : c ≤ 1 := by rcases hP with q | q <;> omega
    have hab := so_ab (show i < 3721 by omega)
    have va := Nat.le_trans (hI.1 _ hab.1) (ho _ hab.1)
    have vb := Nat.le_trans (hI.1 _ hab.2) (ho _ hab.2)
    rcases e : mdO w (i / 61) (i % 61) with _ | r
    · refine ww_iload dX11_out_73 rfl ?_
      refine ww_sipush (v := nI 3721) dX11_out_75 (by decide) ?_
      refine ww_icmp_geN (tgt := 166) dX11_out_78 (by decide) (by omega) (by omega) (fun c78 => ?_) (fun c78 => ?_)
      · exfalso; omega
      · refine ww_iload_n dX11_out_81 rfl rfl ?_
        refine ww_iload dX11_out_82 rfl ?_
        refine ww_bipush (v := nI 61) dX11_out_84 (by decide) ?_
        refine ww_idivN dX11_out_86 (by omega) (by omega) (by omega) ?_
        refine ww_iload dX11_out_87 rfl ?_
        refine ww_bipush (v := nI 61) dX11_out_89 (by decide) ?_
        refine ww_iremN dX11_out_91 (by omega) (by omega) (by omega) ?_
        refine ww_cSr (M := m_X11_out) (pc := 92) (v := .int (nI (i / 61) - nI (i % 61))) (h1 := hq) (st := []) (d := 6) (bc := 0) (bs := 0) (c_M_madeN hst (by omega) (by omega) e _) vv_X11_madeBy dX11_out_92 wg_1641 rfl rfl rfl (Nat.le_of_ble_eq_true rfl) (Nat.le_of_ble_eq_true rfl) (Nat.le_of_ble_eq_true rfl) (Nat.le_of_ble_eq_true rfl) ?_
        refine ww_sti (lv2 := [.ref m, .int (nI n), .int (nI c), .int (nI w), .int (nI i), .int (nI (i / 61) - nI (i % 61)), UU]) dX11_out_95 rfl (by decide) rfl ?_
        refine ww_aload_n dX11_out_97 rfl rfl ?_
        refine ww_get 40 dX11_out_98 hA.1.K0 rfl (by decide) inX11 wg_1280 hA.1.F20 ?_
        refine ww_iload dX11_out_101 rfl ?_
        refine ww_bipush (v := nI 61) dX11_out_103 (by decide) ?_
        refine ww_idivN dX11_out_105 (by omega) (by omega) (by omega) ?_
        refine ww_ialdF dX11_out_106 hA.1.K20 rfl (by omega) (by omega) ?_
        refine ww_sk (st2 := [.int (nI (v (i / 61)))]) (by rw [hA.2 (i / 61) (by omega)]) ?_
        refine ww_aload_n dX11_out_107 rfl rfl ?_
        refine ww_get 40 dX11_out_108 hA.1.K0 rfl (by decide) inX11 wg_1280 hA.1.F20 ?_
        refine ww_iload dX11_out_111 rfl ?_
        refine ww_bipush (v := nI 61) dX11_out_113 (by decide) ?_
        refine ww_iremN dX11_out_115 (by omega) (by omega) (by omega) ?_
        refine ww_ialdF dX11_out_116 hA.1.K20 rfl (by omega) (by omega) ?_
        refine ww_sk (st2 := [.int (nI (v (i % 61))), .int (nI (v (i / 61)))]) (by rw [hA.2 (i % 61) (by omega)]) ?_
        refine ww_iaddN dX11_out_117 ?_
        refine ww_iconst (v := nI 1) dX11_out_118 (by decide) ?_
        refine ww_iaddN dX11_out_119 ?_
        refine ww_sti (lv2 := [.ref m, .int (nI n), .int (nI c), .int (nI w), .int (nI i), .int (nI (i / 61) - nI (i % 61)), .int (nI (((v (i / 61)) + (v (i % 61))) + 1))]) dX11_out_120 rfl (by decide) rfl ?_
        refine ww_iload dX11_out_122 rfl ?_
        refine ww_if_lt (tgt := 160) dX11_out_124 (by decide) (fun c124 => ?_) (fun c124 => ?_)
        · refine ww_incN (c := 1) (lv2 := [.ref m, .int (nI n), .int (nI c), .int (nI w), .int (nI (i + 1)), .int (nI (i / 61) - nI (i % 61)), .int (nI (((v (i / 61)) + (v (i % 61))) + 1))]) dX11_out_160 rfl rfl rfl (by decide) rfl ?_
          refine ww_goto (tgt := 73) dX11_out_163 (by decide) ?_
          refine ww_fg (lv2 := [.ref m, .int (nI n), .int (nI c), .int (nI w), .int (nI (i + 1)), UU, UU]) ⟨Or.inr rfl, Or.inr rfl, Or.inr rfl, Or.inr rfl, Or.inr rfl, Or.inl rfl, Or.inl rfl, trivial⟩ ?_
          exact ih (i + 1) c v hq (by omega) hA hI (so_next (swP_keep hP (fun n q _ => by rw [e] at q; cases q))) hS hex
        · exact absurd (nsub_neg (mdO_none e).2 (by omega)) c124
    · have hn9 := mdO_le hab.1 hab.2 e
      by_cases c9 : r ≤ 60
      · have vn := Nat.le_trans (hI.1 r c9) (ho r c9)
        by_cases hl : v (i / 61) + v (i % 61) + 1 < v r
        · refine ww_iload dX11_out_73 rfl ?_
          refine ww_sipush (v := nI 3721) dX11_out_75 (by decide) ?_
          refine ww_icmp_geN (tgt := 166) dX11_out_78 (by decide) (by omega) (by omega) (fun c78 => ?_) (fun c78 => ?_)
          · exfalso; omega
          · refine ww_iload_n dX11_out_81 rfl rfl ?_
            refine ww_iload dX11_out_82 rfl ?_
            refine ww_bipush (v := nI 61) dX11_out_84 (by decide) ?_
            refine ww_idivN dX11_out_86 (by omega) (by omega) (by omega) ?_
            refine ww_iload dX11_out_87 rfl ?_
            refine ww_bipush (v := nI 61) dX11_out_89 (by decide) ?_
            refine ww_iremN dX11_out_91 (by omega) (by omega) (by omega) ?_
            refine ww_cSr (M := m_X11_out) (pc := 92) (v := .int (nI r)) (h1 := hq) (st := []) (d := 6) (bc := 0) (bs := 0) (c_M_made hst (by omega) (by omega) (by omega) (by omega) e _) vv_X11_madeBy dX11_out_92 wg_1641 rfl rfl rfl (Nat.le_of_ble_eq_true rfl) (Nat.le_of_ble_eq_true rfl) (Nat.le_of_ble_eq_true rfl) (Nat.le_of_ble_eq_true rfl) ?_
            refine ww_sti (lv2 := [.ref m, .int (nI n), .int (nI c), .int (nI w), .int (nI i), .int (nI r), UU]) dX11_out_95 rfl (by decide) rfl ?_
            refine ww_aload_n dX11_out_97 rfl rfl ?_
            refine ww_get 40 dX11_out_98 hA.1.K0 rfl (by decide) inX11 wg_1280 hA.1.F20 ?_
            refine ww_iload dX11_out_101 rfl ?_
            refine ww_bipush (v := nI 61) dX11_out_103 (by decide) ?_
            refine ww_idivN dX11_out_105 (by omega) (by omega) (by omega) ?_
            refine ww_ialdF dX11_out_106 hA.1.K20 rfl (by omega) (by omega) ?_
            refine ww_sk (st2 := [.int (nI (v (i / 61)))]) (by rw [hA.2 (i / 61) (by omega)]) ?_
            refine ww_aload_n dX11_out_107 rfl rfl ?_
            refine ww_get 40 dX11_out_108 hA.1.K0 rfl (by decide) inX11 wg_1280 hA.1.F20 ?_
            refine ww_iload dX11_out_111 rfl ?_
            refine ww_bipush (v := nI 61) dX11_out_113 (by decide) ?_
            refine ww_iremN dX11_out_115 (by omega) (by omega) (by omega) ?_
            refine ww_ialdF dX11_out_116 hA.1.K20 rfl (by omega) (by omega) ?_
            refine ww_sk (st2 := [.int (nI (v (i % 61))), .int (nI (v (i / 61)))]) (by rw [hA.2 (i % 61) (by omega)]) ?_
            refine ww_iaddN dX11_out_117 ?_
            refine ww_iconst (v := nI 1) dX11_out_118 (by decide) ?_
            refine ww_iaddN dX11_out_119 ?_
            refine ww_sti (lv2 := [.ref m, .int (nI n), .int (nI c), .int (nI w), .int (nI i), .int (nI r), .int (nI (((v (i / 61)) + (v (i % 61))) + 1))]) dX11_out_120 rfl (by decide) rfl ?_
            refine ww_iload dX11_out_122 rfl ?_
            refine ww_if_ltN (tgt := 160) dX11_out_124 (by decide) (by omega) ?_
            refine ww_iload dX11_out_127 rfl ?_
            refine ww_bipush (v := nI 61) dX11_out_129 (by decide) ?_
            refine ww_icmp_geN (tgt := 160) dX11_out_131 (by decide) (by omega) (by omega) (fun c131 => ?_) (fun c131 => ?_)
            · exfalso; omega
            · refine ww_iload dX11_out_134 rfl ?_
              refine ww_aload_n dX11_out_136 rfl rfl ?_
              refine ww_get 40 dX11_out_137 hA.1.K0 rfl (by decide) inX11 wg_1280 hA.1.F20 ?_
              refine ww_iload dX11_out_140 rfl ?_
              refine ww_ialdF dX11_out_142 hA.1.K20 rfl (by omega) (by omega) ?_
              refine ww_sk (st2 := [.int (nI (v r)), .int (nI (((v (i / 61)) + (v (i % 61))) + 1))]) (by rw [hA.2 r (by omega)]) ?_
              refine ww_icmp_ltN (tgt := 149) dX11_out_143 (by decide) (by omega) (by omega) (fun c143 => ?_) (fun c143 => ?_)
              · refine ww_aload_n dX11_out_149 rfl rfl ?_
                refine ww_get 40 dX11_out_150 hA.1.K0 rfl (by decide) inX11 wg_1280 hA.1.F20 ?_
                refine ww_iload dX11_out_153 rfl ?_
                refine ww_iload dX11_out_155 rfl ?_
                refine ww_iastF dX11_out_157 hA.1.K20 rfl (by omega) (by omega) ?_
                refine ww_iconst (v := nI 1) dX11_out_158 (by decide) ?_
                refine ww_sti_n (lv2 := [.ref m, .int (nI n), .int (nI 1), .int (nI w), .int (nI i), .int (nI r), .int (nI (((v (i / 61)) + (v (i % 61))) + 1))]) dX11_out_159 rfl rfl (by decide) rfl ?_
                refine ww_incN (c := 1) (lv2 := [.ref m, .int (nI n), .int (nI 1), .int (nI w), .int (nI (i + 1)), .int (nI r), .int (nI (((v (i / 61)) + (v (i % 61))) + 1))]) dX11_out_160 rfl rfl rfl (by decide) rfl ?_
                refine ww_goto (tgt := 73) dX11_out_163 (by decide) ?_
                refine ww_fg (lv2 := [.ref m, .int (nI n), .int (nI 1), .int (nI w), .int (nI (i + 1)), UU, UU]) ⟨Or.inr rfl, Or.inr rfl, Or.inr rfl, Or.inr rfl, Or.inr rfl, Or.inl rfl, Or.inl rfl, trivial⟩ ?_
                exact ih (i + 1) 1 _ _ (by omega) (SoA.up hA rfl) (soI_up hI (by omega) (by omega) (by omega) (mdO_mk e) hl) (so_next (swP_new hP (by omega) hl)) (hS.sI rfl) hex
              · exfalso; omega
        · refine ww_iload dX11_out_73 rfl ?_
          refine ww_sipush (v := nI 3721) dX11_out_75 (by decide) ?_
          refine ww_icmp_geN (tgt := 166) dX11_out_78 (by decide) (by omega) (by omega) (fun c78 => ?_) (fun c78 => ?_)
          · exfalso; omega
          · refine ww_iload_n dX11_out_81 rfl rfl ?_
            refine ww_iload dX11_out_82 rfl ?_
            refine ww_bipush (v := nI 61) dX11_out_84 (by decide) ?_
            refine ww_idivN dX11_out_86 (by omega) (by omega) (by omega) ?_
            refine ww_iload dX11_out_87 rfl ?_
            refine ww_bipush (v := nI 61) dX11_out_89 (by decide) ?_
            refine ww_iremN dX11_out_91 (by omega) (by omega) (by omega) ?_
            refine ww_cSr (M := m_X11_out) (pc := 92) (v := .int (nI r)) (h1 := hq) (st := []) (d := 6) (bc := 0) (bs := 0) (c_M_made hst (by omega) (by omega) (by omega) (by omega) e _) vv_X11_madeBy dX11_out_92 wg_1641 rfl rfl rfl (Nat.le_of_ble_eq_true rfl) (Nat.le_of_ble_eq_true rfl) (Nat.le_of_ble_eq_true rfl) (Nat.le_of_ble_eq_true rfl) ?_
            refine ww_sti (lv2 := [.ref m, .int (nI n), .int (nI c), .int (nI w), .int (nI i), .int (nI r), UU]) dX11_out_95 rfl (by decide) rfl ?_
            refine ww_aload_n dX11_out_97 rfl rfl ?_
            refine ww_get 40 dX11_out_98 hA.1.K0 rfl (by decide) inX11 wg_1280 hA.1.F20 ?_
            refine ww_iload dX11_out_101 rfl ?_
            refine ww_bipush (v := nI 61) dX11_out_103 (by decide) ?_
            refine ww_idivN dX11_out_105 (by omega) (by omega) (by omega) ?_
            refine ww_ialdF dX11_out_106 hA.1.K20 rfl (by omega) (by omega) ?_
            refine ww_sk (st2 := [.int (nI (v (i / 61)))]) (by rw [hA.2 (i / 61) (by omega)]) ?_
            refine ww_aload_n dX11_out_107 rfl rfl ?_
            refine ww_get 40 dX11_out_108 hA.1.K0 rfl (by decide) inX11 wg_1280 hA.1.F20 ?_
            refine ww_iload dX11_out_111 rfl ?_
            refine ww_bipush (v := nI 61) dX11_out_113 (by decide) ?_
            refine ww_iremN dX11_out_115 (by omega) (by omega) (by omega) ?_
            refine ww_ialdF dX11_out_116 hA.1.K20 rfl (by omega) (by omega) ?_
            refine ww_sk (st2 := [.int (nI (v (i % 61))), .int (nI (v (i / 61)))]) (by rw [hA.2 (i % 61) (by omega)]) ?_
            refine ww_iaddN dX11_out_117 ?_
            refine ww_iconst (v := nI 1) dX11_out_118 (by decide) ?_
            refine ww_iaddN dX11_out_119 ?_
            refine ww_sti (lv2 := [.ref m, .int (nI n), .int (nI c), .int (nI w), .int (nI i), .int (nI r), .int (nI (((v (i / 61)) + (v (i % 61))) + 1))]) dX11_out_120 rfl (by decide) rfl ?_
            refine ww_iload dX11_out_122 rfl ?_
            refine ww_if_ltN (tgt := 160) dX11_out_124 (by decide) (by omega) ?_
            refine ww_iload dX11_out_127 rfl ?_
            refine ww_bipush (v := nI 61) dX11_out_129 (by decide) ?_
            refine ww_icmp_geN (tgt := 160) dX11_out_131 (by decide) (by omega) (by omega) (fun c131 => ?_) (fun c131 => ?_)
            · exfalso; omega
            · refine ww_iload dX11_out_134 rfl ?_
              refine ww_aload_n dX11_out_136 rfl rfl ?_
              refine ww_get 40 dX11_out_137 hA.1.K0 rfl (by decide) inX11 wg_1280 hA.1.F20 ?_
              refine ww_iload dX11_out_140 rfl ?_
              refine ww_ialdF dX11_out_142 hA.1.K20 rfl (by omega) (by omega) ?_
              refine ww_sk (st2 := [.int (nI (v r)), .int (nI (((v (i / 61)) + (v (i % 61))) + 1))]) (by rw [hA.2 r (by omega)]) ?_
              refine ww_icmp_ltN (tgt := 149) dX11_out_143 (by decide) (by omega) (by omega) (fun c143 => ?_) (fun c143 => ?_)
              · exfalso; omega
              · refine ww_goto (tgt := 160) dX11_out_146 (by decide) ?_
                refine ww_incN (c := 1) (lv2 := [.ref m, .int (nI n), .int (nI c), .int (nI w), .int (nI (i + 1)), .int (nI r), .int (nI (((v (i / 61)) + (v (i % 61))) + 1))]) dX11_out_160 rfl rfl rfl (by decide) rfl ?_
                refine ww_goto (tgt := 73) dX11_out_163 (by decide) ?_
                refine ww_fg (lv2 := [.ref m, .int (nI n), .int (nI c), .int (nI w), .int (nI (i + 1)), UU, UU]) ⟨Or.inr rfl, Or.inr rfl, Or.inr rfl, Or.inr rfl, Or.inr rfl, Or.inl rfl, Or.inl rfl, trivial⟩ ?_
                exact ih (i + 1) c v hq (by omega) hA hI (so_next (swP_keep hP (fun n9 q q2 => by rw [e] at q; cases q; omega))) hS hex
      · refine ww_iload dX11_out_73 rfl ?_
        refine ww_sipush (v := nI 3721) dX11_out_75 (by decide) ?_
        refine ww_icmp_geN (tgt := 166) dX11_out_78 (by decide) (by omega) (by omega) (fun c78 => ?_) (fun c78 => ?_)
        · exfalso; omega
        · refine ww_iload_n dX11_out_81 rfl rfl ?_
          refine ww_iload dX11_out_82 rfl ?_
          refine ww_bipush (v := nI 61) dX11_out_84 (by decide) ?_
          refine ww_idivN dX11_out_86 (by omega) (by omega) (by omega) ?_
          refine ww_iload dX11_out_87 rfl ?_
          refine ww_bipush (v := nI 61) dX11_out_89 (by decide) ?_
          refine ww_iremN dX11_out_91 (by omega) (by omega) (by omega) ?_
          refine ww_cSr (M := m_X11_out) (pc := 92) (v := .int (nI r)) (h1 := hq) (st := []) (d := 6) (bc := 0) (bs := 0) (c_M_made hst (by omega) (by omega) (by omega) (by omega) e _) vv_X11_madeBy dX11_out_92 wg_1641 rfl rfl rfl (Nat.le_of_ble_eq_true rfl) (Nat.le_of_ble_eq_true rfl) (Nat.le_of_ble_eq_true rfl) (Nat.le_of_ble_eq_true rfl) ?_
          refine ww_sti (lv2 := [.ref m, .int (nI n), .int (nI c), .int (nI w), .int (nI i), .int (nI r), UU]) dX11_out_95 rfl (by decide) rfl ?_
          refine ww_aload_n dX11_out_97 rfl rfl ?_
          refine ww_get 40 dX11_out_98 hA.1.K0 rfl (by decide) inX11 wg_1280 hA.1.F20 ?_
          refine ww_iload dX11_out_101 rfl ?_
          refine ww_bipush (v := nI 61) dX11_out_103 (by decide) ?_
          refine ww_idivN dX11_out_105 (by omega) (by omega) (by omega) ?_
          refine ww_ialdF dX11_out_106 hA.1.K20 rfl (by omega) (by omega) ?_
          refine ww_sk (st2 := [.int (nI (v (i / 61)))]) (by rw [hA.2 (i / 61) (by omega)]) ?_
          refine ww_aload_n dX11_out_107 rfl rfl ?_
          refine ww_get 40 dX11_out_108 hA.1.K0 rfl (by decide) inX11 wg_1280 hA.1.F20 ?_
          refine ww_iload dX11_out_111 rfl ?_
          refine ww_bipush (v := nI 61) dX11_out_113 (by decide) ?_
          refine ww_iremN dX11_out_115 (by omega) (by omega) (by omega) ?_
          refine ww_ialdF dX11_out_116 hA.1.K20 rfl (by omega) (by omega) ?_
          refine ww_sk (st2 := [.int (nI (v (i % 61))), .int (nI (v (i / 61)))]) (by rw [hA.2 (i % 61) (by omega)]) ?_
          refine ww_iaddN dX11_out_117 ?_
          refine ww_iconst (v := nI 1) dX11_out_118 (by decide) ?_
          refine ww_iaddN dX11_out_119 ?_
          refine ww_sti (lv2 := [.ref m, .int (nI n), .int (nI c), .int (nI w), .int (nI i), .int (nI r), .int (nI (((v (i / 61)) + (v (i % 61))) + 1))]) dX11_out_120 rfl (by decide) rfl ?_
          refine ww_iload dX11_out_122 rfl ?_
          refine ww_if_ltN (tgt := 160) dX11_out_124 (by decide) (by omega) ?_
          refine ww_iload dX11_out_127 rfl ?_
          refine ww_bipush (v := nI 61) dX11_out_129 (by decide) ?_
          refine ww_icmp_geN (tgt := 160) dX11_out_131 (by decide) (by omega) (by omega) (fun c131 => ?_) (fun c131 => ?_)
          · refine ww_incN (c := 1) (lv2 := [.ref m, .int (nI n), .int (nI c), .int (nI w), .int (nI (i + 1)), .int (nI r), .int (nI (((v (i / 61)) + (v (i % 61))) + 1))]) dX11_out_160 rfl rfl rfl (by decide) rfl ?_
            refine ww_goto (tgt := 73) dX11_out_163 (by decide) ?_
            refine ww_fg (lv2 := [.ref m, .int (nI n), .int (nI c), .int (nI w), .int (nI (i + 1)), UU, UU]) ⟨Or.inr rfl, Or.inr rfl, Or.inr rfl, Or.inr rfl, Or.inr rfl, Or.inl rfl, Or.inl rfl, trivial⟩ ?_
            exact ih (i + 1) c v hq (by omega) hA hI (so_next (swP_keep hP (fun n9 q q2 => by rw [e] at q; cases q; omega))) hS hex
          · exfalso; omega
set_option maxHeartbeats 4000000 in
set_option maxRecDepth 100000 in
theorem l_M_sow {l : Launch} {Z : EE} (hst : l.stackTraces = false) {h : PH} {m : Nat} {own : Nat → Nat} (ho : ∀ n, n ≤ 60 → own n ≤ 100000) {v0 : Nat → Nat} (n : Nat) {Post : Res → PH → Prop} : ∀ (j w c : Nat) (v : Nat → Nat) (hq : PH), w + j = 4 → 1 ≤ w → SoA hq m v → soI own 1 v → swP 1 v0 w 0 0 c v → Same (soX m) (fun _ _ => False) h hq → (∀ c v h9, SoA h9 m v → soI own 1 v → swP 1 v0 4 0 0 c v → Same (soX m) (fun _ _ => False) h h9 → WW l Z m_X11_out 6 0 0 172 [.ref m, .int (nI n), .int (nI c), .int (nI 4), UU, UU, UU] [] h9 Post) → WW l Z m_X11_out 6 0 0 65 [.ref m, .int (nI n), .int (nI c), .int (nI w), UU, UU, UU] [] hq Post := by
  intro j
  induction j with
  | zero =>
    intro w c v hq hj h1 hA hI hP hS hex
    have hb9 : w = 4 := by omega
    subst hb9
    refine ww_iload_n dX11_out_65 rfl rfl ?_
    refine ww_iconst (v := nI 3) dX11_out_66 (by decide) ?_
    refine ww_icmp_gtN (tgt := 172) dX11_out_67 (by decide) (by omega) (by omega) (fun c67 => ?_) (fun c67 => ?_)
    · exact hex c v hq hA hI hP hS
    · exfalso; omega
  | succ j ih =>
    intro w c v hq hj h1 hA hI hP hS hex
    refine ww_iload_n dX11_out_65 rfl rfl ?_
    refine ww_iconst (v := nI 3) dX11_out_66 (by decide) ?_
    refine ww_icmp_gtN (tgt := 172) dX11_out_67 (by decide) (by omega) (by omega) (fun c67 => ?_) (fun c67 => ?_)
    · exfalso; omega
    · refine ww_iconst (v := nI 0) dX11_out_70 (by decide) ?_
      refine ww_sti (lv2 := [.ref m, .int (nI n), .int (nI c), .int (nI w), .int (nI 0), UU, UU]) dX11_out_71 rfl (by decide) rfl ?_
      refine l_M_soi hst ho n w h1 (by omega) 3721 0 c v hq rfl hA hI hP hS (fun c9 v9 h9 a9 i9 p9 s9 => ?_)
      refine ww_incN (c := 1) (lv2 := [.ref m, .int (nI n), .int (nI c9), .int (nI (w + 1)), .int (nI 3721), UU, UU]) dX11_out_166 rfl rfl rfl (by decide) rfl ?_
      refine ww_goto (tgt := 65) dX11_out_169 (by decide) ?_
      refine ww_fg (lv2 := [.ref m, .int (nI n), .int (nI c9), .int (nI (w + 1)), UU, UU, UU]) ⟨Or.inr rfl, Or.inr rfl, Or.inr rfl, Or.inr rfl, Or.inl rfl, Or.inl rfl, Or.inl rfl, trivial⟩ ?_
      exact ih (w + 1) c9 v9 h9 (by omega) (by omega) a9 i9 (swP_way (show swP 1 v0 w 61 0 c9 v9 from p9)) s9 hex
set_option maxHeartbeats 4000000 in
set_option maxRecDepth 100000 in
theorem l_M_so {l : Launch} {Z : EE} (hst : l.stackTraces = false) {h : PH} {m : Nat} {own : Nat → Nat} (ho : ∀ n, n ≤ 60 → own n ≤ 100000) (n : Nat) {Post : Res → PH → Prop} : ∀ (k : Nat) (v : Nat → Nat) (hq : PH), smN v 61 < k → SoA hq m v → soI own 1 v → Same (soX m) (fun _ _ => False) h hq → (∀ v h9, SoA h9 m v → fixU own 1 v → Same (soX m) (fun _ _ => False) h h9 → WW l Z m_X11_out 6 0 0 175 [.ref m, .int (nI n), .int (nI 0), UU, UU, UU, UU] [] h9 Post) → WW l Z m_X11_out 6 0 0 57 [.ref m, .int (nI n), .int (nI 1), UU, UU, UU, UU] [] hq Post := by
  intro k
  induction k with
  | zero => intro v hq hk; exfalso; omega
  | succ k ih =>
    intro v hq hk hA hI hS hex
    refine ww_iload_n dX11_out_57 rfl rfl ?_
    refine ww_if_eqN (tgt := 175) dX11_out_58 (by decide) (by omega) (fun c58 => ?_) (fun c58 => ?_)
    · exfalso; omega
    · refine ww_iconst (v := nI 0) dX11_out_61 (by decide) ?_
      refine ww_sti_n (lv2 := [.ref m, .int (nI n), .int (nI 0), UU, UU, UU, UU]) dX11_out_62 rfl rfl (by decide) rfl ?_
      refine ww_iconst (v := nI 1) dX11_out_63 (by decide) ?_
      refine ww_sti_n (lv2 := [.ref m, .int (nI n), .int (nI 0), .int (nI 1), UU, UU, UU]) dX11_out_64 rfl rfl (by decide) rfl ?_
      refine l_M_sow hst ho n 3 1 0 v hq rfl (by omega) hA hI swP_0 hS (fun c9 v9 h9 a9 i9 p9 s9 => ?_)
      refine ww_goto (tgt := 57) dX11_out_172 (by decide) ?_
      refine ww_fg (lv2 := [.ref m, .int (nI n), .int (nI c9), UU, UU, UU, UU]) ⟨Or.inr rfl, Or.inr rfl, Or.inr rfl, Or.inl rfl, Or.inl rfl, Or.inl rfl, Or.inl rfl, trivial⟩ ?_
      have q9 : c9 = 0 ∨ (c9 = 1 ∧ smN v9 61 < smN v 61) := by
        rcases p9 with q | q
        · exact Or.inl q.1
        · exact Or.inr q
      rcases q9 with q9 | q9
      · subst q9
        refine ww_iload_n dX11_out_57 rfl rfl ?_
        refine ww_if_eqN (tgt := 175) dX11_out_58 (by decide) (by omega) (fun c58 => ?_) (fun c58 => ?_)
        · exact hex v9 h9 a9 (so_fix (Nat.le_refl _) i9 p9) s9
        · exfalso; omega
      · obtain ⟨q1, q2⟩ := q9
        subst q1
        exact ih v9 h9 (by omega) a9 i9 s9 hex
