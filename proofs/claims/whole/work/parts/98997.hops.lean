/-! ===== the questions by hand; calls whose answers are compared as they stand ===== -/
theorem outR_int {hi : Nat} (hh : hi < 2 ^ 31) {x : Int32} (h : outR 0 hi x) : x.toInt < 0 ∨ (hi : Int) < x.toInt := by
  refine Classical.byContradiction fun q => h ⟨Int32.le_iff_toInt_le.mpr ?_, Int32.le_iff_toInt_le.mpr ?_⟩
  · rw [nI_toInt (by omega)]; omega
  · rw [nI_toInt hh]; omega
set_option maxHeartbeats 4000000 in
set_option maxRecDepth 100000 in
theorem c_K_status_x {l : Launch} {Z : EE} (hst : l.stackTraces = false) {h : PH} {la lw bk : Nat} (hC : CL h la lw bk) (x : Int32) (hout : outR 0 1 x) : CC l Z m_X10_status 0 0 0 [.ref 0, .int x] h (COk (-1) h) := by
  have e := outR_int (by omega) hout
  refine ee_entry hst (by decide +kernel) rfl rfl (by simp [Value.category]) (Nat.le_of_ble_eq_true rfl) ?_
  refine ww_lv (lv2 := [.ref 0, .int x]) rfl ?_
  refine ww_iload_n dX10_status_0 rfl rfl ?_
  refine ww_lookup (off := 37) (tgt := 38) dX10_status_1 (by decide) ?_ (by decide) ?_
  · show (if (0 : Int) = x.toInt then (27 : Int) else if (1 : Int) = x.toInt then (32 : Int) else 37) = 37
    rw [if_neg (by omega), if_neg (by omega)]
  refine ww_iconst (v := -1) dX10_status_38 (by decide) ?_
  exact ww_iret dX10_status_39 rfl ⟨rfl, Same.rf⟩
set_option maxHeartbeats 4000000 in
set_option maxRecDepth 100000 in
theorem c_K_count_x {l : Launch} {Z : EE} (hst : l.stackTraces = false) {h : PH} {la lw bk : Nat} (hC : CL h la lw bk) (x : Int32) (hout : outR 0 2 x) : CC l Z m_X10_count 1 0 0 [.ref 0, .int x] h (COk (-1) h) := by
  have e := outR_int (by omega) hout
  refine ee_entry hst (by decide +kernel) rfl rfl (by simp [Value.category]) (Nat.le_of_ble_eq_true rfl) ?_
  refine ww_lv (lv2 := [.ref 0, .int x]) rfl ?_
  refine ww_iload_n dX10_count_0 rfl rfl ?_
  refine ww_tableOut (tgt := 46) dX10_count_1 e (by decide) ?_
  refine ww_iconst (v := -1) dX10_count_46 (by decide) ?_
  exact ww_iret dX10_count_47 rfl ⟨rfl, Same.rf⟩
/-- a call that both answer, compared as it stands -/
theorem SG.qd {j : Nat} {h h1 h2 : PH} (s : SG (j + 1) h) (k : Same CX CY h h1) (m : Same (SX 46) (SY 46) h1 h2) : SG j h2 := by
  obtain ⟨c, la, lw, bk, kg, mg, g, o1, o2, o3⟩ := s
  have n1 : hp_N h1 = hp_N h := k.1
  have n2 : hp_N h2 = hp_N h1 := m.1
  have n3 : 72 < hp_N h1 := by omega
  exact ⟨c, la, lw, bk, (kg.fr (frK_q k) o2).fr (frK_m m) n3, (mg.fr (frM_k k) o2).fr (frM_q m) n3, g, (m.2.1 72).trans ((k.2.1 72).trans o1), by omega, by omega⟩
theorem StD.ok {l : Launch} {Z : EE} {N NX : MM} {d mc ms d1 mc1 ms1 d2 j : Nat} {As : List Value} {h : PH} {v : Int32} {c : CSt} (s : SG (j + 1) h) (mg : MG h c) (hb : d1 ≤ d ∧ mc1 ≤ mc ∧ ms1 ≤ ms ∧ d2 ≤ d)
    (c1 : CC l Z N d1 mc1 ms1 ((.ref 0) :: As) h (COk v h))
    (c2 : ∀ h1, MG h1 c → CC l Z NX d2 0 0 ((.ref 46) :: As) h1 (MOk v 46 h1)) : StD l Z N NX d mc ms As (GG j) h := by
  have hN : 72 < hp_N h := by obtain ⟨c, la, lw, bk, kg, mg, g, o1, o2, o3⟩ := s; exact o2
  refine ⟨v, fun h1 => Same CX CY h h1, d1, mc1, ms1, ⟨hb.1, hb.2.1, hb.2.2.1⟩, c1, fun h1 k => ?_⟩
  have mg1 : MG h1 c := mg.fr (frM_k k) hN
  refine ⟨mg1.1.K0, d2, hb.2.2.2, cc_post (fun r h2 hp => ⟨hp.1, ?_⟩) (c2 _ mg1)⟩
  exact (s.qd k hp.2.1).gg
theorem q_fault {l : Launch} {Z : EE} (hst : l.stackTraces = false) (j : Nat) (h : PH) (s : SG (j + 1) h) : StD l Z m_X10_fault m_X11_fault 60 2 193 [] (GG j) h := by
  obtain ⟨c, la, lw, bk, kg, mg, g, o1, o2, o3⟩ := id s
  exact StD.ok s mg (by decide) (c_K_fault hst kg.1.1 kg.2.1.2.2) (fun h1 m1 => c_M_fault hst m1.1 m1.2.1.2.2.1)
theorem q_status {l : Launch} {Z : EE} (hst : l.stackTraces = false) (j : Nat) (p1 : Int32) (h : PH) (s : SG (j + 1) h) : StD l Z m_X10_status m_X11_status 60 2 193 [.int p1] (GG j) h := by
  obtain ⟨c, la, lw, bk, kg, mg, g, o1, o2, o3⟩ := id s
  by_cases c0 : outR 0 1 p1
  · exact StD.ok s mg (by decide) (c_K_status_x hst kg.1.1 p1 c0) (fun h1 m1 => c_M_status_x hst m1.1 p1 c0)
  obtain ⟨n1, an1, bn1, rfl⟩ := in_R c0 (by omega) (by omega)
  have hw : n1 = 0 ∨ n1 = 1 := by omega
  rcases hw with rfl | rfl
  · refine StD.ok (d2 := 1) s mg (by decide) (c_K_status0 hst kg.1.1 kg.2.2.2.2.2.2.2.1) (fun h1 m1 => ?_)
    rw [← m1.2.2.2.2.2.2.2.1]
    exact c_M_status0 hst m1.1
  · refine StD.ok (d2 := 1) s mg (by decide) (c_K_status1 hst kg.1.1 kg.2.2.2.2.2.2.2.2) (fun h1 m1 => ?_)
    rw [← m1.2.2.2.2.2.2.2.2]
    exact c_M_status1 hst m1.1
/-- how many works are kept -/
theorem wk_ps {l : Launch} {Z : EE} (hst : l.stackTraces = false) {h : PH} {la lw bk : Nat} (hC : CL h la lw bk) : ∀ (ps : List (Nat → Int32)), PsC h (hp_F h 0 8) ps → CC l Z m_X10_worksKept 0 0 0 [.ref 0] h (RT (some (.int (nI ps.length))) h)
  | [], e => c_K_worksKept0 hst hC e
  | _ :: _, ⟨_, _, e, _, k1, _, _, f2, _⟩ => c_K_worksKept1 hst hC e k1 f2
theorem q_count {l : Launch} {Z : EE} (hst : l.stackTraces = false) (j : Nat) (p1 : Int32) (h : PH) (s : SG (j + 1) h) : StD l Z m_X10_count m_X11_count 60 2 193 [.int p1] (GG j) h := by
  obtain ⟨c, la, lw, bk, kg, mg, g, o1, o2, o3⟩ := id s
  have hC := kg.1.1
  have him := kg.2.2.2.2.2.1.2.1
  have htp := kg.2.1.2.1
  have hwk := wk_ps (l := l) (Z := Z) hst hC _ kg.2.2.2.2.2.1.1
  by_cases c0 : outR 0 2 p1
  · exact StD.ok s mg (by decide) (c_K_count_x hst hC p1 c0) (fun h1 m1 => c_M_count_x hst m1.1 m1.2.2.2.2.2.1.2.2.1 m1.2.1.2.1 m1.2.2.2.2.2.1.1 p1 c0)
  obtain ⟨n1, an1, bn1, rfl⟩ := in_R c0 (by omega) (by omega)
  have hw : n1 = 0 ∨ n1 = 1 ∨ n1 = 2 := by omega
  rcases hw with rfl | rfl | rfl
  · exact StD.ok s mg (by decide) (c_K_count0 hst hC him htp hwk) (fun h1 m1 => c_M_count0 hst m1.1 m1.2.2.2.2.2.1.2.2.1 m1.2.1.2.1 m1.2.2.2.2.2.1.1)
  · exact StD.ok s mg (by decide) (c_K_count1 hst hC him htp hwk) (fun h1 m1 => c_M_count1 hst m1.1 m1.2.2.2.2.2.1.2.2.1 m1.2.1.2.1 m1.2.2.2.2.2.1.1)
  · exact StD.ok s mg (by decide) (c_K_count2 hst hC him htp hwk) (fun h1 m1 => c_M_count2 hst m1.1 m1.2.2.2.2.2.1.2.2.1 m1.2.1.2.1 m1.2.2.2.2.2.1.1)
set_option maxHeartbeats 4000000 in
theorem q_dearest {l : Launch} {Z : EE} (hst : l.stackTraces = false) (j : Nat) (p1 p2 p3 : Int32) (h : PH) (s : SG (j + 1) h) : StW l Z m_L_dearest m_X11_dearest 60 2 193 [.int p1, .int p2, .int p3] (GG j) h := by
  obtain ⟨c, la, lw, bk, kg, mg, g, o1, o2, o3⟩ := id s
  have hC := kg.1.1
  have hL := kg.2.2.1
  have hW := kg.2.2.2.1
  have hwr := kg.2.2.2.2.2.2.2.2
  have hok := g.2.2.1
  by_cases c0 : outR 0 60 p1
  · exact StW.no (k := 1) (f := 13) (kd := 1) (by decide) (by decide) (Or.inr ⟨rfl, rfl⟩) hwr kg mg g o1 o2 o3 (by decide) (c_L_dearest_ia hst (c_K_dearest_no0 hst hC hwr p1 p2 p3 c0) hC.K0) (fun h1 m1 => c_M_dearest_no0 hst m1.1 p1 p2 p3 c0)
  obtain ⟨n1, an1, bn1, rfl⟩ := in_R c0 (by omega) (by omega)
  by_cases c1 : outR n1 60 p2
  · by_cases c2 : outR 0 60 p2
    · exact StW.no (k := 1) (f := 13) (kd := 1) (by decide) (by decide) (Or.inr ⟨rfl, rfl⟩) hwr kg mg g o1 o2 o3 (by decide) (c_L_dearest_ia hst (c_K_dearest_no1 hst hC hwr n1 (by omega) p2 p3 c1) hC.K0) (fun h1 m1 => c_M_dearest_no1 hst m1.1 n1 (by omega) p2 p3 c2)
    · obtain ⟨n2, an2, bn2, rfl⟩ := in_R c2 (by omega) (by omega)
      have hlt : n2 < n1 := Nat.lt_of_not_le fun e => c1 ⟨(nI_leI (by omega) (by omega)).mpr e, (nI_leI (by omega) (by omega)).mpr bn2⟩
      exact StW.no (k := 1) (f := 13) (kd := 1) (by decide) (by decide) (Or.inr ⟨rfl, rfl⟩) hwr kg mg g o1 o2 o3 (by decide) (c_L_dearest_ia hst (c_K_dearest_no1 hst hC hwr n1 (by omega) (nI n2) p3 c1) hC.K0) (fun h1 m1 => c_M_dearest_no2 hst m1.1 n1 (by omega) n2 (by omega) p3 hlt)
  obtain ⟨n2, an2, bn2, rfl⟩ := in_R c1 (by omega) (by omega)
  by_cases c3 : outR 0 2 p3
  · exact StW.no (k := 1) (f := 13) (kd := 1) (by decide) (by decide) (Or.inr ⟨rfl, rfl⟩) hwr kg mg g o1 o2 o3 (by decide) (c_L_dearest_ia hst (c_K_dearest_no2 hst hC hwr n1 n2 an2 bn2 p3 c3) hC.K0) (fun h1 m1 => c_M_dearest_no3 hst m1.1 n1 (by omega) n2 (by omega) p3 an2 c3)
  obtain ⟨n3, an3, bn3, rfl⟩ := in_R c3 (by omega) (by omega)
  have hw : n3 = 0 ∨ n3 = 1 ∨ n3 = 2 := by omega
  rcases hw with rfl | rfl | rfl
  · exact StW.ok s mg (by decide) (c_L_dearest_k hst (c_K_dearest0 hst hC hL hW hok n1 n2 an2 bn2) hC.K0 (fun r h9 e => ⟨e.1, (e.2.2.1 72).trans o1⟩)) (fun h1 m1 => c_M_dearest0 hst m1.1 m1.2.2.1.2.2 rfl m1.2.2.2.1 hok n1 n2 an2 bn2)
  · exact StW.ok s mg (by decide) (c_L_dearest_k hst (c_K_dearest1 hst hC hL hW hok n1 n2 an2 bn2) hC.K0 (fun r h9 e => ⟨e.1, (e.2.2.1 72).trans o1⟩)) (fun h1 m1 => c_M_dearest1 hst m1.1 m1.2.2.1.2.2 rfl m1.2.2.2.1 hok n1 n2 an2 bn2)
  · exact StW.ok s mg (by decide) (c_L_dearest_k hst (c_K_dearest2 hst hC hL hW hok n1 n2 an2 bn2) hC.K0 (fun r h9 e => ⟨e.1, (e.2.2.1 72).trans o1⟩)) (fun h1 m1 => c_M_dearest2 hst m1.1 m1.2.2.1.2.2 rfl m1.2.2.2.1 hok n1 n2 an2 bn2)
set_option maxHeartbeats 4000000 in
theorem q_tax {l : Launch} {Z : EE} (hst : l.stackTraces = false) (j : Nat) (p1 p2 : Int32) (h : PH) (s : SG (j + 1) h) : StW l Z m_L_tax m_X11_tax 60 2 193 [.int p1, .int p2] (GG j) h := by
  obtain ⟨c, la, lw, bk, kg, mg, g, o1, o2, o3⟩ := id s
  have hC := kg.1.1
  have hL := kg.2.2.1
  have h6 := hL.2.2.2.2.2.2.1
  have hmi := kg.2.2.2.2.2.2.2.1
  have hwr := kg.2.2.2.2.2.2.2.2
  have hc := g.2.1.2.co
  by_cases c0 : outP c.2.1.1 p1
  · exact StW.no (k := 1) (f := 12) (kd := 0) (by decide) (by decide) (Or.inl ⟨rfl, rfl⟩) hmi kg mg g o1 o2 o3 (by decide) (c_L_tax_ns hst (c_K_tax_no0 hst hC hL hmi p1 p2 c0) hC.K0) (fun h1 m1 => c_M_tax_no0 hst m1.1 m1.2.2.1.1 h6 m1.2.2.1.2.2 p1 p2 c0)
  obtain ⟨n1, bn1, rfl⟩ := in_P c0 h6
  by_cases c1 : outR 0 9999 p2
  · exact StW.no (k := 2) (f := 13) (kd := 1) (by decide) (by decide) (Or.inr ⟨rfl, rfl⟩) hwr kg mg g o1 o2 o3 (by decide) (c_L_tax_ia hst (c_K_tax_no1 hst hC hL hwr n1 bn1 p2 c1) hC.K0) (fun h1 m1 => c_M_tax_no1 hst m1.1 m1.2.2.1.1 h6 m1.2.2.1.2.2 n1 bn1 p2 c1)
  obtain ⟨n2, an2, bn2, rfl⟩ := in_R c1 (by omega) (by omega)
  exact StW.ok s mg (by decide) (c_L_tax_k hst (c_K_tax hst hC hL hc n1 bn1 n2 an2 bn2) hC.K0 (fun r h9 e => ⟨e.1, (e.2.2.1 72).trans o1⟩)) (fun h1 m1 => c_M_tax hst m1.1 m1.2.2.1.1 h6 m1.2.2.1.2.2 hc n1 bn1 n2 an2 bn2)
set_option maxHeartbeats 4000000 in
theorem q_poorest {l : Launch} {Z : EE} (hst : l.stackTraces = false) (j : Nat) (p1 : Int32) (h : PH) (s : SG (j + 1) h) : StW l Z m_L_poorest m_X11_poorest 60 2 193 [.int p1] (GG j) h := by
  obtain ⟨c, la, lw, bk, kg, mg, g, o1, o2, o3⟩ := id s
  have hC := kg.1.1
  have hL := kg.2.2.1
  have h6 := hL.2.2.2.2.2.2.1
  have hwr := kg.2.2.2.2.2.2.2.2
  by_cases c0 : outR 0 1 p1
  · exact StW.no (k := 1) (f := 13) (kd := 1) (by decide) (by decide) (Or.inr ⟨rfl, rfl⟩) hwr kg mg g o1 o2 o3 (by decide) (c_L_poorest_ia hst (c_K_poorest_no0 hst hC hL hwr p1 c0) hC.K0) (fun h1 m1 => c_M_poorest_no0 hst m1.1 m1.2.2.1.1 h6 m1.2.2.1.2.2 p1 c0)
  obtain ⟨n1, an1, bn1, rfl⟩ := in_R c0 (by omega) (by omega)
  have hw : n1 = 0 ∨ n1 = 1 := by omega
  by_cases e0 : c.2.1.1 = 0
  · have hL0 : LandAt h la 0 c.2.1.2.1 c.2.1.2.2 := by
      have q := hL
      rw [e0] at q
      exact q
    have hnp : ∀ h1, MG h1 c → hp_F h1 46 15 = .int (nI 0) := fun h1 m1 => by
      have q := m1.2.2.1.1
      rw [e0] at q
      exact q
    rcases hw with rfl | rfl
    · exact StW.ok s mg (by decide) (c_L_poorest_k hst (c_K_poorest0_z hst hC hL0) hC.K0 (fun r h9 e => ⟨e.1, (e.2.2.1 72).trans o1⟩)) (fun h1 m1 => c_M_poorest0_z hst m1.1 (hnp h1 m1) m1.2.2.1.2.2)
    · exact StW.ok s mg (by decide) (c_L_poorest_k hst (c_K_poorest1_z hst hC hL0) hC.K0 (fun r h9 e => ⟨e.1, (e.2.2.1 72).trans o1⟩)) (fun h1 m1 => c_M_poorest1_z hst m1.1 (hnp h1 m1) m1.2.2.1.2.2)
  · have e1 : 1 ≤ c.2.1.1 := by omega
    rcases hw with rfl | rfl
    · exact StW.ok s mg (by decide) (c_L_poorest_k hst (c_K_poorest0 hst hC hL e1) hC.K0 (fun r h9 e => ⟨e.1, (e.2.2.1 72).trans o1⟩)) (fun h1 m1 => c_M_poorest0 hst m1.1 m1.2.2.1.1 h6 m1.2.2.1.2.2 e1)
    · exact StW.ok s mg (by decide) (c_L_poorest_k hst (c_K_poorest1 hst hC hL e1) hC.K0 (fun r h9 e => ⟨e.1, (e.2.2.1 72).trans o1⟩)) (fun h1 m1 => c_M_poorest1 hst m1.1 m1.2.2.1.1 h6 m1.2.2.1.2.2 e1)
theorem tol7 {f : Nat → Int32} {np : Nat} (h : RowOK f np) (h6 : np ≤ 6) : smI (fun q => mnI (nI 9999) (f (183 + q))) np = smI (fun i => f (183 + i)) np := smI_congr np fun i hi => by
  obtain ⟨c, h1, h2⟩ := h.2.2.1 i (by omega)
  rw [h2, mnI_n _ _ (by omega) (by omega), Nat.min_eq_right h1]
set_option maxHeartbeats 4000000 in
theorem q_told {l : Launch} {Z : EE} (hst : l.stackTraces = false) (j : Nat) (p1 : Int32) (h : PH) (s : SG (j + 1) h) : StW l Z m_L_told m_X11_told 60 2 193 [.int p1] (GG j) h := by
  obtain ⟨c, la, lw, bk, kg, mg, g, o1, o2, o3⟩ := id s
  have hC := kg.1.1
  have hL := kg.2.2.1
  have hW := kg.2.2.2.1
  have hB := kg.2.2.2.2.1
  have h6 := hL.2.2.2.2.2.2.1
  have h20 := hL.2.2.2.2.2.2.2
  have hrs := kg.2.2.2.2.2.2.1
  have hmi := kg.2.2.2.2.2.2.2.1
  have hwr := kg.2.2.2.2.2.2.2.2
  have hu := g.2.1.2
  have hok := g.2.2.1
  have hg := g.2.2.2.1
  by_cases c0 : outR 0 7 p1
  · exact StW.no (k := 1) (f := 13) (kd := 1) (by decide) (by decide) (Or.inr ⟨rfl, rfl⟩) hwr kg mg g o1 o2 o3 (by decide) (c_L_told_ia hst (c_K_told_no0 hst hC hL hwr p1 c0) hC.K0) (fun h1 m1 => (c_M_told_no0 hst m1.1 m1.2.2.1.1 h6 m1.2.2.1.2.1 m1.2.2.2.2.1.1 m1.2.2.2.2.2.2.1 m1.2.2.1.2.2 rfl p1 c0))
  obtain ⟨n1, an1, bn1, rfl⟩ := in_R c0 (by omega) (by omega)
  have hw : n1 = 0 ∨ n1 = 1 ∨ n1 = 2 ∨ n1 = 3 ∨ n1 = 4 ∨ n1 = 5 ∨ n1 = 6 ∨ n1 = 7 := by omega
  rcases hw with rfl | rfl | rfl | rfl | rfl | rfl | rfl | rfl
  · exact StW.ok s mg (by decide) (c_L_told_k hst (c_K_told0 hst hC hL hB.2.2.2.2.2.1 hB.1 hrs) hC.K0 (fun r h9 e => ⟨e.1, (e.2.2.1 72).trans o1⟩)) (fun h1 m1 => (c_M_told0 hst m1.1 m1.2.2.1.1 h6 m1.2.2.1.2.1 m1.2.2.2.2.1.1 m1.2.2.2.2.2.2.1 m1.2.2.1.2.2 rfl))
  · exact StW.ok s mg (by decide) (c_L_told_k hst (c_K_told1 hst hC hL hB.2.2.2.2.2.1 hB.1 hrs) hC.K0 (fun r h9 e => ⟨e.1, (e.2.2.1 72).trans o1⟩)) (fun h1 m1 => (c_M_told1 hst m1.1 m1.2.2.1.1 h6 m1.2.2.1.2.1 m1.2.2.2.2.1.1 m1.2.2.2.2.2.2.1 m1.2.2.1.2.2 rfl))
  · exact StW.ok s mg (by decide) (c_L_told_k hst (c_K_told2 hst hC hL hB.2.2.2.2.2.1 hB.1 hrs) hC.K0 (fun r h9 e => ⟨e.1, (e.2.2.1 72).trans o1⟩)) (fun h1 m1 => (c_M_told2 hst m1.1 m1.2.2.1.1 h6 m1.2.2.1.2.1 m1.2.2.2.2.1.1 m1.2.2.2.2.2.2.1 m1.2.2.1.2.2 rfl))
  · exact StW.ok s mg (by decide) (c_L_told_k hst (c_K_told3 hst hC hL hB.2.2.2.2.2.1 hB.1 hrs) hC.K0 (fun r h9 e => ⟨e.1, (e.2.2.1 72).trans o1⟩)) (fun h1 m1 => (c_M_told3 hst m1.1 m1.2.2.1.1 h6 m1.2.2.1.2.1 m1.2.2.2.2.1.1 m1.2.2.2.2.2.2.1 m1.2.2.1.2.2 rfl))
  · exact StW.ok s mg (by decide) (c_L_told_k hst (c_K_told4 hst hC hL hB.2.2.2.2.2.1 hB.1 hrs) hC.K0 (fun r h9 e => ⟨e.1, (e.2.2.1 72).trans o1⟩)) (fun h1 m1 => (c_M_told4 hst m1.1 m1.2.2.1.1 h6 m1.2.2.1.2.1 m1.2.2.2.2.1.1 m1.2.2.2.2.2.2.1 m1.2.2.1.2.2 rfl))
  · exact StW.ok s mg (by decide) (c_L_told_k hst (c_K_told5 hst hC hL hB.2.2.2.2.2.1 hB.1 hrs) hC.K0 (fun r h9 e => ⟨e.1, (e.2.2.1 72).trans o1⟩)) (fun h1 m1 => (c_M_told5 hst m1.1 m1.2.2.1.1 h6 m1.2.2.1.2.1 m1.2.2.2.2.1.1 m1.2.2.2.2.2.2.1 m1.2.2.1.2.2 rfl))
  · exact StW.ok s mg (by decide) (c_L_told_k hst (c_K_told6 hst hC hL hB.2.2.2.2.2.1 hB.1 hrs) hC.K0 (fun r h9 e => ⟨e.1, (e.2.2.1 72).trans o1⟩)) (fun h1 m1 => (c_M_told6 hst m1.1 m1.2.2.1.1 h6 m1.2.2.1.2.1 m1.2.2.2.2.1.1 m1.2.2.2.2.2.2.1 m1.2.2.1.2.2 rfl))
  · exact StW.ok (d2 := 2) s mg (by decide) (c_L_told_k hst (c_K_told7 hst hC hL hB.2.2.2.2.2.1 hB.1 hrs) hC.K0 (fun r h9 e => ⟨e.1, (e.2.2.1 72).trans o1⟩)) (fun h1 m1 => by rw [tol7 hu h6]; exact (c_M_told7 hst m1.1 m1.2.2.1.1 h6 m1.2.2.1.2.1 m1.2.2.2.2.1.1 m1.2.2.2.2.2.2.1 m1.2.2.1.2.2 rfl))
set_option maxHeartbeats 4000000 in
theorem q_number {l : Launch} {Z : EE} (hst : l.stackTraces = false) (j : Nat) (p1 p2 : Int32) (h : PH) (s : SG (j + 1) h) : StW l Z m_L_number m_X11_number 60 2 193 [.int p1, .int p2] (GG j) h := by
  obtain ⟨c, la, lw, bk, kg, mg, g, o1, o2, o3⟩ := id s
  have hC := kg.1.1
  have hL := kg.2.2.1
  have hW := kg.2.2.2.1
  have hB := kg.2.2.2.2.1
  have h6 := hL.2.2.2.2.2.2.1
  have h20 := hL.2.2.2.2.2.2.2
  have hrs := kg.2.2.2.2.2.2.1
  have hmi := kg.2.2.2.2.2.2.2.1
  have hwr := kg.2.2.2.2.2.2.2.2
  have hu := g.2.1.2
  have hok := g.2.2.1
  have hg := g.2.2.2.1
  by_cases c0 : outR 0 60 p1
  · exact StW.no (k := 1) (f := 12) (kd := 0) (by decide) (by decide) (Or.inl ⟨rfl, rfl⟩) hmi kg mg g o1 o2 o3 (by decide) (c_L_number_ns hst (c_K_number_no0 hst hC hL hmi p1 p2 c0) hC.K0) (fun h1 m1 => (c_M_number_no0 hst m1.1 m1.2.2.1.2.2 p1 p2 c0))
  obtain ⟨n1, an1, bn1, rfl⟩ := in_R c0 (by omega) (by omega)
  by_cases c1 : outR 0 4 p2
  · exact StW.no (k := 2) (f := 13) (kd := 1) (by decide) (by decide) (Or.inr ⟨rfl, rfl⟩) hwr kg mg g o1 o2 o3 (by decide) (c_L_number_ia hst (c_K_number_no1 hst hC hL hwr n1 (by omega) p2 c1) hC.K0) (fun h1 m1 => (c_M_number_no1 hst m1.1 m1.2.2.1.2.2 n1 (by omega) p2 c1))
  obtain ⟨n2, an2, bn2, rfl⟩ := in_R c1 (by omega) (by omega)
  have hw : n2 = 0 ∨ n2 = 1 ∨ n2 = 2 ∨ n2 = 3 ∨ n2 = 4 := by omega
  rcases hw with rfl | rfl | rfl | rfl | rfl
  · exact StW.ok s mg (by decide) (c_L_number_k hst (c_K_number0 hst hC hL n1 (by omega)) hC.K0 (fun r h9 e => ⟨e.1, (e.2.2.1 72).trans o1⟩)) (fun h1 m1 => (c_M_number0 hst m1.1 m1.2.2.1.2.2 n1 (by omega)))
  · exact StW.ok s mg (by decide) (c_L_number_k hst (c_K_number1 hst hC hL n1 (by omega)) hC.K0 (fun r h9 e => ⟨e.1, (e.2.2.1 72).trans o1⟩)) (fun h1 m1 => (c_M_number1 hst m1.1 m1.2.2.1.2.2 n1 (by omega)))
  · exact StW.ok s mg (by decide) (c_L_number_k hst (c_K_number2 hst hC hL n1 (by omega)) hC.K0 (fun r h9 e => ⟨e.1, (e.2.2.1 72).trans o1⟩)) (fun h1 m1 => (c_M_number2 hst m1.1 m1.2.2.1.2.2 n1 (by omega)))
  · exact StW.ok (d2 := 2) s mg (by decide) (c_L_number_k hst (c_K_number3 hst hC hL n1 (by omega)) hC.K0 (fun r h9 e => ⟨e.1, (e.2.2.1 72).trans o1⟩)) (fun h1 m1 => by rw [parts_ok n1 (by omega)]; exact (c_M_number3 hst m1.1 m1.2.2.1.2.2 n1 (by omega)))
  · exact StW.ok s mg (by decide) (c_L_number_k hst (c_K_number4 hst hC hL n1 (by omega)) hC.K0 (fun r h9 e => ⟨e.1, (e.2.2.1 72).trans o1⟩)) (fun h1 m1 => (c_M_number4 hst m1.1 m1.2.2.1.2.2 n1 (by omega)))
set_option maxHeartbeats 4000000 in
theorem q_run {l : Launch} {Z : EE} (hst : l.stackTraces = false) (j : Nat) (p1 p2 : Int32) (h : PH) (s : SG (j + 1) h) : StW l Z m_L_run m_X11_run 60 2 193 [.int p1, .int p2] (GG j) h := by
  obtain ⟨c, la, lw, bk, kg, mg, g, o1, o2, o3⟩ := id s
  have hC := kg.1.1
  have hL := kg.2.2.1
  have hW := kg.2.2.2.1
  have hB := kg.2.2.2.2.1
  have h6 := hL.2.2.2.2.2.2.1
  have h20 := hL.2.2.2.2.2.2.2
  have hrs := kg.2.2.2.2.2.2.1
  have hmi := kg.2.2.2.2.2.2.2.1
  have hwr := kg.2.2.2.2.2.2.2.2
  have hu := g.2.1.2
  have hok := g.2.2.1
  have hg := g.2.2.2.1
  by_cases c0 : outP c.2.1.1 p1
  · exact StW.no (k := 1) (f := 12) (kd := 0) (by decide) (by decide) (Or.inl ⟨rfl, rfl⟩) hmi kg mg g o1 o2 o3 (by decide) (c_L_run_ns hst (c_K_run_no0 hst hC hL hmi p1 p2 c0) hC.K0) (fun h1 m1 => (c_M_run_no0 hst m1.1 m1.2.2.1.1 h6 m1.2.2.1.2.2 p1 p2 c0))
  obtain ⟨n1, bn1, rfl⟩ := in_P c0 h6
  by_cases c1 : outR 0 1 p2
  · exact StW.no (k := 2) (f := 13) (kd := 1) (by decide) (by decide) (Or.inr ⟨rfl, rfl⟩) hwr kg mg g o1 o2 o3 (by decide) (c_L_run_ia hst (c_K_run_no1 hst hC hL hwr n1 (by omega) p2 c1) hC.K0) (fun h1 m1 => (c_M_run_no1 hst m1.1 m1.2.2.1.1 h6 m1.2.2.1.2.2 n1 (by omega) p2 c1))
  obtain ⟨n2, an2, bn2, rfl⟩ := in_R c1 (by omega) (by omega)
  have hw : n2 = 0 ∨ n2 = 1 := by omega
  rcases hw with rfl | rfl
  · exact StW.ok (d2 := 2) s mg (by decide) (c_L_run_k hst (c_K_run0 hst hC hL n1 (by omega)) hC.K0 (fun r h9 e => ⟨e.1, (e.2.2.1 72).trans o1⟩)) (fun h1 m1 => by rw [(run_eq _).1]; exact (c_M_run0 hst m1.1 m1.2.2.1.1 h6 m1.2.2.1.2.2 n1 (by omega)))
  · exact StW.ok (d2 := 2) s mg (by decide) (c_L_run_k hst (c_K_run1 hst hC hL n1 (by omega)) hC.K0 (fun r h9 e => ⟨e.1, (e.2.2.1 72).trans o1⟩)) (fun h1 m1 => by rw [(run_eq _).2]; exact (c_M_run1 hst m1.1 m1.2.2.1.1 h6 m1.2.2.1.2.2 n1 (by omega)))
