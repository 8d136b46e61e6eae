/-! ===== the questions, one by one ===== -/
theorem in_R {lo hi : Nat} {x : Int32} (h : ¬ outR lo hi x) (hl : lo < 2 ^ 31) (hh : hi < 2 ^ 31) : ∃ n : Nat, lo ≤ n ∧ n ≤ hi ∧ x = nI n := by
  have h2 : nI lo ≤ x ∧ x ≤ nI hi := Classical.byContradiction fun e => h e
  have h3 := h2.1
  rw [Int32.le_iff_toInt_le, nI_toInt hl] at h3
  have h0 : ¬ x < 0 := fun q => by
    rw [Int32.lt_iff_toInt_lt, show (0 : Int32).toInt = 0 from by decide] at q
    omega
  obtain ⟨n, hn, rfl⟩ := nI_of2 (n := hi) (nI_toInt hh) h0 h2.2
  exact ⟨n, (nI_leI hl (by omega)).mp h2.1, hn, rfl⟩
theorem in_P {np : Nat} {x : Int32} (h : ¬ outP np x) (h6 : np ≤ 6) : ∃ q : Nat, q < np ∧ x = nI q := by
  have h2 : nI 0 ≤ x ∧ x < nI np := Classical.byContradiction fun e => h e
  obtain ⟨n, -, hn, rfl⟩ := in_R (lo := 0) (hi := np) (x := x) (fun e => e ⟨h2.1, Int32.le_of_lt h2.2⟩) (by omega) (by omega)
  exact ⟨n, (nI_ltI (by omega) (by omega)).mp h2.2, rfl⟩
set_option maxHeartbeats 4000000 in
theorem q_worth {l : Launch} {Z : EE} (hst : l.stackTraces = false) (j : Nat) (p1 : Int32) (h : PH) (s : SG (j + 1) h) : StW l Z m_L_worth m_X11_worth 60 2 193 [.int p1] (GG j) h := by
  obtain ⟨c, la, lw, bk, kg, mg, g, o1, o2, o3⟩ := id s
  have hC := kg.1.1
  have hL := kg.2.2.1
  have h6 := hL.2.2.2.2.2.2.1
  have hmi := kg.2.2.2.2.2.2.2.1
  by_cases c0 : outP c.2.1.1 p1
  · exact StW.no (k := 1) (f := 12) (kd := 0) (by decide) (by decide) (Or.inl ⟨rfl, rfl⟩) hmi kg mg g o1 o2 o3 (by decide) (c_L_worth_ns hst (c_K_worth_no0 hst hC hL hmi p1 c0) hC.K0) (fun h1 m1 => c_M_worth_no0 hst m1.1 m1.2.2.1.1 h6 m1.2.2.1.2.2 p1 c0)
  · obtain ⟨q, hq, rfl⟩ := in_P c0 h6
    exact StW.ok s mg (by decide) (c_L_worth_k hst (c_K_worth hst hC hL q hq) hC.K0 (fun r h' e => ⟨e.1, (e.2.2.1 72).trans o1⟩)) (fun h1 m1 => c_M_worth hst m1.1 m1.2.2.1.1 h6 m1.2.2.1.2.2 q hq)
theorem RowOK.U {f : Nat → Int32} {np : Nat} (h : RowOK f np) : RowU f np := ⟨h.1, h.2.2.1⟩
set_option maxHeartbeats 4000000 in
theorem q_person {l : Launch} {Z : EE} (hst : l.stackTraces = false) (j : Nat) (p1 p2 : Int32) (h : PH) (s : SG (j + 1) h) : StW l Z m_L_person m_X11_person 60 2 193 [.int p1, .int p2] (GG j) h := by
  obtain ⟨c, la, lw, bk, kg, mg, g, o1, o2, o3⟩ := id s
  have hC := kg.1.1
  have hL := kg.2.2.1
  have hW := kg.2.2.2.1
  have hB := kg.2.2.2.2.1
  have h6 := hL.2.2.2.2.2.2.1
  have h20 := hL.2.2.2.2.2.2.2
  have hrs := kg.2.2.2.2.2.2.1
  have hmi := kg.2.2.2.2.2.2.2.1
  have hwr := kg.2.2.2.2.2.2.2.2
  have hu := g.2.1.2
  have hok := g.2.2.1
  have hg := g.2.2.2.1
  by_cases c0 : outP c.2.1.1 p1
  · exact StW.no (k := 1) (f := 12) (kd := 0) (by decide) (by decide) (Or.inl ⟨rfl, rfl⟩) hmi kg mg g o1 o2 o3 (by decide) (c_L_person_ns hst (c_K_person_no0 hst hC hL hmi p1 p2 c0) hC.K0) (fun h1 m1 => (c_M_person_no0 hst m1.1 m1.2.2.1.1 h6 m1.2.2.1.2.2 p1 p2 c0))
  obtain ⟨n1, bn1, rfl⟩ := in_P c0 h6
  by_cases c1 : outR 0 4 p2
  · exact StW.no (k := 2) (f := 13) (kd := 1) (by decide) (by decide) (Or.inr ⟨rfl, rfl⟩) hwr kg mg g o1 o2 o3 (by decide) (c_L_person_ia hst (c_K_person_no1 hst hC hL hwr n1 (by omega) p2 c1) hC.K0) (fun h1 m1 => (c_M_person_no1 hst m1.1 m1.2.2.1.1 h6 m1.2.2.1.2.2 n1 (by omega) p2 c1))
  obtain ⟨n2, an2, bn2, rfl⟩ := in_R c1 (by omega) (by omega)
  have hw : n2 = 0 ∨ n2 = 1 ∨ n2 = 2 ∨ n2 = 3 ∨ n2 = 4 := by omega
  rcases hw with rfl | rfl | rfl | rfl | rfl
  · exact StW.ok s mg (by decide) (c_L_person_k hst (c_K_person0 hst hC hL n1 (by omega)) hC.K0 (fun r h9 e => ⟨e.1, (e.2.2.1 72).trans o1⟩)) (fun h1 m1 => (c_M_person0 hst m1.1 m1.2.2.1.1 h6 m1.2.2.1.2.2 n1 (by omega)))
  · exact StW.ok s mg (by decide) (c_L_person_k hst (c_K_person1 hst hC hL n1 (by omega)) hC.K0 (fun r h9 e => ⟨e.1, (e.2.2.1 72).trans o1⟩)) (fun h1 m1 => (c_M_person1 hst m1.1 m1.2.2.1.1 h6 m1.2.2.1.2.2 n1 (by omega)))
  · exact StW.ok s mg (by decide) (c_L_person_k hst (c_K_person2 hst hC hL n1 (by omega)) hC.K0 (fun r h9 e => ⟨e.1, (e.2.2.1 72).trans o1⟩)) (fun h1 m1 => (c_M_person2 hst m1.1 m1.2.2.1.1 h6 m1.2.2.1.2.2 n1 (by omega)))
  · exact StW.ok s mg (by decide) (c_L_person_k hst (c_K_person3 hst hC hL n1 (by omega)) hC.K0 (fun r h9 e => ⟨e.1, (e.2.2.1 72).trans o1⟩)) (fun h1 m1 => (c_M_person3 hst m1.1 m1.2.2.1.1 h6 m1.2.2.1.2.2 n1 (by omega)))
  · exact StW.ok s mg (by decide) (c_L_person_k hst (c_K_person4 hst hC hL n1 (by omega)) hC.K0 (fun r h9 e => ⟨e.1, (e.2.2.1 72).trans o1⟩)) (fun h1 m1 => (c_M_person4 hst m1.1 m1.2.2.1.1 h6 m1.2.2.1.2.2 n1 (by omega)))
set_option maxHeartbeats 4000000 in
theorem q_fare {l : Launch} {Z : EE} (hst : l.stackTraces = false) (j : Nat) (p1 p2 : Int32) (h : PH) (s : SG (j + 1) h) : StW l Z m_L_fare m_X11_fare 60 2 193 [.int p1, .int p2] (GG j) h := by
  obtain ⟨c, la, lw, bk, kg, mg, g, o1, o2, o3⟩ := id s
  have hC := kg.1.1
  have hL := kg.2.2.1
  have hW := kg.2.2.2.1
  have hB := kg.2.2.2.2.1
  have h6 := hL.2.2.2.2.2.2.1
  have h20 := hL.2.2.2.2.2.2.2
  have hrs := kg.2.2.2.2.2.2.1
  have hmi := kg.2.2.2.2.2.2.2.1
  have hwr := kg.2.2.2.2.2.2.2.2
  have hu := g.2.1.2
  have hok := g.2.2.1
  have hg := g.2.2.2.1
  by_cases c0 : outR 0 60 p1
  · exact StW.no (k := 1) (f := 12) (kd := 0) (by decide) (by decide) (Or.inl ⟨rfl, rfl⟩) hmi kg mg g o1 o2 o3 (by decide) (c_L_fare_ns hst (c_K_fare_no0 hst hC hL hW hok hmi p1 p2 c0) hC.K0) (fun h1 m1 => (c_M_fare_no0 hst m1.1 m1.2.2.1.2.2 rfl m1.2.2.2.1 hok p1 p2 c0))
  obtain ⟨n1, an1, bn1, rfl⟩ := in_R c0 (by omega) (by omega)
  by_cases c1 : outR 0 2 p2
  · exact StW.no (k := 2) (f := 13) (kd := 1) (by decide) (by decide) (Or.inr ⟨rfl, rfl⟩) hwr kg mg g o1 o2 o3 (by decide) (c_L_fare_ia hst (c_K_fare_no1 hst hC hL hW hok hwr n1 (by omega) p2 c1) hC.K0) (fun h1 m1 => (c_M_fare_no1 hst m1.1 m1.2.2.1.2.2 rfl m1.2.2.2.1 hok n1 (by omega) p2 c1))
  obtain ⟨n2, an2, bn2, rfl⟩ := in_R c1 (by omega) (by omega)
  exact StW.ok s mg (by decide) (c_L_fare_k hst (c_K_fare hst hC hL hW hok n1 (by omega) n2 (by omega) (by omega)) hC.K0 (fun r h9 e => ⟨e.1, (e.2.2.1 72).trans o1⟩)) (fun h1 m1 => (c_M_fare hst m1.1 m1.2.2.1.2.2 rfl m1.2.2.2.1 hok n1 (by omega) n2 (by omega) (by omega)))
set_option maxHeartbeats 4000000 in
theorem q_would {l : Launch} {Z : EE} (hst : l.stackTraces = false) (j : Nat) (p1 p2 p3 p4 p5 p6 : Int32) (h : PH) (s : SG (j + 1) h) : StW l Z m_L_would m_X11_would 60 2 193 [.int p1, .int p2, .int p3, .int p4, .int p5, .int p6] (GG j) h := by
  obtain ⟨c, la, lw, bk, kg, mg, g, o1, o2, o3⟩ := id s
  have hC := kg.1.1
  have hL := kg.2.2.1
  have hW := kg.2.2.2.1
  have hB := kg.2.2.2.2.1
  have h6 := hL.2.2.2.2.2.2.1
  have h20 := hL.2.2.2.2.2.2.2
  have hrs := kg.2.2.2.2.2.2.1
  have hmi := kg.2.2.2.2.2.2.2.1
  have hwr := kg.2.2.2.2.2.2.2.2
  have hu := g.2.1.2
  have hok := g.2.2.1
  have hg := g.2.2.2.1
  by_cases c0 : outR 0 60 p1
  · exact StW.no (k := 1) (f := 13) (kd := 1) (by decide) (by decide) (Or.inr ⟨rfl, rfl⟩) hwr kg mg g o1 o2 o3 (by decide) (c_L_would_ia hst (c_K_would_no0 hst hC hL hW hok hwr p1 p2 p3 p4 p5 p6 c0) hC.K0) (fun h1 m1 => (c_M_would_no0 hst m1.1 m1.2.2.2.1 hok p1 p2 p3 p4 p5 p6 c0))
  obtain ⟨n1, an1, bn1, rfl⟩ := in_R c0 (by omega) (by omega)
  by_cases c1 : outR 0 40 p2
  · exact StW.no (k := 1) (f := 13) (kd := 1) (by decide) (by decide) (Or.inr ⟨rfl, rfl⟩) hwr kg mg g o1 o2 o3 (by decide) (c_L_would_ia hst (c_K_would_no1 hst hC hL hW hok hwr n1 (by omega) (by omega) p2 p3 p4 p5 p6 c1) hC.K0) (fun h1 m1 => (c_M_would_no1 hst m1.1 m1.2.2.2.1 hok n1 (by omega) (by omega) p2 p3 p4 p5 p6 c1))
  obtain ⟨n2, an2, bn2, rfl⟩ := in_R c1 (by omega) (by omega)
  by_cases c2 : outR 0 2 p3
  · exact StW.no (k := 1) (f := 13) (kd := 1) (by decide) (by decide) (Or.inr ⟨rfl, rfl⟩) hwr kg mg g o1 o2 o3 (by decide) (c_L_would_ia hst (c_K_would_no2 hst hC hL hW hok hwr n1 (by omega) (by omega) n2 (by omega) (by omega) p3 p4 p5 p6 c2) hC.K0) (fun h1 m1 => (c_M_would_no2 hst m1.1 m1.2.2.2.1 hok n1 (by omega) (by omega) n2 (by omega) (by omega) p3 p4 p5 p6 c2))
  obtain ⟨n3, an3, bn3, rfl⟩ := in_R c2 (by omega) (by omega)
  by_cases c3 : outR 0 5 p4
  · exact StW.no (k := 1) (f := 13) (kd := 1) (by decide) (by decide) (Or.inr ⟨rfl, rfl⟩) hwr kg mg g o1 o2 o3 (by decide) (c_L_would_ia hst (c_K_would_no3 hst hC hL hW hok hwr n1 (by omega) (by omega) n2 (by omega) (by omega) n3 (by omega) (by omega) p4 p5 p6 c3) hC.K0) (fun h1 m1 => (c_M_would_no3 hst m1.1 m1.2.2.2.1 hok n1 (by omega) (by omega) n2 (by omega) (by omega) n3 (by omega) (by omega) p4 p5 p6 c3))
  obtain ⟨n4, an4, bn4, rfl⟩ := in_R c3 (by omega) (by omega)
  by_cases c4 : outR 0 999 p5
  · exact StW.no (k := 1) (f := 13) (kd := 1) (by decide) (by decide) (Or.inr ⟨rfl, rfl⟩) hwr kg mg g o1 o2 o3 (by decide) (c_L_would_ia hst (c_K_would_no4 hst hC hL hW hok hwr n1 (by omega) (by omega) n2 (by omega) (by omega) n3 (by omega) (by omega) n4 (by omega) (by omega) p5 p6 c4) hC.K0) (fun h1 m1 => (c_M_would_no4 hst m1.1 m1.2.2.2.1 hok n1 (by omega) (by omega) n2 (by omega) (by omega) n3 (by omega) (by omega) n4 (by omega) (by omega) p5 p6 c4))
  obtain ⟨n5, an5, bn5, rfl⟩ := in_R c4 (by omega) (by omega)
  by_cases c5 : outR 0 900 p6
  · exact StW.no (k := 1) (f := 13) (kd := 1) (by decide) (by decide) (Or.inr ⟨rfl, rfl⟩) hwr kg mg g o1 o2 o3 (by decide) (c_L_would_ia hst (c_K_would_no5 hst hC hL hW hok hwr n1 (by omega) (by omega) n2 (by omega) (by omega) n3 (by omega) (by omega) n4 (by omega) (by omega) n5 (by omega) (by omega) p6 c5) hC.K0) (fun h1 m1 => (c_M_would_no5 hst m1.1 m1.2.2.2.1 hok n1 (by omega) (by omega) n2 (by omega) (by omega) n3 (by omega) (by omega) n4 (by omega) (by omega) n5 (by omega) (by omega) p6 c5))
  obtain ⟨n6, an6, bn6, rfl⟩ := in_R c5 (by omega) (by omega)
  exact StW.ok s mg (by decide) (c_L_would_k hst (c_K_would hst hC hL hW hok n1 (by omega) (by omega) n2 (by omega) (by omega) n3 (by omega) (by omega) n4 (by omega) (by omega) n5 (by omega) (by omega) n6 (by omega) (by omega)) hC.K0 (fun r h9 e => ⟨e.1, (e.2.2.1 72).trans o1⟩)) (fun h1 m1 => (c_M_would hst m1.1 m1.2.2.2.1 hok n1 (by omega) (by omega) n2 (by omega) (by omega) n3 (by omega) (by omega) n4 (by omega) (by omega) n5 (by omega) (by omega) n6 (by omega) (by omega)))
set_option maxHeartbeats 4000000 in
theorem q_cost {l : Launch} {Z : EE} (hst : l.stackTraces = false) (j : Nat) (p1 : Int32) (h : PH) (s : SG (j + 1) h) : StW l Z m_L_cost m_X11_cost 60 2 193 [.int p1] (GG j) h := by
  obtain ⟨c, la, lw, bk, kg, mg, g, o1, o2, o3⟩ := id s
  have hC := kg.1.1
  have hL := kg.2.2.1
  have hW := kg.2.2.2.1
  have hB := kg.2.2.2.2.1
  have h6 := hL.2.2.2.2.2.2.1
  have h20 := hL.2.2.2.2.2.2.2
  have hrs := kg.2.2.2.2.2.2.1
  have hmi := kg.2.2.2.2.2.2.2.1
  have hwr := kg.2.2.2.2.2.2.2.2
  have hu := g.2.1.2
  have hok := g.2.2.1
  have hg := g.2.2.2.1
  by_cases c0 : outR 0 60 p1
  · exact StW.no (k := 1) (f := 12) (kd := 0) (by decide) (by decide) (Or.inl ⟨rfl, rfl⟩) hmi kg mg g o1 o2 o3 (by decide) (c_L_cost_ns hst (c_K_cost_no0 hst hC hL hW hok hmi p1 c0) hC.K0) (fun h1 m1 => (c_M_cost_no hst m1.1 p1 c0))
  obtain ⟨n1, an1, bn1, rfl⟩ := in_R c0 (by omega) (by omega)
  exact StW.ok s mg (by decide) (c_L_cost_k hst (c_K_cost hst hC hL hW hok n1 (by omega)) hC.K0 (fun r h9 e => ⟨e.1, (e.2.2.1 72).trans o1⟩)) (fun h1 m1 => (c_M_cost hst m1.1 m1.2.2.1.2.2 rfl m1.2.2.2.1 hok m1.2.2.1.2.1 h20 n1 (by omega)))
set_option maxHeartbeats 4000000 in
theorem q_saying {l : Launch} {Z : EE} (hst : l.stackTraces = false) (j : Nat) (p1 p2 : Int32) (h : PH) (s : SG (j + 1) h) : StW l Z m_L_saying m_X11_saying 60 2 193 [.int p1, .int p2] (GG j) h := by
  obtain ⟨c, la, lw, bk, kg, mg, g, o1, o2, o3⟩ := id s
  have hC := kg.1.1
  have hL := kg.2.2.1
  have hW := kg.2.2.2.1
  have hB := kg.2.2.2.2.1
  have h6 := hL.2.2.2.2.2.2.1
  have h20 := hL.2.2.2.2.2.2.2
  have hrs := kg.2.2.2.2.2.2.1
  have hmi := kg.2.2.2.2.2.2.2.1
  have hwr := kg.2.2.2.2.2.2.2.2
  have hu := g.2.1.2
  have hok := g.2.2.1
  have hg := g.2.2.2.1
  by_cases c0 : outR 0 60 p1
  · exact StW.no (k := 1) (f := 12) (kd := 0) (by decide) (by decide) (Or.inl ⟨rfl, rfl⟩) hmi kg mg g o1 o2 o3 (by decide) (c_L_saying_ns hst (c_K_saying_no0 hst hC hL hW hok hmi p1 p2 c0) hC.K0) (fun h1 m1 => (c_M_saying_no0 hst m1.1 m1.2.2.1.2.2 rfl m1.2.2.2.1 hok p1 p2 c0))
  obtain ⟨n1, an1, bn1, rfl⟩ := in_R c0 (by omega) (by omega)
  by_cases c1 : outR 0 2 p2
  · exact StW.no (k := 2) (f := 13) (kd := 1) (by decide) (by decide) (Or.inr ⟨rfl, rfl⟩) hwr kg mg g o1 o2 o3 (by decide) (c_L_saying_ia hst (c_K_saying_no1 hst hC hL hW hok hwr n1 (by omega) p2 c1) hC.K0) (fun h1 m1 => (c_M_saying_no1 hst m1.1 m1.2.2.1.2.2 rfl m1.2.2.2.1 hok n1 (by omega) p2 c1))
  obtain ⟨n2, an2, bn2, rfl⟩ := in_R c1 (by omega) (by omega)
  have hw : n2 = 0 ∨ n2 = 1 ∨ n2 = 2 := by omega
  rcases hw with rfl | rfl | rfl
  · exact StW.ok s mg (by decide) (c_L_saying_k hst (c_K_saying0 hst hC hL hW hok n1 (by omega)) hC.K0 (fun r h9 e => ⟨e.1, (e.2.2.1 72).trans o1⟩)) (fun h1 m1 => (c_M_saying0 hst m1.1 m1.2.2.1.2.2 rfl m1.2.2.2.1 hok m1.2.2.1.2.1 h20 n1 (by omega)))
  · exact StW.ok s mg (by decide) (c_L_saying_k hst (c_K_saying1 hst hC hL hW hok n1 (by omega)) hC.K0 (fun r h9 e => ⟨e.1, (e.2.2.1 72).trans o1⟩)) (fun h1 m1 => (c_M_saying1 hst m1.1 m1.2.2.1.2.2 rfl m1.2.2.2.1 hok m1.2.2.1.2.1 h20 n1 (by omega)))
  · exact StW.ok s mg (by decide) (c_L_saying_k hst (c_K_saying2 hst hC hL hW hok n1 (by omega)) hC.K0 (fun r h9 e => ⟨e.1, (e.2.2.1 72).trans o1⟩)) (fun h1 m1 => (c_M_saying2 hst m1.1 m1.2.2.1.2.2 rfl m1.2.2.2.1 hok m1.2.2.1.2.1 h20 n1 (by omega)))
set_option maxHeartbeats 4000000 in
theorem q_leaves {l : Launch} {Z : EE} (hst : l.stackTraces = false) (j : Nat) (p1 : Int32) (h : PH) (s : SG (j + 1) h) : StW l Z m_L_leaves m_X11_leaves 60 2 193 [.int p1] (GG j) h := by
  obtain ⟨c, la, lw, bk, kg, mg, g, o1, o2, o3⟩ := id s
  have hC := kg.1.1
  have hL := kg.2.2.1
  have hW := kg.2.2.2.1
  have hB := kg.2.2.2.2.1
  have h6 := hL.2.2.2.2.2.2.1
  have h20 := hL.2.2.2.2.2.2.2
  have hrs := kg.2.2.2.2.2.2.1
  have hmi := kg.2.2.2.2.2.2.2.1
  have hwr := kg.2.2.2.2.2.2.2.2
  have hu := g.2.1.2
  have hok := g.2.2.1
  have hg := g.2.2.2.1
  by_cases c0 : outR 0 60 p1
  · exact StW.no (k := 1) (f := 12) (kd := 0) (by decide) (by decide) (Or.inl ⟨rfl, rfl⟩) hmi kg mg g o1 o2 o3 (by decide) (c_L_leaves_ns hst (c_K_leaves_no0 hst hC hL hW hok hmi p1 c0) hC.K0) (fun h1 m1 => (c_M_leaves_no hst m1.1 p1 c0))
  obtain ⟨n1, an1, bn1, rfl⟩ := in_R c0 (by omega) (by omega)
  exact StW.ok s mg (by decide) (c_L_leaves_k hst (c_K_leaves hst hC hL hW hok n1 (by omega)) hC.K0 (fun r h9 e => ⟨e.1, (e.2.2.1 72).trans o1⟩)) (fun h1 m1 => (c_M_leaves hst m1.1 m1.2.2.1.2.2 rfl m1.2.2.2.1 hok m1.2.2.1.2.1 h20 n1 (by omega)))
set_option maxHeartbeats 4000000 in
theorem q_out {l : Launch} {Z : EE} (hst : l.stackTraces = false) (j : Nat) (p1 : Int32) (h : PH) (s : SG (j + 1) h) : StW l Z m_L_out m_X11_out 60 2 193 [.int p1] (GG j) h := by
  obtain ⟨c, la, lw, bk, kg, mg, g, o1, o2, o3⟩ := id s
  have hC := kg.1.1
  have hL := kg.2.2.1
  have hW := kg.2.2.2.1
  have hB := kg.2.2.2.2.1
  have h6 := hL.2.2.2.2.2.2.1
  have h20 := hL.2.2.2.2.2.2.2
  have hrs := kg.2.2.2.2.2.2.1
  have hmi := kg.2.2.2.2.2.2.2.1
  have hwr := kg.2.2.2.2.2.2.2.2
  have hu := g.2.1.2
  have hok := g.2.2.1
  have hg := g.2.2.2.1
  by_cases c0 : outR 0 60 p1
  · exact StW.no (k := 1) (f := 12) (kd := 0) (by decide) (by decide) (Or.inl ⟨rfl, rfl⟩) hmi kg mg g o1 o2 o3 (by decide) (c_L_out_ns hst (c_K_out_no0 hst hC hL hmi p1 c0) hC.K0) (fun h1 m1 => (c_M_out_no hst m1.1 p1 c0))
  obtain ⟨n1, an1, bn1, rfl⟩ := in_R c0 (by omega) (by omega)
  exact StW.ok s mg (by decide) (c_L_out_k hst (c_K_out hst hC hL n1 (by omega)) hC.K0 (fun r h9 e => ⟨e.1, (e.2.2.1 72).trans o1⟩)) (fun h1 m1 => (c_M_out hst m1.1 m1.2.2.1.2.2 n1 (by omega)))
set_option maxHeartbeats 4000000 in
theorem q_round {l : Launch} {Z : EE} (hst : l.stackTraces = false) (j : Nat) (p1 p2 p3 : Int32) (h : PH) (s : SG (j + 1) h) : StW l Z m_L_round m_X11_round 60 2 193 [.int p1, .int p2, .int p3] (GG j) h := by
  obtain ⟨c, la, lw, bk, kg, mg, g, o1, o2, o3⟩ := id s
  have hC := kg.1.1
  have hL := kg.2.2.1
  have hW := kg.2.2.2.1
  have hB := kg.2.2.2.2.1
  have h6 := hL.2.2.2.2.2.2.1
  have h20 := hL.2.2.2.2.2.2.2
  have hrs := kg.2.2.2.2.2.2.1
  have hmi := kg.2.2.2.2.2.2.2.1
  have hwr := kg.2.2.2.2.2.2.2.2
  have hu := g.2.1.2
  have hok := g.2.2.1
  have hg := g.2.2.2.1
  by_cases c0 : outR 0 60 p1
  · exact StW.no (k := 1) (f := 12) (kd := 0) (by decide) (by decide) (Or.inl ⟨rfl, rfl⟩) hmi kg mg g o1 o2 o3 (by decide) (c_L_round_ns hst (c_K_round_no0 hst hC hL hW hok hmi p1 p2 p3 c0) hC.K0) (fun h1 m1 => (c_M_round_no0 hst m1.1 p1 p2 p3 c0))
  obtain ⟨n1, an1, bn1, rfl⟩ := in_R c0 (by omega) (by omega)
  by_cases c1 : outR 0 60 p2
  · exact StW.no (k := 1) (f := 12) (kd := 0) (by decide) (by decide) (Or.inl ⟨rfl, rfl⟩) hmi kg mg g o1 o2 o3 (by decide) (c_L_round_ns hst (c_K_round_no1 hst hC hL hW hok hmi n1 (by omega) p2 p3 c1) hC.K0) (fun h1 m1 => (c_M_round_no1 hst m1.1 n1 (by omega) p2 p3 c1))
  obtain ⟨n2, an2, bn2, rfl⟩ := in_R c1 (by omega) (by omega)
  by_cases c2 : outR 0 2 p3
  · exact StW.no (k := 2) (f := 13) (kd := 1) (by decide) (by decide) (Or.inr ⟨rfl, rfl⟩) hwr kg mg g o1 o2 o3 (by decide) (c_L_round_ia hst (c_K_round_no2 hst hC hL hW hok hwr n1 (by omega) n2 (by omega) p3 c2) hC.K0) (fun h1 m1 => (c_M_round_no2 hst m1.1 n1 (by omega) n2 (by omega) p3 c2))
  obtain ⟨n3, an3, bn3, rfl⟩ := in_R c2 (by omega) (by omega)
  have hw : n3 = 0 ∨ n3 = 1 ∨ n3 = 2 := by omega
  rcases hw with rfl | rfl | rfl
  · exact StW.ok s mg (by decide) (c_L_round_k hst (c_K_round0 hst hC hL hW hok n1 (by omega) n2 (by omega)) hC.K0 (fun r h9 e => ⟨e.1, (e.2.2.1 72).trans o1⟩)) (fun h1 m1 => (c_M_round0 hst m1.1 m1.2.2.1.2.2 rfl m1.2.2.2.1 hok n1 (by omega) n2 (by omega)))
  · exact StW.ok s mg (by decide) (c_L_round_k hst (c_K_round1 hst hC hL hW hok n1 (by omega) n2 (by omega)) hC.K0 (fun r h9 e => ⟨e.1, (e.2.2.1 72).trans o1⟩)) (fun h1 m1 => (c_M_round1 hst m1.1 m1.2.2.1.2.2 rfl m1.2.2.2.1 hok n1 (by omega) n2 (by omega)))
  · exact StW.ok s mg (by decide) (c_L_round_k hst (c_K_round2 hst hC hL hW hok n1 (by omega) n2 (by omega)) hC.K0 (fun r h9 e => ⟨e.1, (e.2.2.1 72).trans o1⟩)) (fun h1 m1 => (c_M_round2 hst m1.1 m1.2.2.1.2.2 rfl m1.2.2.2.1 hok n1 (by omega) n2 (by omega)))
set_option maxHeartbeats 4000000 in
theorem q_buy {l : Launch} {Z : EE} (hst : l.stackTraces = false) (j : Nat) (p1 p2 : Int32) (h : PH) (s : SG (j + 1) h) : StW l Z m_L_buy m_X11_buy 60 2 193 [.int p1, .int p2] (GG j) h := by
  obtain ⟨c, la, lw, bk, kg, mg, g, o1, o2, o3⟩ := id s
  have hC := kg.1.1
  have hL := kg.2.2.1
  have hW := kg.2.2.2.1
  have hB := kg.2.2.2.2.1
  have h6 := hL.2.2.2.2.2.2.1
  have h20 := hL.2.2.2.2.2.2.2
  have hrs := kg.2.2.2.2.2.2.1
  have hmi := kg.2.2.2.2.2.2.2.1
  have hwr := kg.2.2.2.2.2.2.2.2
  have hu := g.2.1.2
  have hok := g.2.2.1
  have hg := g.2.2.2.1
  by_cases c0 : outR 0 9999 p1
  · exact StW.no (k := 1) (f := 13) (kd := 1) (by decide) (by decide) (Or.inr ⟨rfl, rfl⟩) hwr kg mg g o1 o2 o3 (by decide) (c_L_buy_ia hst (c_K_buy_no0 hst hC hL hwr p1 p2 c0) hC.K0) (fun h1 m1 => (c_M_buy_no0 hst m1.1 p1 p2 c0))
  obtain ⟨n1, an1, bn1, rfl⟩ := in_R c0 (by omega) (by omega)
  by_cases c1 : outR 0 1 p2
  · exact StW.no (k := 1) (f := 13) (kd := 1) (by decide) (by decide) (Or.inr ⟨rfl, rfl⟩) hwr kg mg g o1 o2 o3 (by decide) (c_L_buy_ia hst (c_K_buy_no1 hst hC hL hwr n1 (by omega) (by omega) p2 c1) hC.K0) (fun h1 m1 => (c_M_buy_no1 hst m1.1 n1 (by omega) p2 c1))
  obtain ⟨n2, an2, bn2, rfl⟩ := in_R c1 (by omega) (by omega)
  have hw : n2 = 0 ∨ n2 = 1 := by omega
  rcases hw with rfl | rfl
  · exact StW.ok s mg (by decide) (c_L_buy_k hst (c_K_buy0 hst hC hL hW hok hu hB hg n1 (by omega) (by omega)) hC.K0 (fun r h9 e => ⟨e.1, (e.2.2.1 72).trans o1⟩)) (fun h1 m1 => (c_M_buy0 hst m1.1 m1.2.2.1.2.2 rfl m1.2.2.2.1 hok hu m1.2.2.2.2.1 hg n1 (by omega)))
  · exact StW.ok s mg (by decide) (c_L_buy_k hst (c_K_buy1 hst hC hL hW hok hu hB hg n1 (by omega) (by omega)) hC.K0 (fun r h9 e => ⟨e.1, (e.2.2.1 72).trans o1⟩)) (fun h1 m1 => (c_M_buy1 hst m1.1 m1.2.2.1.2.2 rfl m1.2.2.2.1 hok hu m1.2.2.2.2.1 hg n1 (by omega)))
set_option maxHeartbeats 4000000 in
theorem q_meant {l : Launch} {Z : EE} (hst : l.stackTraces = false) (j : Nat) (p1 p2 p3 : Int32) (h : PH) (s : SG (j + 1) h) : StW l Z m_L_meant m_X11_meant 60 2 193 [.int p1, .int p2, .int p3] (GG j) h := by
  obtain ⟨c, la, lw, bk, kg, mg, g, o1, o2, o3⟩ := id s
  have hC := kg.1.1
  have hL := kg.2.2.1
  have hW := kg.2.2.2.1
  have hB := kg.2.2.2.2.1
  have h6 := hL.2.2.2.2.2.2.1
  have h20 := hL.2.2.2.2.2.2.2
  have hrs := kg.2.2.2.2.2.2.1
  have hmi := kg.2.2.2.2.2.2.2.1
  have hwr := kg.2.2.2.2.2.2.2.2
  have hu := g.2.1.2
  have hok := g.2.2.1
  have hg := g.2.2.2.1
  by_cases c0 : outR 0 297 p1
  · exact StW.no (k := 1) (f := 13) (kd := 1) (by decide) (by decide) (Or.inr ⟨rfl, rfl⟩) hwr kg mg g o1 o2 o3 (by decide) (c_L_meant_ia hst (c_K_meant_no0 hst hC hwr p1 p2 p3 c0) hC.K0) (fun h1 m1 => (c_M_meant_no0 hst m1.1 p1 p2 p3 c0))
  obtain ⟨n1, an1, bn1, rfl⟩ := in_R c0 (by omega) (by omega)
  by_cases c1 : outR 1 3 p2
  · exact StW.no (k := 1) (f := 13) (kd := 1) (by decide) (by decide) (Or.inr ⟨rfl, rfl⟩) hwr kg mg g o1 o2 o3 (by decide) (c_L_meant_ia hst (c_K_meant_no1 hst hC hwr n1 (by omega) p2 p3 c1) hC.K0) (fun h1 m1 => (c_M_meant_no1 hst m1.1 n1 (by omega) p2 p3 c1))
  obtain ⟨n2, an2, bn2, rfl⟩ := in_R c1 (by omega) (by omega)
  by_cases c2 : outR 0 1 p3
  · exact StW.no (k := 1) (f := 13) (kd := 1) (by decide) (by decide) (Or.inr ⟨rfl, rfl⟩) hwr kg mg g o1 o2 o3 (by decide) (c_L_meant_ia hst (c_K_meant_no2 hst hC hwr n1 (by omega) n2 (by omega) (by omega) p3 c2) hC.K0) (fun h1 m1 => (c_M_meant_no2 hst m1.1 n1 (by omega) n2 (by omega) (by omega) p3 c2))
  obtain ⟨n3, an3, bn3, rfl⟩ := in_R c2 (by omega) (by omega)
  have hw : n3 = 0 ∨ n3 = 1 := by omega
  rcases hw with rfl | rfl
  · exact StW.ok s mg (by decide) (c_L_meant_k hst (c_K_meant0 hst hC hL hW hok n1 (by omega) n2 (by omega) (by omega)) hC.K0 (fun r h9 e => ⟨e.1, (e.2.2.1 72).trans o1⟩)) (fun h1 m1 => (c_M_meant0 hst m1.1 m1.2.2.1.2.2 rfl m1.2.2.2.1 hok n1 (by omega) n2 (by omega) (by omega)))
  · exact StW.ok s mg (by decide) (c_L_meant_k hst (c_K_meant1 hst hC hL hW hok n1 (by omega) n2 (by omega) (by omega)) hC.K0 (fun r h9 e => ⟨e.1, (e.2.2.1 72).trans o1⟩)) (fun h1 m1 => (c_M_meant1 hst m1.1 m1.2.2.1.2.2 rfl m1.2.2.2.1 hok n1 (by omega) n2 (by omega) (by omega)))
set_option maxHeartbeats 4000000 in
theorem q_look {l : Launch} {Z : EE} (hst : l.stackTraces = false) (j : Nat) (p1 p2 p3 : Int32) (h : PH) (s : SG (j + 1) h) : StW l Z m_L_look m_X11_look 60 2 193 [.int p1, .int p2, .int p3] (GG j) h := by
  obtain ⟨c, la, lw, bk, kg, mg, g, o1, o2, o3⟩ := id s
  have hC := kg.1.1
  have hL := kg.2.2.1
  have hW := kg.2.2.2.1
  have hB := kg.2.2.2.2.1
  have h6 := hL.2.2.2.2.2.2.1
  have h20 := hL.2.2.2.2.2.2.2
  have hrs := kg.2.2.2.2.2.2.1
  have hmi := kg.2.2.2.2.2.2.2.1
  have hwr := kg.2.2.2.2.2.2.2.2
  have hu := g.2.1.2
  have hok := g.2.2.1
  have hg := g.2.2.2.1
  by_cases c0 : outR 0 297 p1
  · exact StW.no (k := 1) (f := 13) (kd := 1) (by decide) (by decide) (Or.inr ⟨rfl, rfl⟩) hwr kg mg g o1 o2 o3 (by decide) (c_L_look_ia hst (c_K_look_no0 hst hC hwr p1 p2 p3 c0) hC.K0) (fun h1 m1 => (c_M_look_no0 hst m1.1 p1 p2 p3 c0))
  obtain ⟨n1, an1, bn1, rfl⟩ := in_R c0 (by omega) (by omega)
  by_cases c1 : outR 1 3 p2
  · exact StW.no (k := 1) (f := 13) (kd := 1) (by decide) (by decide) (Or.inr ⟨rfl, rfl⟩) hwr kg mg g o1 o2 o3 (by decide) (c_L_look_ia hst (c_K_look_no1 hst hC hwr n1 (by omega) p2 p3 c1) hC.K0) (fun h1 m1 => (c_M_look_no1 hst m1.1 n1 (by omega) p2 p3 c1))
  obtain ⟨n2, an2, bn2, rfl⟩ := in_R c1 (by omega) (by omega)
  by_cases c2 : outR 0 1 p3
  · exact StW.no (k := 1) (f := 13) (kd := 1) (by decide) (by decide) (Or.inr ⟨rfl, rfl⟩) hwr kg mg g o1 o2 o3 (by decide) (c_L_look_ia hst (c_K_look_no2 hst hC hwr n1 (by omega) n2 (by omega) (by omega) p3 c2) hC.K0) (fun h1 m1 => (c_M_look_no2 hst m1.1 n1 (by omega) n2 (by omega) (by omega) p3 c2))
  obtain ⟨n3, an3, bn3, rfl⟩ := in_R c2 (by omega) (by omega)
  have hw : n3 = 0 ∨ n3 = 1 := by omega
  rcases hw with rfl | rfl
  · exact StW.ok s mg (by decide) (c_L_look_k hst (c_K_look0 hst hC hL hW hok n1 (by omega) n2 (by omega) (by omega)) hC.K0 (fun r h9 e => ⟨e.1, (e.2.2.1 72).trans o1⟩)) (fun h1 m1 => (c_M_look0 hst m1.1 m1.2.2.1.2.2 rfl m1.2.2.2.1 hok n1 (by omega) n2 (by omega) (by omega)))
  · exact StW.ok s mg (by decide) (c_L_look_k hst (c_K_look1 hst hC hL hW hok n1 (by omega) n2 (by omega) (by omega)) hC.K0 (fun r h9 e => ⟨e.1, (e.2.2.1 72).trans o1⟩)) (fun h1 m1 => (c_M_look1 hst m1.1 m1.2.2.1.2.2 rfl m1.2.2.2.1 hok n1 (by omega) n2 (by omega) (by omega)))
set_option maxHeartbeats 4000000 in
theorem q_dice {l : Launch} {Z : EE} (hst : l.stackTraces = false) (j : Nat) (p1 p2 : Int32) (h : PH) (s : SG (j + 1) h) : StW l Z m_L_dice m_X11_dice 60 2 193 [.int p1, .int p2] (GG j) h := by
  obtain ⟨c, la, lw, bk, kg, mg, g, o1, o2, o3⟩ := id s
  have hC := kg.1.1
  have hL := kg.2.2.1
  have hW := kg.2.2.2.1
  have hB := kg.2.2.2.2.1
  have h6 := hL.2.2.2.2.2.2.1
  have h20 := hL.2.2.2.2.2.2.2
  have hrs := kg.2.2.2.2.2.2.1
  have hmi := kg.2.2.2.2.2.2.2.1
  have hwr := kg.2.2.2.2.2.2.2.2
  have hu := g.2.1.2
  have hok := g.2.2.1
  have hg := g.2.2.2.1
  by_cases c0 : outR 1 60 p1
  · exact StW.no (k := 1) (f := 13) (kd := 1) (by decide) (by decide) (Or.inr ⟨rfl, rfl⟩) hwr kg mg g o1 o2 o3 (by decide) (c_L_dice_ia hst (c_K_dice_no0 hst hC hL hW hok hwr p1 p2 c0) hC.K0) (fun h1 m1 => (c_M_dice_no0 hst m1.1 m1.2.2.1.2.2 rfl m1.2.2.2.1 hok p1 p2 c0))
  obtain ⟨n1, an1, bn1, rfl⟩ := in_R c0 (by omega) (by omega)
  by_cases c1 : outR 0 1 p2
  · exact StW.no (k := 1) (f := 13) (kd := 1) (by decide) (by decide) (Or.inr ⟨rfl, rfl⟩) hwr kg mg g o1 o2 o3 (by decide) (c_L_dice_ia hst (c_K_dice_no1 hst hC hL hW hok hwr n1 (by omega) (by omega) p2 c1) hC.K0) (fun h1 m1 => (c_M_dice_no1 hst m1.1 m1.2.2.1.2.2 rfl m1.2.2.2.1 hok n1 (by omega) (by omega) p2 c1))
  obtain ⟨n2, an2, bn2, rfl⟩ := in_R c1 (by omega) (by omega)
  have hw : n2 = 0 ∨ n2 = 1 := by omega
  rcases hw with rfl | rfl
  · exact StW.ok s mg (by decide) (c_L_dice_k hst (c_K_dice0 hst hC hL hW hok n1 (by omega) (by omega)) hC.K0 (fun r h9 e => ⟨e.1, (e.2.2.1 72).trans o1⟩)) (fun h1 m1 => (c_M_dice0 hst m1.1 m1.2.2.1.2.2 rfl m1.2.2.2.1 hok n1 (by omega) (by omega)))
  · exact StW.ok s mg (by decide) (c_L_dice_k hst (c_K_dice1 hst hC hL hW hok n1 (by omega) (by omega)) hC.K0 (fun r h9 e => ⟨e.1, (e.2.2.1 72).trans o1⟩)) (fun h1 m1 => (c_M_dice1 hst m1.1 m1.2.2.1.2.2 rfl m1.2.2.2.1 hok n1 (by omega) (by omega)))
set_option maxHeartbeats 4000000 in
theorem q_lets {l : Launch} {Z : EE} (hst : l.stackTraces = false) (j : Nat) (p1 p2 : Int32) (h : PH) (s : SG (j + 1) h) : StW l Z m_L_lets m_X11_lets 60 2 193 [.int p1, .int p2] (GG j) h := by
  obtain ⟨c, la, lw, bk, kg, mg, g, o1, o2, o3⟩ := id s
  have hC := kg.1.1
  have hL := kg.2.2.1
  have hW := kg.2.2.2.1
  have hB := kg.2.2.2.2.1
  have h6 := hL.2.2.2.2.2.2.1
  have h20 := hL.2.2.2.2.2.2.2
  have hrs := kg.2.2.2.2.2.2.1
  have hmi := kg.2.2.2.2.2.2.2.1
  have hwr := kg.2.2.2.2.2.2.2.2
  have hu := g.2.1.2
  have hok := g.2.2.1
  have hg := g.2.2.2.1
  by_cases c0 : outR 0 20 p1
  · exact StW.no (k := 1) (f := 13) (kd := 1) (by decide) (by decide) (Or.inr ⟨rfl, rfl⟩) hwr kg mg g o1 o2 o3 (by decide) (c_L_lets_ia hst (c_K_lets_no0 hst hC hwr p1 p2 c0) hC.K0) (fun h1 m1 => (c_M_lets_no0 hst m1.1 p1 p2 c0))
  obtain ⟨n1, an1, bn1, rfl⟩ := in_R c0 (by omega) (by omega)
  by_cases c1 : outR 0 2 p2
  · exact StW.no (k := 1) (f := 13) (kd := 1) (by decide) (by decide) (Or.inr ⟨rfl, rfl⟩) hwr kg mg g o1 o2 o3 (by decide) (c_L_lets_ia hst (c_K_lets_no1 hst hC hwr n1 (by omega) (by omega) p2 c1) hC.K0) (fun h1 m1 => (c_M_lets_no1 hst m1.1 n1 (by omega) (by omega) p2 c1))
  obtain ⟨n2, an2, bn2, rfl⟩ := in_R c1 (by omega) (by omega)
  have hw : n2 = 0 ∨ n2 = 1 ∨ n2 = 2 := by omega
  rcases hw with rfl | rfl | rfl
  · exact StW.ok s mg (by decide) (c_L_lets_k hst (c_K_lets0 hst hC n1 (by omega) (by omega)) hC.K0 (fun r h9 e => ⟨e.1, (e.2.2.1 72).trans o1⟩)) (fun h1 m1 => (c_M_lets0 hst m1.1 n1 (by omega)))
  · exact StW.ok s mg (by decide) (c_L_lets_k hst (c_K_lets1 hst hC n1 (by omega) (by omega)) hC.K0 (fun r h9 e => ⟨e.1, (e.2.2.1 72).trans o1⟩)) (fun h1 m1 => (c_M_lets1 hst m1.1 n1 (by omega)))
  · exact StW.ok s mg (by decide) (c_L_lets_k hst (c_K_lets2 hst hC n1 (by omega) (by omega)) hC.K0 (fun r h9 e => ⟨e.1, (e.2.2.1 72).trans o1⟩)) (fun h1 m1 => (c_M_lets2 hst m1.1 n1 (by omega)))
set_option maxHeartbeats 4000000 in
theorem q_landlord {l : Launch} {Z : EE} (hst : l.stackTraces = false) (j : Nat) (p1 : Int32) (h : PH) (s : SG (j + 1) h) : StW l Z m_L_landlord m_X11_landlord 60 2 193 [.int p1] (GG j) h := by
  obtain ⟨c, la, lw, bk, kg, mg, g, o1, o2, o3⟩ := id s
  have hC := kg.1.1
  have hL := kg.2.2.1
  have hW := kg.2.2.2.1
  have hB := kg.2.2.2.2.1
  have h6 := hL.2.2.2.2.2.2.1
  have h20 := hL.2.2.2.2.2.2.2
  have hrs := kg.2.2.2.2.2.2.1
  have hmi := kg.2.2.2.2.2.2.2.1
  have hwr := kg.2.2.2.2.2.2.2.2
  have hu := g.2.1.2
  have hok := g.2.2.1
  have hg := g.2.2.2.1
  by_cases c0 : outR 0 1 p1
  · exact StW.no (k := 1) (f := 13) (kd := 1) (by decide) (by decide) (Or.inr ⟨rfl, rfl⟩) hwr kg mg g o1 o2 o3 (by decide) (c_L_landlord_ia hst (c_K_landlord_no0 hst hC hL hwr p1 c0) hC.K0) (fun h1 m1 => (c_M_landlord_no0 hst m1.1 m1.2.2.1.1 h6 m1.2.2.1.2.2 p1 c0))
  obtain ⟨n1, an1, bn1, rfl⟩ := in_R c0 (by omega) (by omega)
  have hw : n1 = 0 ∨ n1 = 1 := by omega
  rcases hw with rfl | rfl
  · exact StW.ok s mg (by decide) (c_L_landlord_k hst (c_K_landlord0 hst hC hL) hC.K0 (fun r h9 e => ⟨e.1, (e.2.2.1 72).trans o1⟩)) (fun h1 m1 => (c_M_landlord0 hst m1.1 m1.2.2.1.1 h6 m1.2.2.1.2.2))
  · exact StW.ok s mg (by decide) (c_L_landlord_k hst (c_K_landlord1 hst hC hL) hC.K0 (fun r h9 e => ⟨e.1, (e.2.2.1 72).trans o1⟩)) (fun h1 m1 => (c_M_landlord1 hst m1.1 m1.2.2.1.1 h6 m1.2.2.1.2.2))
set_option maxHeartbeats 4000000 in
theorem q_common {l : Launch} {Z : EE} (hst : l.stackTraces = false) (j : Nat) (p1 : Int32) (h : PH) (s : SG (j + 1) h) : StW l Z m_L_common m_X11_common 60 2 193 [.int p1] (GG j) h := by
  obtain ⟨c, la, lw, bk, kg, mg, g, o1, o2, o3⟩ := id s
  have hC := kg.1.1
  have hL := kg.2.2.1
  have hW := kg.2.2.2.1
  have hB := kg.2.2.2.2.1
  have h6 := hL.2.2.2.2.2.2.1
  have h20 := hL.2.2.2.2.2.2.2
  have hrs := kg.2.2.2.2.2.2.1
  have hmi := kg.2.2.2.2.2.2.2.1
  have hwr := kg.2.2.2.2.2.2.2.2
  have hu := g.2.1.2
  have hok := g.2.2.1
  have hg := g.2.2.2.1
  by_cases c0 : outR 0 1 p1
  · exact StW.no (k := 1) (f := 13) (kd := 1) (by decide) (by decide) (Or.inr ⟨rfl, rfl⟩) hwr kg mg g o1 o2 o3 (by decide) (c_L_common_ia hst (c_K_common_no0 hst hC hL hW hok hwr p1 c0) hC.K0) (fun h1 m1 => (c_M_common_no0 hst m1.1 m1.2.2.1.2.2 rfl m1.2.2.2.1 hok p1 c0))
  obtain ⟨n1, an1, bn1, rfl⟩ := in_R c0 (by omega) (by omega)
  have hw : n1 = 0 ∨ n1 = 1 := by omega
  rcases hw with rfl | rfl
  · exact StW.ok s mg (by decide) (c_L_common_k hst (c_K_common0 hst hC hL hW hok) hC.K0 (fun r h9 e => ⟨e.1, (e.2.2.1 72).trans o1⟩)) (fun h1 m1 => (c_M_common0 hst m1.1 m1.2.2.1.2.2 rfl m1.2.2.2.1 hok m1.2.2.1.2.1 h20))
  · exact StW.ok s mg (by decide) (c_L_common_k hst (c_K_common1 hst hC hL hW hok) hC.K0 (fun r h9 e => ⟨e.1, (e.2.2.1 72).trans o1⟩)) (fun h1 m1 => (c_M_common1 hst m1.1 m1.2.2.1.2.2 rfl m1.2.2.2.1 hok m1.2.2.1.2.1 h20))
set_option maxHeartbeats 4000000 in
theorem q_affords {l : Launch} {Z : EE} (hst : l.stackTraces = false) (j : Nat) (p1 p2 p3 : Int32) (h : PH) (s : SG (j + 1) h) : StW l Z m_L_affords m_X11_affords 60 2 193 [.int p1, .int p2, .int p3] (GG j) h := by
  obtain ⟨c, la, lw, bk, kg, mg, g, o1, o2, o3⟩ := id s
  have hC := kg.1.1
  have hL := kg.2.2.1
  have hW := kg.2.2.2.1
  have hB := kg.2.2.2.2.1
  have h6 := hL.2.2.2.2.2.2.1
  have h20 := hL.2.2.2.2.2.2.2
  have hrs := kg.2.2.2.2.2.2.1
  have hmi := kg.2.2.2.2.2.2.2.1
  have hwr := kg.2.2.2.2.2.2.2.2
  have hu := g.2.1.2
  have hok := g.2.2.1
  have hg := g.2.2.2.1
  by_cases c0 : outP c.2.1.1 p1
  · exact StW.no (k := 1) (f := 12) (kd := 0) (by decide) (by decide) (Or.inl ⟨rfl, rfl⟩) hmi kg mg g o1 o2 o3 (by decide) (c_L_affords_ns hst (c_K_affords_no0 hst hC hL hW hok hmi p1 p2 p3 c0) hC.K0) (fun h1 m1 => (c_M_affords_no0 hst m1.1 m1.2.2.1.1 h6 m1.2.2.1.2.2 p1 p2 p3 c0))
  obtain ⟨n1, bn1, rfl⟩ := in_P c0 h6
  by_cases c1 : outR 0 60 p2
  · exact StW.no (k := 1) (f := 12) (kd := 0) (by decide) (by decide) (Or.inl ⟨rfl, rfl⟩) hmi kg mg g o1 o2 o3 (by decide) (c_L_affords_ns hst (c_K_affords_no1 hst hC hL hW hok hmi n1 (by omega) p2 p3 c1) hC.K0) (fun h1 m1 => (c_M_affords_no1 hst m1.1 m1.2.2.1.1 h6 m1.2.2.1.2.2 n1 (by omega) p2 p3 c1))
  obtain ⟨n2, an2, bn2, rfl⟩ := in_R c1 (by omega) (by omega)
  by_cases c2 : outR 0 2 p3
  · exact StW.no (k := 2) (f := 13) (kd := 1) (by decide) (by decide) (Or.inr ⟨rfl, rfl⟩) hwr kg mg g o1 o2 o3 (by decide) (c_L_affords_ia hst (c_K_affords_no2 hst hC hL hW hok hwr n1 (by omega) n2 (by omega) p3 c2) hC.K0) (fun h1 m1 => (c_M_affords_no2 hst m1.1 m1.2.2.1.1 h6 m1.2.2.1.2.2 n1 (by omega) n2 (by omega) p3 c2))
  obtain ⟨n3, an3, bn3, rfl⟩ := in_R c2 (by omega) (by omega)
  exact StW.ok s mg (by decide) (c_L_affords_k hst (c_K_affords hst hC hL hW hok hu n1 (by omega) n2 (by omega) n3 (by omega) (by omega)) hC.K0 (fun r h9 e => ⟨e.1, (e.2.2.1 72).trans o1⟩)) (fun h1 m1 => (c_M_affords hst m1.1 m1.2.2.1.2.2 rfl m1.2.2.2.1 hok m1.2.2.1.1 h6 hu n1 (by omega) n2 (by omega) n3 (by omega) (by omega)))
set_option maxHeartbeats 4000000 in
theorem q_cheapest {l : Launch} {Z : EE} (hst : l.stackTraces = false) (j : Nat) (p1 p2 : Int32) (h : PH) (s : SG (j + 1) h) : StW l Z m_L_cheapest m_X11_cheapest 60 2 193 [.int p1, .int p2] (GG j) h := by
  obtain ⟨c, la, lw, bk, kg, mg, g, o1, o2, o3⟩ := id s
  have hC := kg.1.1
  have hL := kg.2.2.1
  have hW := kg.2.2.2.1
  have hB := kg.2.2.2.2.1
  have h6 := hL.2.2.2.2.2.2.1
  have h20 := hL.2.2.2.2.2.2.2
  have hrs := kg.2.2.2.2.2.2.1
  have hmi := kg.2.2.2.2.2.2.2.1
  have hwr := kg.2.2.2.2.2.2.2.2
  have hu := g.2.1.2
  have hok := g.2.2.1
  have hg := g.2.2.2.1
  by_cases c0 : outR 0 60 p1
  · exact StW.no (k := 1) (f := 12) (kd := 0) (by decide) (by decide) (Or.inl ⟨rfl, rfl⟩) hmi kg mg g o1 o2 o3 (by decide) (c_L_cheapest_ns hst (c_K_cheapest_no0 hst hC hL hW hok hmi p1 p2 c0) hC.K0) (fun h1 m1 => (c_M_cheapest_no0 hst m1.1 m1.2.2.1.2.2 rfl m1.2.2.2.1 hok p1 p2 c0))
  obtain ⟨n1, an1, bn1, rfl⟩ := in_R c0 (by omega) (by omega)
  by_cases c1 : outR 0 1 p2
  · exact StW.no (k := 2) (f := 13) (kd := 1) (by decide) (by decide) (Or.inr ⟨rfl, rfl⟩) hwr kg mg g o1 o2 o3 (by decide) (c_L_cheapest_ia hst (c_K_cheapest_no1 hst hC hL hW hok hwr n1 (by omega) p2 c1) hC.K0) (fun h1 m1 => (c_M_cheapest_no1 hst m1.1 m1.2.2.1.2.2 rfl m1.2.2.2.1 hok n1 (by omega) p2 c1))
  obtain ⟨n2, an2, bn2, rfl⟩ := in_R c1 (by omega) (by omega)
  have hw : n2 = 0 ∨ n2 = 1 := by omega
  rcases hw with rfl | rfl
  · exact StW.ok s mg (by decide) (c_L_cheapest_k hst (c_K_cheapest0 hst hC hL hW hok n1 (by omega)) hC.K0 (fun r h9 e => ⟨e.1, (e.2.2.1 72).trans o1⟩)) (fun h1 m1 => (c_M_cheapest0 hst m1.1 m1.2.2.1.2.2 rfl m1.2.2.2.1 hok n1 (by omega)))
  · exact StW.ok s mg (by decide) (c_L_cheapest_k hst (c_K_cheapest1 hst hC hL hW hok n1 (by omega)) hC.K0 (fun r h9 e => ⟨e.1, (e.2.2.1 72).trans o1⟩)) (fun h1 m1 => (c_M_cheapest1 hst m1.1 m1.2.2.1.2.2 rfl m1.2.2.2.1 hok n1 (by omega)))
set_option maxHeartbeats 4000000 in
theorem q_primes {l : Launch} {Z : EE} (hst : l.stackTraces = false) (j : Nat) (p1 : Int32) (h : PH) (s : SG (j + 1) h) : StW l Z m_L_primes m_X11_primes 60 2 193 [.int p1] (GG j) h := by
  obtain ⟨c, la, lw, bk, kg, mg, g, o1, o2, o3⟩ := id s
  have hC := kg.1.1
  have hL := kg.2.2.1
  have hW := kg.2.2.2.1
  have hB := kg.2.2.2.2.1
  have h6 := hL.2.2.2.2.2.2.1
  have h20 := hL.2.2.2.2.2.2.2
  have hrs := kg.2.2.2.2.2.2.1
  have hmi := kg.2.2.2.2.2.2.2.1
  have hwr := kg.2.2.2.2.2.2.2.2
  have hu := g.2.1.2
  have hok := g.2.2.1
  have hg := g.2.2.2.1
  by_cases c0 : outP c.2.1.1 p1
  · exact StW.no (k := 1) (f := 12) (kd := 0) (by decide) (by decide) (Or.inl ⟨rfl, rfl⟩) hmi kg mg g o1 o2 o3 (by decide) (c_L_primes_ns hst (c_K_primes_no0 hst hC hL hmi p1 c0) hC.K0) (fun h1 m1 => (c_M_primes_no0 hst m1.1 m1.2.2.1.1 h6 m1.2.2.1.2.2 p1 c0))
  obtain ⟨n1, bn1, rfl⟩ := in_P c0 h6
  exact StW.ok s mg (by decide) (c_L_primes_k hst (c_K_primes hst hC hL n1 (by omega)) hC.K0 (fun r h9 e => ⟨e.1, (e.2.2.1 72).trans o1⟩)) (fun h1 m1 => (c_M_primes hst m1.1 m1.2.2.1.1 h6 m1.2.2.1.2.2 n1 (by omega)))
set_option maxHeartbeats 4000000 in
theorem q_sayable {l : Launch} {Z : EE} (hst : l.stackTraces = false) (j : Nat) (p1 p2 : Int32) (h : PH) (s : SG (j + 1) h) : StW l Z m_L_sayable m_X11_sayable 60 2 193 [.int p1, .int p2] (GG j) h := by
  obtain ⟨c, la, lw, bk, kg, mg, g, o1, o2, o3⟩ := id s
  have hC := kg.1.1
  have hL := kg.2.2.1
  have hW := kg.2.2.2.1
  have hB := kg.2.2.2.2.1
  have h6 := hL.2.2.2.2.2.2.1
  have h20 := hL.2.2.2.2.2.2.2
  have hrs := kg.2.2.2.2.2.2.1
  have hmi := kg.2.2.2.2.2.2.2.1
  have hwr := kg.2.2.2.2.2.2.2.2
  have hu := g.2.1.2
  have hok := g.2.2.1
  have hg := g.2.2.2.1
  by_cases c0 : outR 0 99 p1
  · exact StW.no (k := 1) (f := 13) (kd := 1) (by decide) (by decide) (Or.inr ⟨rfl, rfl⟩) hwr kg mg g o1 o2 o3 (by decide) (c_L_sayable_ia hst (c_K_sayable_no0 hst hC hL hW hok hwr p1 p2 c0) hC.K0) (fun h1 m1 => (c_M_sayable_no0 hst m1.1 m1.2.2.1.2.2 rfl m1.2.2.2.1 hok p1 p2 c0))
  obtain ⟨n1, an1, bn1, rfl⟩ := in_R c0 (by omega) (by omega)
  by_cases c1 : outR 0 1 p2
  · exact StW.no (k := 1) (f := 13) (kd := 1) (by decide) (by decide) (Or.inr ⟨rfl, rfl⟩) hwr kg mg g o1 o2 o3 (by decide) (c_L_sayable_ia hst (c_K_sayable_no1 hst hC hL hW hok hwr n1 (by omega) (by omega) p2 c1) hC.K0) (fun h1 m1 => (c_M_sayable_no1 hst m1.1 m1.2.2.1.2.2 rfl m1.2.2.2.1 hok n1 (by omega) (by omega) p2 c1))
  obtain ⟨n2, an2, bn2, rfl⟩ := in_R c1 (by omega) (by omega)
  have hw : n2 = 0 ∨ n2 = 1 := by omega
  rcases hw with rfl | rfl
  · exact StW.ok s mg (by decide) (c_L_sayable_k hst (c_K_sayable0 hst hC hL hW hok n1 (by omega) (by omega)) hC.K0 (fun r h9 e => ⟨e.1, (e.2.2.1 72).trans o1⟩)) (fun h1 m1 => (c_M_sayable0 hst m1.1 m1.2.2.1.2.2 rfl m1.2.2.2.1 hok m1.2.2.1.2.1 h20 n1 (by omega)))
  · exact StW.ok s mg (by decide) (c_L_sayable_k hst (c_K_sayable1 hst hC hL hW hok n1 (by omega) (by omega)) hC.K0 (fun r h9 e => ⟨e.1, (e.2.2.1 72).trans o1⟩)) (fun h1 m1 => (c_M_sayable1 hst m1.1 m1.2.2.1.2.2 rfl m1.2.2.2.1 hok m1.2.2.1.2.1 h20 n1 (by omega)))
set_option maxHeartbeats 4000000 in
theorem q_year {l : Launch} {Z : EE} (hst : l.stackTraces = false) (j : Nat) (p1 p2 p3 : Int32) (h : PH) (s : SG (j + 1) h) : StW l Z m_L_year m_X11_year 60 2 193 [.int p1, .int p2, .int p3] (GG j) h := by
  obtain ⟨c, la, lw, bk, kg, mg, g, o1, o2, o3⟩ := id s
  have hC := kg.1.1
  have hL := kg.2.2.1
  have hW := kg.2.2.2.1
  have hB := kg.2.2.2.2.1
  have h6 := hL.2.2.2.2.2.2.1
  have h20 := hL.2.2.2.2.2.2.2
  have hrs := kg.2.2.2.2.2.2.1
  have hmi := kg.2.2.2.2.2.2.2.1
  have hwr := kg.2.2.2.2.2.2.2.2
  have hu := g.2.1.2
  have hok := g.2.2.1
  have hg := g.2.2.2.1
  by_cases c0 : outR 1 96 p2
  · exact StW.no (k := 1) (f := 13) (kd := 1) (by decide) (by decide) (Or.inr ⟨rfl, rfl⟩) hwr kg mg g o1 o2 o3 (by decide) (c_L_year_ia hst (c_K_year_no0 hst hC hwr p1 p2 p3 c0) hC.K0) (fun h1 m1 => (c_M_year_no0 hst m1.1 p1 p2 p3 c0))
  obtain ⟨n2, an2, bn2, rfl⟩ := in_R c0 (by omega) (by omega)
  by_cases c1 : outR 0 3 p3
  · exact StW.no (k := 1) (f := 13) (kd := 1) (by decide) (by decide) (Or.inr ⟨rfl, rfl⟩) hwr kg mg g o1 o2 o3 (by decide) (c_L_year_ia hst (c_K_year_no1 hst hC hwr p1 n2 (by omega) (by omega) p3 c1) hC.K0) (fun h1 m1 => (c_M_year_no1 hst m1.1 p1 n2 (by omega) (by omega) p3 c1))
  obtain ⟨n3, an3, bn3, rfl⟩ := in_R c1 (by omega) (by omega)
  have hw : n3 = 0 ∨ n3 = 1 ∨ n3 = 2 ∨ n3 = 3 := by omega
  rcases hw with rfl | rfl | rfl | rfl
  · exact StW.ok s mg (by decide) (c_L_year_k hst (c_S_year0 hst hC hL hW hok hC.s43 hu.U p1 n2 (by omega) (by omega)) hC.K0 (fun r h9 e => ⟨e.1, (e.2.2.1 72).trans o1⟩)) (fun h1 m1 => (c_M_year0 hst m1.1 m1.2.2.1.2.2 rfl m1.2.2.2.1 hok m1.2.2.1.1 h6 hu.U p1 n2 (by omega) (by omega)))
  · exact StW.ok s mg (by decide) (c_L_year_k hst (c_S_year1 hst hC hL hW hok hC.s43 hu.U p1 n2 (by omega) (by omega)) hC.K0 (fun r h9 e => ⟨e.1, (e.2.2.1 72).trans o1⟩)) (fun h1 m1 => (c_M_year1 hst m1.1 m1.2.2.1.2.2 rfl m1.2.2.2.1 hok m1.2.2.1.1 h6 hu.U p1 n2 (by omega) (by omega)))
  · exact StW.ok s mg (by decide) (c_L_year_k hst (c_S_year2 hst hC hL hW hok hC.s43 hu.U p1 n2 (by omega) (by omega)) hC.K0 (fun r h9 e => ⟨e.1, (e.2.2.1 72).trans o1⟩)) (fun h1 m1 => (c_M_year2 hst m1.1 m1.2.2.1.2.2 rfl m1.2.2.2.1 hok m1.2.2.1.1 h6 hu.U p1 n2 (by omega) (by omega)))
  · exact StW.ok s mg (by decide) (c_L_year_k hst (c_S_year3 hst hC hL hW hok hC.s43 hu.U p1 n2 (by omega) (by omega)) hC.K0 (fun r h9 e => ⟨e.1, (e.2.2.1 72).trans o1⟩)) (fun h1 m1 => (c_M_year3 hst m1.1 m1.2.2.1.2.2 rfl m1.2.2.2.1 hok m1.2.2.1.1 h6 hu.U p1 n2 (by omega) (by omega)))
set_option maxHeartbeats 4000000 in
theorem q_span {l : Launch} {Z : EE} (hst : l.stackTraces = false) (j : Nat) (p1 p2 p3 p4 : Int32) (h : PH) (s : SG (j + 1) h) : StW l Z m_L_span m_X11_span 60 2 193 [.int p1, .int p2, .int p3, .int p4] (GG j) h := by
  obtain ⟨c, la, lw, bk, kg, mg, g, o1, o2, o3⟩ := id s
  have hC := kg.1.1
  have hL := kg.2.2.1
  have hW := kg.2.2.2.1
  have hB := kg.2.2.2.2.1
  have h6 := hL.2.2.2.2.2.2.1
  have h20 := hL.2.2.2.2.2.2.2
  have hrs := kg.2.2.2.2.2.2.1
  have hmi := kg.2.2.2.2.2.2.2.1
  have hwr := kg.2.2.2.2.2.2.2.2
  have hu := g.2.1.2
  have hok := g.2.2.1
  have hg := g.2.2.2.1
  by_cases c0 : outR 1 20 p2
  · exact StW.no (k := 1) (f := 13) (kd := 1) (by decide) (by decide) (Or.inr ⟨rfl, rfl⟩) hwr kg mg g o1 o2 o3 (by decide) (c_L_span_ia hst (c_K_span_no0 hst hC hwr p1 p2 p3 p4 c0) hC.K0) (fun h1 m1 => (c_M_span_no0 hst m1.1 p1 p2 p3 p4 c0))
  obtain ⟨n2, an2, bn2, rfl⟩ := in_R c0 (by omega) (by omega)
  by_cases c1 : outR 1 96 p3
  · exact StW.no (k := 1) (f := 13) (kd := 1) (by decide) (by decide) (Or.inr ⟨rfl, rfl⟩) hwr kg mg g o1 o2 o3 (by decide) (c_L_span_ia hst (c_K_span_no1 hst hC hwr p1 n2 (by omega) (by omega) p3 p4 c1) hC.K0) (fun h1 m1 => (c_M_span_no1 hst m1.1 p1 n2 (by omega) (by omega) p3 p4 c1))
  obtain ⟨n3, an3, bn3, rfl⟩ := in_R c1 (by omega) (by omega)
  by_cases c2 : outR 0 2 p4
  · exact StW.no (k := 1) (f := 13) (kd := 1) (by decide) (by decide) (Or.inr ⟨rfl, rfl⟩) hwr kg mg g o1 o2 o3 (by decide) (c_L_span_ia hst (c_K_span_no2 hst hC hwr p1 n2 (by omega) (by omega) n3 (by omega) (by omega) p4 c2) hC.K0) (fun h1 m1 => (c_M_span_no2 hst m1.1 p1 n2 (by omega) (by omega) n3 (by omega) (by omega) p4 c2))
  obtain ⟨n4, an4, bn4, rfl⟩ := in_R c2 (by omega) (by omega)
  have hw : n4 = 0 ∨ n4 = 1 ∨ n4 = 2 := by omega
  rcases hw with rfl | rfl | rfl
  · exact StW.ok s mg (by decide) (c_L_span_k hst (c_S_span0 hst hC hL hW hok hC.s43 hu.U p1 n2 (by omega) (by omega) n3 (by omega) (by omega)) hC.K0 (fun r h9 e => ⟨e.1, (e.2.2.1 72).trans o1⟩)) (fun h1 m1 => (c_M_span0 hst m1.1 m1.2.2.1.2.2 rfl m1.2.2.2.1 hok m1.2.2.1.1 h6 hu.U p1 n2 (by omega) (by omega) n3 (by omega) (by omega)))
  · exact StW.ok s mg (by decide) (c_L_span_k hst (c_S_span1 hst hC hL hW hok hC.s43 hu.U p1 n2 (by omega) (by omega) n3 (by omega) (by omega)) hC.K0 (fun r h9 e => ⟨e.1, (e.2.2.1 72).trans o1⟩)) (fun h1 m1 => (c_M_span1 hst m1.1 m1.2.2.1.2.2 rfl m1.2.2.2.1 hok m1.2.2.1.1 h6 hu.U p1 n2 (by omega) (by omega) n3 (by omega) (by omega)))
  · exact StW.ok s mg (by decide) (c_L_span_k hst (c_S_span2 hst hC hL hW hok hC.s43 hu.U p1 n2 (by omega) (by omega) n3 (by omega) (by omega)) hC.K0 (fun r h9 e => ⟨e.1, (e.2.2.1 72).trans o1⟩)) (fun h1 m1 => (c_M_span2 hst m1.1 m1.2.2.1.2.2 rfl m1.2.2.2.1 hok m1.2.2.1.1 h6 hu.U p1 n2 (by omega) (by omega) n3 (by omega) (by omega)))
