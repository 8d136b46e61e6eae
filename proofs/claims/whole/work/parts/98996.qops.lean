/-! ===== the questions, one by one ===== -/
theorem in_R {lo hi : Nat} {x : Int32} (h : ¬ outR lo hi x) (hl : lo < 2 ^ 31) (hh : hi < 2 ^ 31) : ∃ n : Nat, lo ≤ n ∧ n ≤ hi ∧ x = nI n := by
  have h2 : nI lo ≤ x ∧ x ≤ nI hi := Classical.byContradiction fun e => h e
  have h3 := h2.1
  rw [Int32.le_iff_toInt_le, nI_toInt hl] at h3
  have h0 : ¬ x < 0 := fun q => by
    rw [Int32.lt_iff_toInt_lt, show (0 : Int32).toInt = 0 from by decide] at q
    omega
  obtain ⟨n, hn, rfl⟩ := nI_of2 (n := hi) (nI_toInt hh) h0 h2.2
  exact ⟨n, (nI_leI hl (by omega)).mp h2.1, hn, rfl⟩
theorem in_P {np : Nat} {x : Int32} (h : ¬ outP np x) (h6 : np ≤ 6) : ∃ q : Nat, q < np ∧ x = nI q := by
  have h2 : nI 0 ≤ x ∧ x < nI np := Classical.byContradiction fun e => h e
  obtain ⟨n, -, hn, rfl⟩ := in_R (lo := 0) (hi := np) (x := x) (fun e => e ⟨h2.1, Int32.le_of_lt h2.2⟩) (by omega) (by omega)
  exact ⟨n, (nI_ltI (by omega) (by omega)).mp h2.2, rfl⟩
set_option maxHeartbeats 4000000 in
theorem q_worth {l : Launch} {Z : EE} (hst : l.stackTraces = false) (j : Nat) (p1 : Int32) (h : PH) (s : SG (j + 1) h) : StW l Z m_L_worth m_X11_worth 60 2 193 [.int p1] (GG j) h := by
  obtain ⟨c, la, lw, bk, kg, mg, g, o1, o2, o3⟩ := id s
  have hC := kg.1.1
  have hL := kg.2.2.1
  have h6 := hL.2.2.2.2.2.2.1
  have hmi := kg.2.2.2.2.2.2.2.1
  by_cases c0 : outP c.2.1.1 p1
  · exact StW.no (k := 1) (f := 12) (kd := 0) (by decide) (by decide) (Or.inl ⟨rfl, rfl⟩) hmi kg mg g o1 o2 o3 (by decide) (c_L_worth_ns hst (c_K_worth_no0 hst hC hL hmi p1 c0) hC.K0) (fun h1 m1 => c_M_worth_no0 hst m1.1 m1.2.2.1.1 h6 m1.2.2.1.2.2 p1 c0)
  · obtain ⟨q, hq, rfl⟩ := in_P c0 h6
    exact StW.ok s mg (by decide) (c_L_worth_k hst (c_K_worth hst hC hL q hq) hC.K0 (fun r h' e => ⟨e.1, (e.2.2.1 72).trans o1⟩)) (fun h1 m1 => c_M_worth hst m1.1 m1.2.2.1.1 h6 m1.2.2.1.2.2 q hq)
