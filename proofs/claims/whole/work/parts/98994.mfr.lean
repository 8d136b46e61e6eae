/-! ===== the reference's state stays, but for its scratch ===== -/
theorem omY_c {j : Nat} (h : j ∉ ([0, 3, 4, 5, 7, 13, 14, 22, 27, 30, 31, 32, 42, 43, 44, 45, 48, 49] : List Nat)) : ¬ omY 46 j := fun e => by
  rcases e with e | e
  · exact h e.2
  · omega
theorem omX_c {i : Nat} (h : i ∉ ([3, 4, 5, 6, 7, 10, 11, 12, 13, 15, 17, 19, 20, 21, 22, 23, 24] : List Nat)) (h2 : i ≤ 25) : ¬ omX (46 + i) := fun e => by
  rcases e with e | e
  · exact SX_no h e
  · omega
theorem ModS.frM {h h' : PH} (hM : ModS h 46) (q : FrM h h') (hN : 72 < hp_N h) : ModS h' 46 := by
  have h1 : ∀ e ∈ modT, e.2.1 ≤ 25 ∧ e.1 ∉ ([0, 3, 4, 5, 7, 13, 14, 22, 27, 30, 31, 32, 42, 43, 44, 45, 48, 49] : List Nat) := by decide
  exact ⟨(q.2.1 46 (by omega)).trans hM.1, fun e he => ⟨(q.2.1 (46 + e.2.1) (by have := (h1 e he).1; omega)).trans (hM.2 e he).1, (q.2.2.1 46 e.1 (by omega) (omY_c (h1 e he).2)).trans (hM.2 e he).2⟩⟩
theorem MG.fr {h h' : PH} {c : CSt} (k : MG h c) (q : FrM h h') (hN : 72 < hp_N h) : MG h' c := by
  obtain ⟨hM, ⟨t1, t2, t3, bd, t4⟩, ⟨l1, l2, l3⟩, ⟨w1, w2, w3, w4⟩, ⟨b1, b2, b3⟩, ⟨p1, p2, p3, p4⟩, c1, c2, c3⟩ := k
  have F : ∀ j, j ∉ ([0, 3, 4, 5, 7, 13, 14, 22, 27, 30, 31, 32, 42, 43, 44, 45, 48, 49] : List Nat) → hp_F h' 46 j = hp_F h 46 j := fun j hj => q.2.2.1 46 j (by omega) (omY_c hj)
  have R : ∀ i, i ≤ 25 → i ∉ ([3, 4, 5, 6, 7, 10, 11, 12, 13, 15, 17, 19, 20, 21, 22, 23, 24] : List Nat) → hp_I h' (46 + i) = hp_I h (46 + i) := fun i h1 h2 => q.2.2.2.1 (46 + i) (by omega) (omX_c h2 h1)
  have r1 : hp_I h' 47 = hp_I h 47 := R 1 (by decide) (by decide)
  have r2 : hp_I h' 48 = hp_I h 48 := R 2 (by decide) (by decide)
  have r14 : hp_I h' 60 = hp_I h 60 := R 14 (by decide) (by decide)
  have r16 : hp_I h' 62 = hp_I h 62 := R 16 (by decide) (by decide)
  have r25 : hp_I h' 71 = hp_I h 71 := R 25 (by decide) (by decide)
  have r8 := R 8 (by decide) (by decide)
  have r9 := R 9 (by decide) (by decide)
  have r18 := R 18 (by decide) (by decide)
  refine ⟨hM.frM q hN, ⟨r2.trans t1, (F 2 (by decide)).trans t2, (F 8 (by decide)).trans t3, bd, (F 6 (by decide)).trans t4⟩, ⟨(F 15 (by decide)).trans l1, (F 16 (by decide)).trans l2, r14.trans l3⟩, ⟨(F 23 (by decide)).trans w1, w2, ?_, ?_⟩, ⟨(F 38 (by decide)).trans b1, b2, ?_⟩, ⟨(F 28 (by decide)).trans p1, ?_, (F 52 (by decide)).trans p3, ?_⟩, (F 29 (by decide)).trans c1, ?_, ?_⟩
  · rw [r8]; exact w3
  · rw [r9]; exact w4
  · rw [r18]; exact b3
  · rw [r16]; exact p2
  · rw [r25]; exact p4
  · rw [r1]; exact c2
  · rw [r1]; exact c3
/-- a question that both answer -/
theorem SG.qq {j : Nat} {h h1 h2 : PH} {v : Int32} (s : SG (j + 1) h) (k : Same CX CY h h1) (m : Same (SX 46) (SY 46) (outS h1 v) h2) : SG j h2 := by
  obtain ⟨c, la, lw, bk, kg, mg, g, o1, o2, o3⟩ := s
  have n1 : hp_N h1 = hp_N h := k.1
  have n2 : hp_N h2 = hp_N h1 := m.1
  have n3 : 72 < hp_N h1 := by omega
  exact ⟨c, la, lw, bk, ((kg.fr (frK_q k) o2).fr (frK_out h1 v) n3).fr (frK_m m) n3, ((mg.fr (frM_k k) o2).fr (frM_out h1 v) n3).fr (frM_q m) n3, g, (m.2.1 72).trans ((k.2.1 72).trans o1), by omega, by omega⟩
