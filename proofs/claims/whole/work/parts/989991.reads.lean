/-! ===== land, law, book ===== -/
abbrev xS (la lw bk a : Nat) : Prop := a = 8 - la + 1 ∨ a = 19 - lw + 1 ∨ a = 19 - lw + 2 ∨ a = 37 - bk + 1 ∨ a = 37 - bk + 2 ∨ (24 ≤ a ∧ a ≤ 27)
abbrev yS (la lw bk a j : Nat) : Prop := (a = 1 ∧ 1 ≤ j) ∨ (a = 8 - la ∧ 1 ≤ j) ∨ (a = 19 - lw ∧ j = 4) ∨ (a = 37 - bk ∧ j = 2) ∨ (a = 23 ∧ j = 4)
/-- a text with a fault: the tape is empty, spare cells may have changed -/
theorem KG.read {h h9 : PH} {la lw bk : Nat} {c : CSt} {X : Nat → Prop} {Y : Nat → Nat → Prop} {tp : Nat} {fl : Int32} (k : KG h la lw bk c) (q : Same X Y h h9) (hN : 72 < hp_N h) (hX : ∀ a, X a → xS la lw bk a) (hY : ∀ a j, Y a j → yS la lw bk a j) (sL : ∃ (np0 du0 : Nat) (f0 : Nat → Int32), LandAt h9 (8 - la) np0 du0 f0 ∧ RowZ f0) (sW : ∃ (sz0 : Nat) (kf0 vf0 : Nat → Int32), LawAt h9 (19 - lw) sz0 kf0 vf0) (sB : ∃ s0 : BKt, BookAt h9 (37 - bk) s0) (sA : ∃ W : AF, AfR h9 W) (t2 : hp_F h9 1 1 = .int (nI tp)) (t3 : hp_F h9 1 5 = .int fl) : KG h9 la lw bk ((c.1.1, tp, fl), c.2) := by
  obtain ⟨hS, ⟨t1, -, -⟩, hL, hW, hB, ⟨p1, p2, p3⟩, c1, c2, c3⟩ := k
  have hla := hS.1.la
  have hlw := hS.1.lw
  have hbk := hS.1.bk
  have s := SmN.of q
  have nX : ∀ a, ¬ xS la lw bk a → ¬ X a := fun a h1 e => h1 (hX a e)
  have nY : ∀ a j, ¬ yS la lw bk a j → ¬ Y a j := fun a j h1 e => h1 (hY a j e)
  have F : ∀ a j, ¬ yS la lw bk a j → hp_F h9 a j = hp_F h a j := fun a j h1 => q.2.2.1 a j (nY a j h1)
  have hP : ∀ (v : Value) (x : List (Nat → Int32)), PsC h v x → PsC h9 v x := fun v x e => e.gen s (fun a z => by
    have z2 := hX a z
    unfold xS at z2
    omega) (fun a j z => by
    have z2 := hY a j z
    unfold yS at z2
    omega)
  have hC9 : CL h9 la lw bk := hS.1.gen s hN (fun a j z => by
    have z2 := hY a j z
    unfold yS at z2
    unfold yB
    omega)
  refine ⟨⟨hC9, sL, sW, sB, sA⟩, ⟨(q.2.2.2.1 2 (nX 2 (by unfold xS; omega))).trans t1, t2, t3⟩, hL.smn s (by omega) (nX _ (by unfold xS; omega)) (fun j => nY _ _ (by unfold yS; omega)), hW.smn s (by omega) (nX _ (by unfold xS; omega)) (nX _ (by unfold xS; omega)) (fun j => nY _ _ (by unfold yS; omega)), hB.smn s (by omega) (nX _ (by unfold xS; omega)) (nX _ (by unfold xS; omega)) (fun j => nY _ _ (by unfold yS; omega)), ⟨?_, (F 0 10 (by unfold yS; omega)).trans p2, ImC.old hP _ (fun j _ => F 28 j (by unfold yS; omega)) p3⟩, (F 0 11 (by unfold yS; omega)).trans c1, (F 0 12 (by unfold yS; omega)).trans c2, (F 0 13 (by unfold yS; omega)).trans c3⟩
  rw [F 0 8 (by unfold yS; omega)]
  exact hP _ _ p1
theorem MR.rd {h1 h2 : PH} {c : CSt} {fl : Int32} (m1 : MG h1 c) (q : Same (SX 46) (SYt 46) h1 h2) (t2 : hp_F h2 46 2 = .int (nI 0)) (ft : FtI h2 46 fl) : MR ((c.1.1, 0, fl), c.2) h1 h2 :=
  MR.of (q.mono (fun a e => by
    have e2 := SX_or e
    unfold xR at e2
    show 46 ≤ a ∧ a ≤ 71
    omega) (fun a j e => (SYt_or e).1)) (m1.tape (q.mono (fun a e => Or.inl e) (fun _ _ e => e)) ((q.2.2.2.1 48 (fun e => by
    have e2 := SX_or e
    unfold xR at e2
    omega)).trans m1.2.1.1) t2 ft.1 ft.2)
theorem LsG.ok {s : LSt} (h : LsG s) : RowZ s.2.2 ∧ RowOK s.2.2 s.1 := by
  obtain ⟨⟨-, -, g3⟩, g4, g5, -, g7, g8⟩ := h
  exact ⟨g3, g4, g5, fun q hq => by
    obtain ⟨x, h1, h2⟩ := g7 q hq
    exact ⟨x, by omega, h2⟩, 0, by decide, g8⟩
theorem LawOK.z (kf vf : Nat → Int32) : LawOK kf vf 0 := ⟨fun i hi => absurd hi (Nat.not_lt_zero i), fun h => absurd h (Nat.lt_irrefl 0)⟩
theorem BkG.z (a b : Nat → Int32) : BkG ((0, a, b) : BKt) := ⟨Nat.zero_le _, fun i hi => absurd hi (Nat.not_lt_zero i)⟩
/-- a land that was read -/
theorem KG.land {h h9 : PH} {la lw bk : Nat} {c : CSt} {s9 : LSt} (k : KG h la lw bk c) (gz : RowZ c.2.1.2.2) (q : Same (landX (8 - la)) (landY (8 - la) lw bk) h h9) (hN : 72 < hp_N h) (hC : CL h9 (8 - la) lw bk) (hL9 : LandAt h9 (8 - la) s9.1 s9.2.1 s9.2.2) (e1 : hp_F h9 lw 4 = .int (nI 0)) (e2 : hp_F h9 bk 2 = .int (nI 0)) (e3 : hp_F h9 0 8 = .null) (e4 : hp_F h9 0 10 = .int (nI 0)) (e5 : hp_F h9 0 11 = .int (nI 0)) (e6 : hp_F h9 1 1 = .int (nI 0)) (e7 : hp_F h9 1 5 = .int (-1)) : KG h9 (8 - la) lw bk ((c.1.1, 0, -1), s9, (0, c.2.2.1.2.1, c.2.2.1.2.2), (0, c.2.2.2.1.2.1, c.2.2.2.1.2.2), ([], []), (nI 0, c.2.2.2.2.2.2)) := by
  obtain ⟨⟨hC0, ⟨np0, du0, f0, hL0, hz⟩, ⟨sz0, kf0, vf0, hW0⟩, ⟨s0, hB0⟩, W, hA⟩, ⟨t1, -, -⟩, hL, hW, hB, -, -, c2, c3⟩ := k
  have hla := hC0.la
  have hlw := hC0.lw
  have hbk := hC0.bk
  have s := SmN.of q
  have e8 : 8 - (8 - la) = la := by omega
  have nX : ∀ a, a ≠ 8 - la + 1 → ¬ landX (8 - la) a := fun a h1 e => h1 e
  have nY : ∀ a j, ¬ ((a = 1 ∧ 1 ≤ j) ∨ (a = 8 - la ∧ 1 ≤ j) ∨ (a = 0 ∧ (j = 1 ∨ j = 2 ∨ j = 8 ∨ j = 10 ∨ j = 11)) ∨ (a = lw ∧ j = 4) ∨ (a = bk ∧ j = 2) ∨ a = 28) → ¬ landY (8 - la) lw bk a j := fun a j h1 e => h1 e
  have F : ∀ a j, ¬ ((a = 1 ∧ 1 ≤ j) ∨ (a = 8 - la ∧ 1 ≤ j) ∨ (a = 0 ∧ (j = 1 ∨ j = 2 ∨ j = 8 ∨ j = 10 ∨ j = 11)) ∨ (a = lw ∧ j = 4) ∨ (a = bk ∧ j = 2) ∨ a = 28) → hp_F h9 a j = hp_F h a j := fun a j h1 => q.2.2.1 a j (nY a j h1)
  obtain ⟨a1, a2, a3, a4, a5, a6, a7, a8, a9, -, b2, b3, -⟩ := hW
  obtain ⟨d1, d2, d3, d4, d5, -, d7, d8, -⟩ := hB
  refine ⟨⟨hC, ⟨c.2.1.1, c.2.1.2.1, c.2.1.2.2, ?_, gz⟩, ⟨sz0, kf0, vf0, hW0.smn s (by omega) (nX _ (by omega)) (nX _ (by omega)) (fun j => nY _ _ (by omega))⟩, ⟨s0, hB0.smn s (by omega) (nX _ (by omega)) (nX _ (by omega)) (fun j => nY _ _ (by omega))⟩, W, hA.smn s (by omega) (fun c h1 h2 => nX _ (by omega)) (fun j _ => nY _ _ (by omega))⟩, ⟨(q.2.2.2.1 2 (nX 2 (by omega))).trans t1, e6, e7⟩, hL9, ⟨(q.2.1 _).trans a1, (q.2.1 _).trans a2, (q.2.1 _).trans a3, (q.2.1 _).trans a4, (q.2.1 _).trans a5, (F lw 0 (by omega)).trans a6, (F lw 1 (by omega)).trans a7, (F lw 2 (by omega)).trans a8, (F lw 3 (by omega)).trans a9, e1, (q.2.2.2.1 _ (nX _ (by omega))).trans b2, (q.2.2.2.1 _ (nX _ (by omega))).trans b3, Nat.zero_le _⟩, ⟨(q.2.1 _).trans d1, (q.2.1 _).trans d2, (q.2.1 _).trans d3, (F bk 0 (by omega)).trans d4, (F bk 1 (by omega)).trans d5, e2, (q.2.2.2.1 _ (nX _ (by omega))).trans d7, (q.2.2.2.1 _ (nX _ (by omega))).trans d8, Nat.zero_le _⟩, ⟨e3, e4, trivial⟩, e5, (F 0 12 (by omega)).trans c2, (F 0 13 (by omega)).trans c3⟩
  rw [e8]
  exact hL.smn s (by omega) (nX _ (by omega)) (fun j => nY _ _ (by omega))
theorem MR.land {h1 h2 : PH} {c : CSt} {s9 : LSt} (m1 : MG h1 c) (hz : RowZ s9.2.2) (q : Same (fun c => SX 46 c ∨ c = 46 + 14) (fun a j => SYt 46 a j ∨ setY 46 a j) h1 h2) (e1 : hp_F h2 46 15 = .int (nI s9.1)) (e2 : hp_F h2 46 16 = .int (nI s9.2.1)) (e3 : hp_F h2 46 23 = .int (nI 0)) (e4 : hp_F h2 46 38 = .int (nI 0)) (e5 : hp_F h2 46 28 = .int (nI 0)) (e6 : hp_F h2 46 52 = .int (nI 0)) (e7 : hp_F h2 46 29 = .int (nI 0)) (er : EqR (hp_I h2 (46 + 14)) s9.2.2) (t2 : hp_F h2 46 2 = .int (nI 0)) (ft : FtI h2 46 (-1)) : MR ((c.1.1, 0, -1), s9, (0, c.2.2.1.2.1, c.2.2.1.2.2), (0, c.2.2.2.1.2.1, c.2.2.2.1.2.2), ([], []), (nI 0, c.2.2.2.2.2.2)) h1 h2 := by
  obtain ⟨hM, ⟨t1, -⟩, -, -, -, -, -, c2, c3⟩ := m1
  have hsy : ∀ a j, SYt 46 a j ∨ setY 46 a j → a = 46 ∧ yM j := fun a j e => by
    rcases e with e | e
    · exact ⟨(SYt_or e).1, Or.inl (SYt_or e).2⟩
    · have e9 : a = 46 ∧ (j = 15 ∨ j = 16 ∨ j = 23 ∨ j = 38 ∨ j = 28 ∨ j = 52 ∨ j = 29) := e
      refine ⟨e9.1, Or.inr ?_⟩
      omega
  have hsx : ∀ a, SX 46 a ∨ a = 46 + 14 → 49 ≤ a ∧ a ≤ 70 := fun a e => by
    rcases e with e | e
    · have e9 := SX_or e
      unfold xR at e9
      omega
    · omega
  refine ⟨q.mono (fun a e => ?_) (fun a j e => (hsy a j e).1), s9.2.2, fun i hi => (er i hi).symm, ?_⟩
  · have e9 := hsx a e
    show 46 ≤ a ∧ a ≤ 71
    omega
  have q3 : Same (fun c => SX 46 c ∨ c = 46 + 14) (fun a j => SYt 46 a j ∨ setY 46 a j) h1 (hp_sI h2 60 s9.2.2) := q.sI (Or.inr rfl)
  have r : ∀ a, a ≤ 48 → hp_I (hp_sI h2 60 s9.2.2) a = hp_I h1 a := fun a h9 => q3.2.2.2.1 a (fun e => by
    have e9 := hsx a e
    omega)
  refine ⟨hM.gen q3 (fun j e => (hsy 46 j e).2), ⟨(r 48 (by omega)).trans t1, t2, ft.1, ft.2⟩, ⟨e1, e2, hp_I_eq _ _ _⟩, ⟨e3, Nat.zero_le _, fun i hi => absurd hi (Nat.not_lt_zero i), fun i hi => absurd hi (Nat.not_lt_zero i)⟩, ⟨e4, Nat.zero_le _, fun i hi => absurd hi (Nat.not_lt_zero i)⟩, ⟨e5, trivial, e6, trivial⟩, e7, ?_, ?_⟩
  · rw [r 47 (by omega)]; exact c2
  · rw [r 47 (by omega)]; exact c3
set_option maxHeartbeats 4000000 in
theorem q_land {l : Launch} {Z : EE} (hst : l.stackTraces = false) (j : Nat) (p1 : Int32) (h : PH) (s : SG (j + 1) h) : StW l Z m_L_land m_X11_land 60 2 193 [.int p1] (GG j) h := by
  obtain ⟨c, la, lw, bk, kg, mg, g, o1, o2, o3⟩ := id s
  have hC := kg.1.1
  have hla := hC.la
  have hlw := hC.lw
  have hbk := hC.bk
  have hwr := kg.2.2.2.2.2.2.2.2
  obtain ⟨⟨gt6, T, gT⟩, ⟨gz, gr⟩, gl, gb, gp, gps, gi, gis⟩ := id g
  obtain ⟨kt1, kt2, kt3⟩ := kg.2.1
  by_cases c0 : outR 0 c.1.2.1 p1
  · exact StW.no (k := 1) (f := 13) (kd := 1) (by decide) (by decide) (Or.inr ⟨rfl, rfl⟩) hwr kg mg g o1 o2 o3 (by decide) (c_L_land_ia hst (c_K_land_no hst hC kt2 hwr p1 c0) hC.K0) (fun h1 m1 => c_M_land_no hst m1.1 m1.2.1.2.1 p1 c0)
  obtain ⟨n, an, bn, rfl⟩ := in_R c0 (by omega) (by omega)
  obtain ⟨np0, du0, f0, hL0, hz0⟩ := kg.1.2.1
  have hx := ldS_x (T := T) (n := n) 61 0 em0 0 em0_G (Nat.zero_le _) rfl
  rcases hr : ldS T n 61 0 em0 0 with ⟨k9, q9⟩ | ⟨a9, s9⟩
  · refine StW.st (v := nI k9 - nI 10) (d1 := 10) (mc1 := 0) (ms1 := 0) (d2 := 6) (la := la) (lw := lw) (bk := bk) (c := c) (c2 := ((c.1.1, 0, nI q9), c.2)) (by decide) ⟨⟨Nat.zero_le _, T, gT⟩, g.2⟩ (c_L_land_k hst (c_K_land_l hst hC kt1 gT kt2 gt6 hL0 hz0 n bn hr) hC.K0 (fun r h9 e => ⟨e.1, (e.2.1.2.1 72).trans o1⟩)) (fun h1 q1 => ?_) (fun h1 m1 => ?_)
    · obtain ⟨-, q, ⟨s9, hs9, hL9⟩, t2, t3⟩ := q1
      have n1 : hp_N h1 = hp_N h := q.1
      have ss := SmN.of q
      have hX : ∀ a, landX (8 - la) a → xS la lw bk a := fun a e => Or.inl e
      have hY : ∀ a j, landF (8 - la) a j → yS la lw bk a j := fun a j e => by
        have e2 : (a = 1 ∧ 1 ≤ j) ∨ (a = 8 - la ∧ 1 ≤ j) := e
        unfold yS
        omega
      obtain ⟨-, -, ⟨sz0, kf0, vf0, hW0⟩, ⟨b0, hB0⟩, W, hA⟩ := kg.1
      have nX : ∀ a, a ≠ 8 - la + 1 → ¬ landX (8 - la) a := fun a h1 e => h1 e
      have nY : ∀ a j, ¬ ((a = 1 ∧ 1 ≤ j) ∨ (a = 8 - la ∧ 1 ≤ j)) → ¬ landF (8 - la) a j := fun a j h1 e => h1 e
      refine ⟨kg.read q o2 hX hY ⟨_, _, _, hL9, hs9.2.2⟩ ⟨sz0, kf0, vf0, hW0.smn ss (by omega) (nX _ (by omega)) (nX _ (by omega)) (fun j => nY _ _ (by omega))⟩ ⟨b0, hB0.smn ss (by omega) (nX _ (by omega)) (nX _ (by omega)) (fun j => nY _ _ (by omega))⟩ ⟨W, hA.smn ss (by omega) (fun c h1 h2 => nX _ (by omega)) (fun j _ => nY _ _ (by omega))⟩ t2 t3, mg.fr (q.frM (fun a e => Or.inr (Or.inl ?_)) (fun a j e => Or.inr (Or.inl ?_))) o2, (q.2.1 72).trans o1, by omega, by omega⟩
      · have e2 : a = 8 - la + 1 := e
        omega
      · have e2 : (a = 1 ∧ 1 ≤ j) ∨ (a = 8 - la ∧ 1 ≤ j) := e
        omega
    · obtain ⟨bd, hbd⟩ := m1.2.1.2.2.2
      exact cc_post (fun r h2 e => ⟨e.1, MR.rd m1 e.2.1 e.2.2.2.1 e.2.2.2.2, e.2.2.1⟩) (c_M_land_l hst m1.1 m1.2.1.1 gT m1.2.1.2.1 gt6 hbd n bn hr)
  · rw [hr] at hx
    have hG : LsG s9 := hx.1
    refine StW.st (v := nI s9.1) (d1 := 10) (mc1 := 0) (ms1 := 0) (d2 := 6) (la := 8 - la) (lw := lw) (bk := bk) (c := c) (c2 := ((c.1.1, 0, -1), s9, (0, c.2.2.1.2.1, c.2.2.1.2.2), (0, c.2.2.2.1.2.1, c.2.2.2.1.2.2), ([], []), (nI 0, c.2.2.2.2.2.2))) (by decide) ⟨⟨Nat.zero_le _, T, gT⟩, hG.ok, LawOK.z _ _, BkG.z _ _, Nat.zero_le _, (fun x hx => nomatch hx), Nat.zero_le _, (fun x hx => nomatch hx)⟩ (c_L_land_k hst (c_K_land hst hC kt1 gT kt2 gt6 hL0 hz0 n bn hr) hC.K0 (fun r h9 e => ⟨e.1, (e.2.1.2.1 72).trans o1⟩)) (fun h1 q1 => ?_) (fun h1 m1 => ?_)
    · obtain ⟨-, q, hC9, hL9, e1, e2, e3, e4, e5, e6, e7⟩ := q1
      have n1 : hp_N h1 = hp_N h := q.1
      refine ⟨kg.land gz q o2 hC9 hL9 e1 e2 e3 e4 e5 e6 e7, mg.fr (q.frM (fun a e => Or.inr (Or.inl ?_)) (fun a j e => Or.inr (Or.inl ?_))) o2, (q.2.1 72).trans o1, by omega, by omega⟩
      · have e2 : a = 8 - la + 1 := e
        omega
      · have e2 : (a = 1 ∧ 1 ≤ j) ∨ (a = 8 - la ∧ 1 ≤ j) ∨ (a = 0 ∧ (j = 1 ∨ j = 2 ∨ j = 8 ∨ j = 10 ∨ j = 11)) ∨ (a = lw ∧ j = 4) ∨ (a = bk ∧ j = 2) ∨ a = 28 := e
        omega
    · obtain ⟨bd, hbd⟩ := m1.2.1.2.2.2
      exact cc_post (fun r h2 e => by
        obtain ⟨e0, q, e1, e2, e3, e4, e5, e6, e7, er, t0, t2, ft⟩ := e
        exact ⟨e0, MR.land m1 hG.ok.1 q e1 e2 e3 e4 e5 e6 e7 er t2 ft, t0⟩) (c_M_land hst m1.1 m1.2.1.1 gT m1.2.1.2.1 gt6 hbd n bn hr)
/-- a law that was read -/
theorem KG.law {h h9 : PH} {la lw bk : Nat} {c : CSt} {M9 : LWt} (k : KG h la lw bk c) (q : Same (lawX (19 - lw)) (lawY (19 - lw)) h h9) (hN : 72 < hp_N h) (hC : CL h9 la (19 - lw) bk) (hW9 : LawAt h9 (19 - lw) M9.1 M9.2.1 M9.2.2) (e6 : hp_F h9 1 1 = .int (nI 0)) (e7 : hp_F h9 1 5 = .int (-1)) : KG h9 la (19 - lw) bk ((c.1.1, 0, -1), c.2.1, M9, c.2.2.2) := by
  obtain ⟨⟨hC0, ⟨np0, du0, f0, hL0, hz⟩, -, ⟨s0, hB0⟩, W, hA⟩, ⟨t1, -, -⟩, hL, hW, hB, ⟨p1, p2, p3⟩, c1, c2, c3⟩ := k
  have hla := hC0.la
  have hlw := hC0.lw
  have hbk := hC0.bk
  have s := SmN.of q
  have e8 : 19 - (19 - lw) = lw := by omega
  have nX : ∀ a, ¬ (a = 19 - lw + 1 ∨ a = 19 - lw + 2) → ¬ lawX (19 - lw) a := fun a h1 e => h1 e
  have nY : ∀ a j, ¬ ((a = 1 ∧ 1 ≤ j) ∨ (a = 19 - lw ∧ j = 4) ∨ (a = 0 ∧ (j = 3 ∨ j = 4))) → ¬ lawY (19 - lw) a j := fun a j h1 e => h1 e
  have F : ∀ a j, ¬ ((a = 1 ∧ 1 ≤ j) ∨ (a = 19 - lw ∧ j = 4) ∨ (a = 0 ∧ (j = 3 ∨ j = 4))) → hp_F h9 a j = hp_F h a j := fun a j h1 => q.2.2.1 a j (nY a j h1)
  have hP : ∀ (v : Value) (x : List (Nat → Int32)), PsC h v x → PsC h9 v x := fun v x e => e.gen s (fun a z => by
    have z2 : a = 19 - lw + 1 ∨ a = 19 - lw + 2 := z
    omega) (fun a j z => by
    have z2 : (a = 1 ∧ 1 ≤ j) ∨ (a = 19 - lw ∧ j = 4) ∨ (a = 0 ∧ (j = 3 ∨ j = 4)) := z
    omega)
  refine ⟨⟨hC, ⟨np0, du0, f0, hL0.smn s (by omega) (nX _ (by omega)) (fun j => nY _ _ (by omega)), hz⟩, ⟨c.2.2.1.1, c.2.2.1.2.1, c.2.2.1.2.2, ?_⟩, ⟨s0, hB0.smn s (by omega) (nX _ (by omega)) (nX _ (by omega)) (fun j => nY _ _ (by omega))⟩, W, hA.smn s (by omega) (fun c h1 h2 => nX _ (by omega)) (fun j _ => nY _ _ (by omega))⟩, ⟨(q.2.2.2.1 2 (nX 2 (by omega))).trans t1, e6, e7⟩, hL.smn s (by omega) (nX _ (by omega)) (fun j => nY _ _ (by omega)), hW9, hB.smn s (by omega) (nX _ (by omega)) (nX _ (by omega)) (fun j => nY _ _ (by omega)), ⟨?_, (F 0 10 (by omega)).trans p2, ImC.old hP _ (fun j _ => F 28 j (by omega)) p3⟩, (F 0 11 (by omega)).trans c1, (F 0 12 (by omega)).trans c2, (F 0 13 (by omega)).trans c3⟩
  · rw [e8]
    exact hW.smn s (by omega) (nX _ (by omega)) (nX _ (by omega)) (fun j => nY _ _ (by omega))
  · rw [F 0 8 (by omega)]
    exact hP _ _ p1
/-- a book that was read -/
theorem KG.book {h h9 : PH} {la lw bk : Nat} {c : CSt} {s9 : BKt} (k : KG h la lw bk c) (q : Same (lawX (37 - bk)) (bookY (37 - bk)) h h9) (hN : 72 < hp_N h) (hC : CL h9 la lw (37 - bk)) (hB9 : BookAt h9 (37 - bk) s9) (e6 : hp_F h9 1 1 = .int (nI 0)) (e7 : hp_F h9 1 5 = .int (-1)) : KG h9 la lw (37 - bk) ((c.1.1, 0, -1), c.2.1, c.2.2.1, s9, c.2.2.2.2) := by
  obtain ⟨⟨hC0, ⟨np0, du0, f0, hL0, hz⟩, ⟨sz0, kf0, vf0, hW0⟩, -, W, hA⟩, ⟨t1, -, -⟩, hL, hW, hB, ⟨p1, p2, p3⟩, c1, c2, c3⟩ := k
  have hla := hC0.la
  have hlw := hC0.lw
  have hbk := hC0.bk
  have s := SmN.of q
  have e8 : 37 - (37 - bk) = bk := by omega
  have nX : ∀ a, ¬ (a = 37 - bk + 1 ∨ a = 37 - bk + 2) → ¬ lawX (37 - bk) a := fun a h1 e => h1 e
  have nY : ∀ a j, ¬ ((a = 1 ∧ 1 ≤ j) ∨ (a = 37 - bk ∧ j = 2) ∨ (a = 0 ∧ (j = 5 ∨ j = 6))) → ¬ bookY (37 - bk) a j := fun a j h1 e => h1 e
  have F : ∀ a j, ¬ ((a = 1 ∧ 1 ≤ j) ∨ (a = 37 - bk ∧ j = 2) ∨ (a = 0 ∧ (j = 5 ∨ j = 6))) → hp_F h9 a j = hp_F h a j := fun a j h1 => q.2.2.1 a j (nY a j h1)
  have hP : ∀ (v : Value) (x : List (Nat → Int32)), PsC h v x → PsC h9 v x := fun v x e => e.gen s (fun a z => by
    have z2 : a = 37 - bk + 1 ∨ a = 37 - bk + 2 := z
    omega) (fun a j z => by
    have z2 : (a = 1 ∧ 1 ≤ j) ∨ (a = 37 - bk ∧ j = 2) ∨ (a = 0 ∧ (j = 5 ∨ j = 6)) := z
    omega)
  refine ⟨⟨hC, ⟨np0, du0, f0, hL0.smn s (by omega) (nX _ (by omega)) (fun j => nY _ _ (by omega)), hz⟩, ⟨sz0, kf0, vf0, hW0.smn s (by omega) (nX _ (by omega)) (nX _ (by omega)) (fun j => nY _ _ (by omega))⟩, ⟨c.2.2.2.1, ?_⟩, W, hA.smn s (by omega) (fun c h1 h2 => nX _ (by omega)) (fun j _ => nY _ _ (by omega))⟩, ⟨(q.2.2.2.1 2 (nX 2 (by omega))).trans t1, e6, e7⟩, hL.smn s (by omega) (nX _ (by omega)) (fun j => nY _ _ (by omega)), hW.smn s (by omega) (nX _ (by omega)) (nX _ (by omega)) (fun j => nY _ _ (by omega)), hB9, ⟨?_, (F 0 10 (by omega)).trans p2, ImC.old hP _ (fun j _ => F 28 j (by omega)) p3⟩, (F 0 11 (by omega)).trans c1, (F 0 12 (by omega)).trans c2, (F 0 13 (by omega)).trans c3⟩
  · rw [e8]
    exact hB.smn s (by omega) (nX _ (by omega)) (nX _ (by omega)) (fun j => nY _ _ (by omega))
  · rw [F 0 8 (by omega)]
    exact hP _ _ p1
/-- a law or a book that was read: the reference -/
theorem MG.lb {h1 h2 : PH} {c : CSt} {X : Nat → Prop} {Y : Nat → Nat → Prop} {M9 : LWt} {s9 : BKt} (m1 : MG h1 c) (q : Same X Y h1 h2) (hX : ∀ a, X a → xR a ∨ a = 54 ∨ a = 55 ∨ a = 64) (hY : ∀ a j, Y a j → a = 46 ∧ (yR j ∨ j = 23 ∨ j = 38)) (hW : LawM h2 46 M9.1 M9.2.1 M9.2.2) (hB : BookM h2 46 s9) (t2 : hp_F h2 46 2 = .int (nI 0)) (ft : FtI h2 46 (-1)) : MR ((c.1.1, 0, -1), c.2.1, M9, s9, c.2.2.2.2) h1 h2 := by
  obtain ⟨hM, ⟨t1, -⟩, ⟨l1, l2, l3⟩, -, -, ⟨p1, p2, p3, p4⟩, c1, c2, c3⟩ := m1
  have F : ∀ j, ¬ (yR j ∨ j = 23 ∨ j = 38) → hp_F h2 46 j = hp_F h1 46 j := fun j hj => q.2.2.1 46 j (fun e => hj (hY _ _ e).2)
  have R : ∀ a, ¬ (xR a ∨ a = 54 ∨ a = 55 ∨ a = 64) → hp_I h2 a = hp_I h1 a := fun a ha => q.2.2.2.1 a (fun e => ha (hX _ e))
  refine MR.of (q.mono (fun a e => ?_) (fun a j e => (hY a j e).1)) ⟨hM.gen q (fun j e => ?_), ⟨(R 48 (by decide)).trans t1, t2, ft.1, ft.2⟩, ⟨(F 15 (by decide)).trans l1, (F 16 (by decide)).trans l2, (R 60 (by decide)).trans l3⟩, hW, hB, ⟨(F 28 (by decide)).trans p1, ?_, (F 52 (by decide)).trans p3, ?_⟩, (F 29 (by decide)).trans c1, ?_, ?_⟩
  · have e9 := hX a e
    unfold xR at e9
    show 46 ≤ a ∧ a ≤ 71
    omega
  · rcases (hY _ _ e).2 with e9 | e9 | e9
    · exact Or.inl e9
    · exact Or.inr (by omega)
    · exact Or.inr (by omega)
  · rw [R 62 (by decide)]; exact p2
  · rw [R 71 (by decide)]; exact p4
  · rw [R 47 (by decide)]; exact c2
  · rw [R 47 (by decide)]; exact c3
set_option maxHeartbeats 4000000 in
theorem q_law {l : Launch} {Z : EE} (hst : l.stackTraces = false) (j : Nat) (p1 : Int32) (h : PH) (s : SG (j + 1) h) : StW l Z m_L_law m_X11_law 60 2 193 [.int p1] (GG j) h := by
  obtain ⟨c, la, lw, bk, kg, mg, g, o1, o2, o3⟩ := id s
  have hC := kg.1.1
  have hla := hC.la
  have hlw := hC.lw
  have hbk := hC.bk
  have hwr := kg.2.2.2.2.2.2.2.2
  obtain ⟨⟨gt6, T, gT⟩, ⟨gz, gr⟩, gl, gb, gp, gps, gi, gis⟩ := id g
  obtain ⟨kt1, kt2, kt3⟩ := kg.2.1
  by_cases c0 : outR 0 (min c.1.2.1 150) p1
  · exact StW.no (k := 1) (f := 13) (kd := 1) (by decide) (by decide) (Or.inr ⟨rfl, rfl⟩) hwr kg mg g o1 o2 o3 (by decide) (c_L_law_ia hst (c_K_law_no hst hC kt2 gt6 hwr p1 c0) hC.K0) (fun h1 m1 => c_M_law_no hst m1.1 m1.2.1.2.1 gt6 p1 c0)
  obtain ⟨n, an, bn, rfl⟩ := in_R c0 (by omega) (by omega)
  have bn1 : n ≤ c.1.2.1 := by omega
  have bn2 : n ≤ 150 := by omega
  obtain ⟨-, ⟨np0, du0, f0, hL0, hz0⟩, ⟨sz0, kf0, vf0, hW0⟩, ⟨b0, hB0⟩, W, hA⟩ := kg.1
  rcases hr : lawS T n (0, kf0, vf0) with ⟨k9, q9⟩ | ⟨a9, s9⟩
  · refine StW.st (v := nI k9 - nI 10) (d1 := 36) (mc1 := 0) (ms1 := 0) (d2 := 33) (la := la) (lw := lw) (bk := bk) (c := c) (c2 := ((c.1.1, 0, nI q9), c.2)) (by decide) ⟨⟨Nat.zero_le _, T, gT⟩, g.2⟩ (c_L_law_k hst (c_K_law_l hst hC kt1 gT kt2 gt6 hW0 n bn1 bn2 hr) hC.K0 (fun r h9 e => ⟨e.1, (e.2.1.2.1 72).trans o1⟩)) (fun h1 q1 => ?_) (fun h1 m1 => ?_)
    · obtain ⟨-, q, ⟨s9, hs9⟩, t2, t3⟩ := q1
      have n1 : hp_N h1 = hp_N h := q.1
      have ss := SmN.of q
      have hX : ∀ a, lawX (19 - lw) a → xS la lw bk a := fun a e => by
        have e2 : a = 19 - lw + 1 ∨ a = 19 - lw + 2 := e
        unfold xS
        omega
      have hY : ∀ a j, lawF (19 - lw) a j → yS la lw bk a j := fun a j e => by
        have e2 : (a = 1 ∧ 1 ≤ j) ∨ (a = 19 - lw ∧ j = 4) := e
        unfold yS
        omega
      have nX : ∀ a, ¬ (a = 19 - lw + 1 ∨ a = 19 - lw + 2) → ¬ lawX (19 - lw) a := fun a h1 e => h1 e
      have nY : ∀ a j, ¬ ((a = 1 ∧ 1 ≤ j) ∨ (a = 19 - lw ∧ j = 4)) → ¬ lawF (19 - lw) a j := fun a j h1 e => h1 e
      refine ⟨kg.read q o2 hX hY ⟨np0, du0, f0, hL0.smn ss (by omega) (nX _ (by omega)) (fun j => nY _ _ (by omega)), hz0⟩ ⟨_, _, _, hs9⟩ ⟨b0, hB0.smn ss (by omega) (nX _ (by omega)) (nX _ (by omega)) (fun j => nY _ _ (by omega))⟩ ⟨W, hA.smn ss (by omega) (fun c h1 h2 => nX _ (by omega)) (fun j _ => nY _ _ (by omega))⟩ t2 t3, mg.fr (q.frM (fun a e => Or.inr (Or.inl ?_)) (fun a j e => Or.inr (Or.inl ?_))) o2, (q.2.1 72).trans o1, by omega, by omega⟩
      · have e2 : a = 19 - lw + 1 ∨ a = 19 - lw + 2 := e
        omega
      · have e2 : (a = 1 ∧ 1 ≤ j) ∨ (a = 19 - lw ∧ j = 4) := e
        omega
    · obtain ⟨bd, hbd⟩ := m1.2.1.2.2.2
      exact cc_post (fun r h2 e => ⟨e.1, MR.rd m1 e.2.1 e.2.2.2.1 e.2.2.2.2, e.2.2.1⟩) (c_M_law_l hst m1.1 m1.2.1.1 gT m1.2.1.2.1 gt6 hbd n bn1 bn2 _ _ hr)
  · refine StW.st (v := nI 1) (d1 := 36) (mc1 := 0) (ms1 := 0) (d2 := 33) (la := la) (lw := 19 - lw) (bk := bk) (c := c) (c2 := ((c.1.1, 0, -1), c.2.1, s9, c.2.2.2)) (by decide) ⟨⟨Nat.zero_le _, T, gT⟩, ⟨gz, gr⟩, (lawS_r rfl hr).2.2, gb, gp, gps, gi, gis⟩ (c_L_law_k hst (c_K_law hst hC kt1 gT kt2 gt6 hW0 n bn1 bn2 hr) hC.K0 (fun r h9 e => ⟨e.1, (e.2.1.2.1 72).trans o1⟩)) (fun h1 q1 => ?_) (fun h1 m1 => ?_)
    · obtain ⟨-, q, hC9, hW9, e6, e7⟩ := q1
      have n1 : hp_N h1 = hp_N h := q.1
      refine ⟨kg.law q o2 hC9 hW9 e6 e7, mg.fr (q.frM (fun a e => Or.inr (Or.inl ?_)) (fun a j e => Or.inr (Or.inl ?_))) o2, (q.2.1 72).trans o1, by omega, by omega⟩
      · have e2 : a = 19 - lw + 1 ∨ a = 19 - lw + 2 := e
        omega
      · have e2 : (a = 1 ∧ 1 ≤ j) ∨ (a = 19 - lw ∧ j = 4) ∨ (a = 0 ∧ (j = 3 ∨ j = 4)) := e
        omega
    · obtain ⟨bd, hbd⟩ := m1.2.1.2.2.2
      refine cc_post (fun r h2 e => ?_) (c_M_law hst m1.1 m1.2.1.1 gT m1.2.1.2.1 gt6 hbd n bn1 bn2 _ _ hr)
      obtain ⟨e0, q, hW9, t0, t2, ft⟩ := e
      refine ⟨e0, MG.lb m1 q (fun a e => ?_) (fun a j e => ?_) hW9 ?_ t2 ft, t0⟩
      · rcases e with e | e | e
        · exact Or.inl (SX_or e)
        · exact Or.inr (Or.inl e)
        · exact Or.inr (Or.inr (Or.inl e))
      · rcases e with e | e
        · exact ⟨(SYt_or e).1, Or.inl (SYt_or e).2⟩
        · exact ⟨e.1, Or.inr (Or.inl e.2)⟩
      · obtain ⟨b1, b2, b3⟩ := m1.2.2.2.2.1
        have r18 : hp_I h2 (46 + 18) = hp_I h1 (46 + 18) := q.2.2.2.1 _ (fun e => by
          rcases e with e | e | e
          · exact absurd (SX_or e) (by decide)
          · exact absurd e (by decide)
          · exact absurd e (by decide))
        have f38 : hp_F h2 46 38 = hp_F h1 46 38 := q.2.2.1 46 38 (fun e => by
          rcases e with e | e
          · exact absurd (SYt_or e).2 (by decide)
          · exact absurd e.2 (by decide))
        exact ⟨f38.trans b1, b2, by rw [r18]; exact b3⟩
set_option maxHeartbeats 4000000 in
theorem q_book {l : Launch} {Z : EE} (hst : l.stackTraces = false) (j : Nat) (p1 : Int32) (h : PH) (s : SG (j + 1) h) : StW l Z m_L_book m_X11_book 60 2 193 [.int p1] (GG j) h := by
  obtain ⟨c, la, lw, bk, kg, mg, g, o1, o2, o3⟩ := id s
  have hC := kg.1.1
  have hla := hC.la
  have hlw := hC.lw
  have hbk := hC.bk
  have hwr := kg.2.2.2.2.2.2.2.2
  obtain ⟨⟨gt6, T, gT⟩, ⟨gz, gr⟩, gl, gb, gp, gps, gi, gis⟩ := id g
  obtain ⟨kt1, kt2, kt3⟩ := kg.2.1
  by_cases c0 : outR 0 (min c.1.2.1 100) p1
  · exact StW.no (k := 1) (f := 13) (kd := 1) (by decide) (by decide) (Or.inr ⟨rfl, rfl⟩) hwr kg mg g o1 o2 o3 (by decide) (c_L_book_ia hst (c_K_book_no hst hC kt2 gt6 hwr p1 c0) hC.K0) (fun h1 m1 => c_M_book_no hst m1.1 m1.2.1.2.1 gt6 p1 c0)
  obtain ⟨n, an, bn, rfl⟩ := in_R c0 (by omega) (by omega)
  have bn1 : n ≤ c.1.2.1 := by omega
  have bn2 : n ≤ 100 := by omega
  obtain ⟨-, ⟨np0, du0, f0, hL0, hz0⟩, ⟨sz0, kf0, vf0, hW0⟩, ⟨b0, hB0⟩, W, hA⟩ := kg.1
  rcases hr : bkL T n 9 (0, b0.2.1, b0.2.2) 0 with ⟨k9, q9⟩ | ⟨a9, s9⟩
  · refine StW.st (v := nI k9 - nI 10) (d1 := 9) (mc1 := 0) (ms1 := 0) (d2 := 3) (la := la) (lw := lw) (bk := bk) (c := c) (c2 := ((c.1.1, 0, nI q9), c.2)) (by decide) ⟨⟨Nat.zero_le _, T, gT⟩, g.2⟩ (c_L_book_k hst (c_K_book_l hst hC kt1 gT kt2 gt6 hB0 n bn1 bn2 hr) hC.K0 (fun r h9 e => ⟨e.1, (e.2.1.2.1 72).trans o1⟩)) (fun h1 q1 => ?_) (fun h1 m1 => ?_)
    · obtain ⟨-, q, ⟨s9, hs9⟩, t2, t3⟩ := q1
      have n1 : hp_N h1 = hp_N h := q.1
      have ss := SmN.of q
      have hX : ∀ a, lawX (37 - bk) a → xS la lw bk a := fun a e => by
        have e2 : a = 37 - bk + 1 ∨ a = 37 - bk + 2 := e
        unfold xS
        omega
      have hY : ∀ a j, bookF (37 - bk) a j → yS la lw bk a j := fun a j e => by
        have e2 : (a = 1 ∧ 1 ≤ j) ∨ (a = 37 - bk ∧ j = 2) := e
        unfold yS
        omega
      have nX : ∀ a, ¬ (a = 37 - bk + 1 ∨ a = 37 - bk + 2) → ¬ lawX (37 - bk) a := fun a h1 e => h1 e
      have nY : ∀ a j, ¬ ((a = 1 ∧ 1 ≤ j) ∨ (a = 37 - bk ∧ j = 2)) → ¬ bookF (37 - bk) a j := fun a j h1 e => h1 e
      refine ⟨kg.read q o2 hX hY ⟨np0, du0, f0, hL0.smn ss (by omega) (nX _ (by omega)) (fun j => nY _ _ (by omega)), hz0⟩ ⟨sz0, kf0, vf0, hW0.smn ss (by omega) (nX _ (by omega)) (nX _ (by omega)) (fun j => nY _ _ (by omega))⟩ ⟨_, hs9⟩ ⟨W, hA.smn ss (by omega) (fun c h1 h2 => nX _ (by omega)) (fun j _ => nY _ _ (by omega))⟩ t2 t3, mg.fr (q.frM (fun a e => Or.inr (Or.inl ?_)) (fun a j e => Or.inr (Or.inl ?_))) o2, (q.2.1 72).trans o1, by omega, by omega⟩
      · have e2 : a = 37 - bk + 1 ∨ a = 37 - bk + 2 := e
        omega
      · have e2 : (a = 1 ∧ 1 ≤ j) ∨ (a = 37 - bk ∧ j = 2) := e
        omega
    · obtain ⟨bd, hbd⟩ := m1.2.1.2.2.2
      exact cc_post (fun r h2 e => ⟨e.1, MR.rd m1 e.2.1 e.2.2.2.1 e.2.2.2.2, e.2.2.1⟩) (c_M_book_l hst m1.1 m1.2.1.1 gT m1.2.1.2.1 gt6 hbd n bn1 bn2 _ _ hr)
  · refine StW.st (v := nI s9.1) (d1 := 9) (mc1 := 0) (ms1 := 0) (d2 := 3) (la := la) (lw := lw) (bk := 37 - bk) (c := c) (c2 := ((c.1.1, 0, -1), c.2.1, c.2.2.1, s9, c.2.2.2.2)) (by decide) ⟨⟨Nat.zero_le _, T, gT⟩, ⟨gz, gr⟩, gl, (show bkX n 9 (.inr (a9, s9)) from hr ▸ bkL_x (T := T) (n := n) 9 (0, b0.2.1, b0.2.2) 0 (BkG.z _ _) (Nat.zero_le _) rfl).1, gp, gps, gi, gis⟩ (c_L_book_k hst (c_K_book hst hC kt1 gT kt2 gt6 hB0 n bn1 bn2 hr) hC.K0 (fun r h9 e => ⟨e.1, (e.2.1.2.1 72).trans o1⟩)) (fun h1 q1 => ?_) (fun h1 m1 => ?_)
    · obtain ⟨-, q, hC9, hW9, e6, e7⟩ := q1
      have n1 : hp_N h1 = hp_N h := q.1
      refine ⟨kg.book q o2 hC9 hW9 e6 e7, mg.fr (q.frM (fun a e => Or.inr (Or.inl ?_)) (fun a j e => Or.inr (Or.inl ?_))) o2, (q.2.1 72).trans o1, by omega, by omega⟩
      · have e2 : a = 37 - bk + 1 ∨ a = 37 - bk + 2 := e
        omega
      · have e2 : (a = 1 ∧ 1 ≤ j) ∨ (a = 37 - bk ∧ j = 2) ∨ (a = 0 ∧ (j = 5 ∨ j = 6)) := e
        omega
    · obtain ⟨bd, hbd⟩ := m1.2.1.2.2.2
      refine cc_post (fun r h2 e => ?_) (c_M_book hst m1.1 m1.2.1.1 gT m1.2.1.2.1 gt6 hbd n bn1 bn2 _ _ hr)
      obtain ⟨e0, q, hW9, t0, t2, ft⟩ := e
      refine ⟨e0, MG.lb m1 q (fun a e => ?_) (fun a j e => ?_) ?_ hW9 t2 ft, t0⟩
      · rcases e with e | e
        · exact Or.inl (SX_or e)
        · exact Or.inr (Or.inr (Or.inr e))
      · rcases e with e | e
        · exact ⟨(SYt_or e).1, Or.inl (SYt_or e).2⟩
        · exact ⟨e.1, Or.inr (Or.inr e.2)⟩
      · refine m1.2.2.2.1.same q (fun e => ?_) (fun e => ?_) (fun e => ?_)
        · rcases e with e | e
          · exact absurd (SX_or e) (by decide)
          · exact absurd e (by decide)
        · rcases e with e | e
          · exact absurd (SX_or e) (by decide)
          · exact absurd e (by decide)
        · rcases e with e | e
          · exact absurd (SYt_or e).2 (by decide)
          · exact absurd e.2 (by decide)
