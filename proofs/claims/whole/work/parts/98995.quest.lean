/-! ===== a question: answered by both, or refused by both ===== -/
theorem SX_72 : ¬ SX 46 72 := fun e => by
  unfold SX at e
  obtain ⟨i, hi, e⟩ := List.mem_map.mp e
  have h9 : ∀ i ∈ ([3, 4, 5, 6, 7, 10, 11, 12, 13, 15, 17, 19, 20, 21, 22, 23, 24] : List Nat), i ≤ 24 := by decide
  have := h9 i hi
  omega
theorem StW.ok {l : Launch} {Z : EE} {N NX : MM} {d mc ms d1 mc1 ms1 d2 j : Nat} {As : List Value} {h : PH} {v : Int32} {c : CSt} (s : SG (j + 1) h) (mg : MG h c) (hb : d1 ≤ d ∧ mc1 ≤ mc ∧ ms1 ≤ ms ∧ d2 ≤ d)
    (c1 : CC l Z N d1 mc1 ms1 ((.ref 0) :: (As ++ [.ref 72])) h (RQ (some (.int (nI 0))) (fun h9 => ∃ h', COk v h (.inl (some (.int v))) h' ∧ h9 = outS h' v)))
    (c2 : ∀ h1, MG h1 c → CC l Z NX d2 0 0 ((.ref 46) :: As) h1 (MOk v 46 h1)) : StW l Z N NX d mc ms As (GG j) h := by
  have hN : 72 < hp_N h := by obtain ⟨c, la, lw, bk, kg, mg, g, o1, o2, o3⟩ := s; exact o2
  have h72 : hp_K h 72 = (21, 1) := by obtain ⟨c, la, lw, bk, kg, mg, g, o1, o2, o3⟩ := s; exact o1
  refine ⟨0, _, d1, mc1, ms1, ⟨by omega, hb.1, hb.2.1, hb.2.2.1⟩, c1, fun h9 q9 => ?_⟩
  obtain ⟨h1, ⟨-, k⟩, rfl⟩ := q9
  have n1 : hp_N h1 = hp_N h := k.1
  have mg1 : MG (outS h1 v) c := (mg.fr (frM_k k) hN).fr (frM_out h1 v) (by omega)
  refine ⟨mg1.1.K0, v, d2, hb.2.2.2, cc_post (fun r h2 hp => ⟨hp.1, ?_⟩) (c2 _ mg1)⟩
  obtain ⟨-, m, t0⟩ := hp
  refine ⟨(s.qq k m).gg, mg1.1.scr m, t0, (m.2.1 72).trans ((k.2.1 72).trans h72), fun _ => ?_⟩
  rw [m.2.2.2.2 72 SX_72]
  show (if (72 : Nat) = 72 then vp_updL (hp_L h1 72) 0 v.toInt64 else hp_L h1 72) 0 = _
  rw [if_pos rfl]
  exact pk_uLs
/-- the state with other counters -/
def cnS (c : CSt) (mi wr : Int32) : CSt := (c.1, c.2.1, c.2.2.1, c.2.2.2.1, c.2.2.2.2.1, c.2.2.2.2.2.1, mi, wr)
abbrev okZ : Nat → Nat → Prop := fun a j => okY a j ∨ (a = 0 ∧ (j = 12 ∨ j = 13))
theorem okZ_clR : ∀ e ∈ clR, ¬ okZ e.1 e.2.1 := by decide
theorem okZ_c {a j : Nat} (h : a ∉ ([0, 30, 39, 42, 43] : List Nat)) (h2 : a < 46) : ¬ okZ a j := fun e => by
  rcases e with e | e
  · exact okY_c (fun z => h (List.mem_cons_of_mem _ z)) h2 e
  · exact h (by rw [e.1]; decide)
theorem okZ_0 {j : Nat} (h : j < 12) : ¬ okZ 0 j := fun e => by
  rcases e with e | e
  · exact okY_c (by decide) (by decide) e
  · omega
theorem KS.cn {h h' : PH} {la lw bk : Nat} (k : KS h la lw bk) (q : SmN okX okZ h h') (hN : 72 < hp_N h) : KS h' la lw bk := by
  obtain ⟨hC, ⟨np0, du0, f0, hL, hz⟩, ⟨sz0, kf0, vf0, hW⟩, ⟨s0, hB⟩, W, hA⟩ := k
  have hla := hC.la
  have hlw := hC.lw
  have hbk := hC.bk
  refine ⟨hC.smn q (by omega) okZ_clR (fun j _ _ => okZ_0 (by omega)), ⟨np0, du0, f0, hL.smn q (by omega) ?_ (fun j => ?_), hz⟩, ⟨sz0, kf0, vf0, hW.smn q (by omega) ?_ ?_ (fun j => ?_)⟩, ⟨s0, hB.smn q (by omega) ?_ ?_ (fun j => ?_)⟩, W, hA.smn q (by omega) (fun c h1 h2 => ?_) (fun j _ => okZ_c (by decide) (by decide))⟩
  · rcases hla with rfl | rfl <;> exact okX_c (by decide) (by decide)
  · rcases hla with rfl | rfl <;> exact okZ_c (by decide) (by decide)
  · rcases hlw with rfl | rfl <;> exact okX_c (by decide) (by decide)
  · rcases hlw with rfl | rfl <;> exact okX_c (by decide) (by decide)
  · rcases hlw with rfl | rfl <;> exact okZ_c (by decide) (by decide)
  · rcases hbk with rfl | rfl <;> exact okX_c (by decide) (by decide)
  · rcases hbk with rfl | rfl <;> exact okX_c (by decide) (by decide)
  · rcases hbk with rfl | rfl <;> exact okZ_c (by decide) (by decide)
  · rcases (show c = 23 ∨ c = 24 ∨ c = 25 ∨ c = 26 ∨ c = 27 by omega) with rfl | rfl | rfl | rfl | rfl <;> exact okX_c (by decide) (by decide)
theorem PsC.cn {h h' : PH} (q : SmN okX okZ h h') {ps : List (Nat → Int32)} {v : Value} (e : PsC h v ps) : PsC h' v ps :=
  PsC.old q.1 (fun a _ h2 => q.2.1 a h2) (fun a j h1 h2 => q.2.2.1 a j h2 (fun e => by
    rcases e with e | e
    · exact okY_hi h1 e
    · omega)) (fun a h1 h2 => q.2.2.2.1 a h2 (ok_hi h1)) ps v e
theorem ImC.cn {h h' : PH} (q : SmN okX okZ h h') (hN : 72 < hp_N h) : ∀ (ims : List (List (Nat → Int32))), ImC h ims → ImC h' ims
  | [], _ => trivial
  | x :: r, ⟨h1, h2, h3⟩ => ⟨by
      rw [q.2.2.1 28 r.length (by omega) (okZ_c (by decide) (by decide))]
      exact h1.cn q, h2, ImC.cn q hN r h3⟩
theorem KG.cn {h h' : PH} {la lw bk : Nat} {c : CSt} {mi wr : Int32} (k : KG h la lw bk c) (q : SmN okX okZ h h') (hN : 72 < hp_N h) (h12 : hp_F h' 0 12 = .int mi) (h13 : hp_F h' 0 13 = .int wr) : KG h' la lw bk (cnS c mi wr) := by
  obtain ⟨hS, ⟨t1, t2, t3⟩, hL, hW, hB, ⟨p1, p2, p3⟩, c1, c2, c3⟩ := k
  have hC := hS.1
  have hla := hC.la
  have hlw := hC.lw
  have hbk := hC.bk
  have F0 : ∀ j, j < 12 → hp_F h' 0 j = hp_F h 0 j := fun j hj => q.2.2.1 0 j (by omega) (okZ_0 hj)
  have F1 : ∀ j, hp_F h' 1 j = hp_F h 1 j := fun j => q.2.2.1 1 j (by omega) (okZ_c (by decide) (by decide))
  refine ⟨hS.cn q hN, ⟨(q.2.2.2.1 2 (by omega) (okX_c (by decide) (by decide))).trans t1, (F1 1).trans t2, (F1 5).trans t3⟩, hL.smn q (by omega) ?_ (fun j => ?_), hW.smn q (by omega) ?_ ?_ (fun j => ?_), hB.smn q (by omega) ?_ ?_ (fun j => ?_), ⟨by rw [F0 8 (by decide)]; exact p1.cn q, (F0 10 (by decide)).trans p2, ImC.cn q hN _ p3⟩, (F0 11 (by decide)).trans c1, h12, h13⟩
  · rcases hla with rfl | rfl <;> exact okX_c (by decide) (by decide)
  · rcases hla with rfl | rfl <;> exact okZ_c (by decide) (by decide)
  · rcases hlw with rfl | rfl <;> exact okX_c (by decide) (by decide)
  · rcases hlw with rfl | rfl <;> exact okX_c (by decide) (by decide)
  · rcases hlw with rfl | rfl <;> exact okZ_c (by decide) (by decide)
  · rcases hbk with rfl | rfl <;> exact okX_c (by decide) (by decide)
  · rcases hbk with rfl | rfl <;> exact okX_c (by decide) (by decide)
  · rcases hbk with rfl | rfl <;> exact okZ_c (by decide) (by decide)
def omXr : Nat → Prop := fun a => omX a ∨ a = 47
theorem omXr_c {i : Nat} (h : i ∉ ([1, 3, 4, 5, 6, 7, 10, 11, 12, 13, 15, 17, 19, 20, 21, 22, 23, 24] : List Nat)) (h2 : i ≤ 25) : ¬ omXr (46 + i) := fun e => by
  rcases e with e | e
  · exact omX_c (fun z => h (List.mem_cons_of_mem _ z)) h2 e
  · have : i = 1 := by omega
    exact h (by rw [this]; decide)
theorem ModS.cn {h h' : PH} (hM : ModS h 46) (q : SmN omXr omY h h') (hN : 72 < hp_N h) : ModS h' 46 := by
  have h1 : ∀ e ∈ modT, e.2.1 ≤ 25 ∧ e.1 ∉ ([0, 3, 4, 5, 7, 13, 14, 22, 27, 30, 31, 32, 42, 43, 44, 45, 48, 49] : List Nat) := by decide
  exact ⟨(q.2.1 46 (by omega)).trans hM.1, fun e he => ⟨(q.2.1 (46 + e.2.1) (by have := (h1 e he).1; omega)).trans (hM.2 e he).1, (q.2.2.1 46 e.1 (by omega) (omY_c (h1 e he).2)).trans (hM.2 e he).2⟩⟩
theorem MG.cn {h h' : PH} {c : CSt} {mi wr : Int32} (k : MG h c) (q : SmN omXr omY h h') (hN : 72 < hp_N h) (h0 : hp_I h' 47 0 = mi) (h1 : hp_I h' 47 1 = wr) : MG h' (cnS c mi wr) := by
  obtain ⟨hM, ⟨t1, t2, t3, bd, t4⟩, ⟨l1, l2, l3⟩, ⟨w1, w2, w3, w4⟩, ⟨b1, b2, b3⟩, ⟨p1, p2, p3, p4⟩, c1, c2, c3⟩ := k
  have F : ∀ j, j ∉ ([0, 3, 4, 5, 7, 13, 14, 22, 27, 30, 31, 32, 42, 43, 44, 45, 48, 49] : List Nat) → hp_F h' 46 j = hp_F h 46 j := fun j hj => q.2.2.1 46 j (by omega) (omY_c hj)
  have R : ∀ i, i ≤ 25 → i ∉ ([1, 3, 4, 5, 6, 7, 10, 11, 12, 13, 15, 17, 19, 20, 21, 22, 23, 24] : List Nat) → hp_I h' (46 + i) = hp_I h (46 + i) := fun i h1 h2 => q.2.2.2.1 (46 + i) (by omega) (omXr_c h2 h1)
  have r2 : hp_I h' 48 = hp_I h 48 := R 2 (by decide) (by decide)
  have r14 : hp_I h' 60 = hp_I h 60 := R 14 (by decide) (by decide)
  have r16 : hp_I h' 62 = hp_I h 62 := R 16 (by decide) (by decide)
  have r25 : hp_I h' 71 = hp_I h 71 := R 25 (by decide) (by decide)
  have r8 := R 8 (by decide) (by decide)
  have r9 := R 9 (by decide) (by decide)
  have r18 := R 18 (by decide) (by decide)
  refine ⟨hM.cn q hN, ⟨r2.trans t1, (F 2 (by decide)).trans t2, (F 8 (by decide)).trans t3, bd, (F 6 (by decide)).trans t4⟩, ⟨(F 15 (by decide)).trans l1, (F 16 (by decide)).trans l2, r14.trans l3⟩, ⟨(F 23 (by decide)).trans w1, w2, ?_, ?_⟩, ⟨(F 38 (by decide)).trans b1, b2, ?_⟩, ⟨(F 28 (by decide)).trans p1, ?_, (F 52 (by decide)).trans p3, ?_⟩, (F 29 (by decide)).trans c1, h0, h1⟩
  · rw [r8]; exact w3
  · rw [r9]; exact w4
  · rw [r18]; exact b3
  · rw [r16]; exact p2
  · rw [r25]; exact p4
theorem StW.no {l : Launch} {Z : EE} {N NX : MM} {d mc ms d1 mc1 ms1 d2 j k f kd : Nat} {As : List Value} {h : PH} {x : Int32} (hk : k ≤ 2) (hk0 : k ≠ 0) (hf : (f = 12 ∧ kd = 0) ∨ (f = 13 ∧ kd = 1)) (hx : hp_F h 0 f = .int x) {c : CSt} {la lw bk : Nat} (kg : KG h la lw bk c) (mg : MG h c) (g : GdS c) (o1 : hp_K h 72 = (21, 1)) (hN : 72 < hp_N h) (o3 : hp_N h + 2 * (j + 1) ≤ 900000) (hb : d1 ≤ d ∧ mc1 ≤ mc ∧ ms1 ≤ ms ∧ d2 ≤ d)
    (c1 : CC l Z N d1 mc1 ms1 ((.ref 0) :: (As ++ [.ref 72])) h (RQ (some (.int (nI k))) (fun h9 => h9 = hp_sF h 0 f (.int (x + nI 1)))))
    (c2 : ∀ h1, MG h1 c → CC l Z NX d2 0 0 ((.ref 46) :: As) h1 (MNo k kd 46 h1)) : StW l Z N NX d mc ms As (GG j) h := by
  refine ⟨k, _, d1, mc1, ms1, ⟨hk, hb.1, hb.2.1, hb.2.2.1⟩, c1, fun h9 q9 => ?_⟩
  subst q9
  have q1 : SmN okX okZ h (hp_sF h 0 f (.int (x + nI 1))) := smn_sF (Or.inr ⟨rfl, by omega⟩)
  have mg1 : MG (hp_sF h 0 f (.int (x + nI 1))) c := mg.fr (smn_sF (Or.inr (Or.inl (by decide)))) hN
  refine ⟨mg1.1.K0, nI 0, d2, hb.2.2.2, cc_post (fun r h2 hp => ⟨hp.1, ?_⟩) (c2 _ mg1)⟩
  obtain ⟨-, m, t0, ti⟩ := hp
  have n2 : hp_N h2 = hp_N h := m.1
  have kf : FrK (hp_sF h 0 f (.int (x + nI 1))) h2 := m.frK (fun a e => Or.inr (by
    rcases e with e | e
    · exact SX_in2 e
    · omega)) (fun _ _ e => Or.inr (SY_in2 e))
  have F0 : ∀ j, hp_F h2 0 j = hp_F (hp_sF h 0 f (.int (x + nI 1))) 0 j := fun j => kf.2.2.1 0 j (by show 0 < hp_N h; omega) (okY_c (by decide) (by decide))
  have e12 := kg.2.2.2.2.2.2.2.1
  have e13 := kg.2.2.2.2.2.2.2.2
  have r0 := mg.2.2.2.2.2.2.2.1
  have r1 := mg.2.2.2.2.2.2.2.2
  have ti2 : hp_I h2 47 = upd (hp_I h 47) kd (hp_I h 47 kd + nI 1) := ti
  have mq : SmN omXr omY (hp_sF h 0 f (.int (x + nI 1))) h2 := (SmN.of m).mono (fun a e => by
    rcases e with e | e
    · exact Or.inl (Or.inl e)
    · exact Or.inr e) (fun _ _ e => Or.inl e)
  refine ⟨SG.gg ?_, mg1.1.cn mq hN, t0, (m.2.1 72).trans o1, fun e => absurd e hk0⟩
  rcases hf with ⟨rfl, rfl⟩ | ⟨rfl, rfl⟩
  · refine ⟨cnS c (x + nI 1) c.2.2.2.2.2.2.2, la, lw, bk, (kg.cn q1 hN (hp_F_eq _ _ _ _) ((hp_F_nj (by decide) e13))).fr kf hN, mg1.cn mq hN ?_ ?_, g, (m.2.1 72).trans o1, by omega, by omega⟩
    · rw [ti2, pk_us]
      cases e12.symm.trans hx
      exact congrArg (fun z => z + nI 1) r0
    · rw [ti2, pk_un (by decide)]
      exact r1
  · refine ⟨cnS c c.2.2.2.2.2.2.1 (x + nI 1), la, lw, bk, (kg.cn q1 hN (hp_F_nj (by decide) e12) (hp_F_eq _ _ _ _)).fr kf hN, mg1.cn mq hN ?_ ?_, g, (m.2.1 72).trans o1, by omega, by omega⟩
    · rw [ti2, pk_un (by decide)]
      exact r0
    · rw [ti2, pk_us]
      cases e13.symm.trans hx
      exact congrArg (fun z => z + nI 1) r1
