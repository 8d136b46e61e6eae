/-! ===== what changes the state: frames ===== -/
abbrev yB (a j : Nat) : Prop := (a = 0 ∧ (j = 8 ∨ j = 10 ∨ j = 11)) ∨ (a = 1 ∧ 1 ≤ j) ∨ ((a = 3 ∨ a = 5) ∧ 1 ≤ j) ∨ ((a = 7 ∨ a = 12) ∧ j = 4) ∨ ((a = 17 ∨ a = 20) ∧ j = 2) ∨ (a = 23 ∧ 4 ≤ j) ∨ a = 28
theorem yB_clR : ∀ e ∈ clR, ¬ yB e.1 e.2.1 := by decide
theorem CL.gen {h h9 : PH} {la lw bk : Nat} {X : Nat → Prop} {Y : Nat → Nat → Prop} (hC : CL h la lw bk) (q : SmN X Y h h9) (hN : 72 < hp_N h) (hY : ∀ a j, Y a j → yB a j) : CL h9 la lw bk :=
  hC.smn q (by omega) (fun e he z => yB_clR e he (hY _ _ z)) (fun j h1 h2 z => by
    have z2 : yB 0 j := hY _ _ z
    unfold yB at z2
    omega)
/-- the spare cells and the affairs' stay -/
theorem KS.gen {h h9 : PH} {la lw bk : Nat} {X : Nat → Prop} {Y : Nat → Nat → Prop} (k : KS h la lw bk) (q : SmN X Y h h9) (hN : 72 < hp_N h) (hY : ∀ a j, Y a j → yB a j) (hx : ∀ a, a = 8 - la + 1 ∨ a = 19 - lw + 1 ∨ a = 19 - lw + 2 ∨ a = 37 - bk + 1 ∨ a = 37 - bk + 2 ∨ (23 ≤ a ∧ a ≤ 27) → ¬ X a) (hy : ∀ a j, a = 8 - la ∨ a = 19 - lw ∨ a = 37 - bk ∨ (a = 23 ∧ j ≤ 4) → ¬ Y a j) : KS h9 la lw bk := by
  obtain ⟨hC, ⟨np0, du0, f0, hL, hz⟩, ⟨sz0, kf0, vf0, hW⟩, ⟨s0, hB⟩, W, hA⟩ := k
  have hla := hC.la
  have hlw := hC.lw
  have hbk := hC.bk
  exact ⟨hC.gen q hN hY, ⟨np0, du0, f0, hL.smn q (by omega) (hx _ (by omega)) (fun j => hy _ _ (by omega)), hz⟩, ⟨sz0, kf0, vf0, hW.smn q (by omega) (hx _ (by omega)) (hx _ (by omega)) (fun j => hy _ _ (by omega))⟩, ⟨s0, hB.smn q (by omega) (hx _ (by omega)) (hx _ (by omega)) (fun j => hy _ _ (by omega))⟩, W, hA.smn q (by omega) (fun c h1 h2 => hx _ (by omega)) (fun j hj => hy _ _ (by omega))⟩
theorem PsC.gen {h h9 : PH} {X : Nat → Prop} {Y : Nat → Nat → Prop} (q : SmN X Y h h9) (hX : ∀ a, X a → a ≤ 72) (hY : ∀ a j, Y a j → a ≤ 72) {ps : List (Nat → Int32)} {v : Value} (e : PsC h v ps) : PsC h9 v ps :=
  PsC.old q.1 (fun a _ h2 => q.2.1 a h2) (fun a j h1 h2 => q.2.2.1 a j h2 (fun z => by have := hY a j z; omega)) (fun a h1 h2 => q.2.2.2.1 a h2 (fun z => by have := hX a z; omega)) ps v e
theorem ImC.old {h h9 : PH} (hP : ∀ (v : Value) (x : List (Nat → Int32)), PsC h v x → PsC h9 v x) : ∀ (ims : List (List (Nat → Int32))), (∀ j, j < ims.length → hp_F h9 28 j = hp_F h 28 j) → ImC h ims → ImC h9 ims
  | [], _, _ => trivial
  | x :: r, e, ⟨h1, h2, h3⟩ => ⟨by
      rw [e r.length (Nat.lt_succ_self _)]
      exact hP _ _ h1, h2, ImC.old hP r (fun j hj => e j (Nat.lt_succ_of_lt hj)) h3⟩
theorem PsM.congr {pf pf2 : Nat → Int32} : ∀ (ps : List (Nat → Int32)), (∀ i, i < 190 * ps.length → pf2 i = pf i) → PsM pf ps → PsM pf2 ps
  | [], _, _ => trivial
  | g :: ps, e, ⟨h1, h2⟩ => ⟨fun i hi => (e (190 * ps.length + i) (by show 190 * ps.length + i < 190 * (ps.length + 1); omega)).trans (h1 i hi), PsM.congr ps (fun i hi => e i (by show i < 190 * (ps.length + 1); omega)) h2⟩
theorem ImM.congr {im im2 : Nat → Int32} : ∀ (r : List (List (Nat → Int32))), (∀ x ∈ r, x.length ≤ 17) → (∀ i, i < 3231 * r.length → im2 i = im i) → ImM im r → ImM im2 r
  | [], _, _, _ => trivial
  | x :: r, hl, e, ⟨⟨g, ps, hx, h1, h2, h3⟩, h4⟩ => by
    have hx17 : ps.length ≤ 16 := by
      have := hl x (List.mem_cons_self ..)
      rw [hx] at this
      have h5 : ps.length + 1 ≤ 17 := this
      omega
    have e2 : ∀ i, i < 3231 * (r.length + 1) → im2 i = im i := e
    exact ⟨⟨g, ps, hx, fun i hi => (e2 _ (by omega)).trans (h1 i hi), PsM.congr ps (fun i hi => e2 _ (by omega)) h2, (e2 _ (by omega)).trans h3⟩, ImM.congr r (fun y hy => hl y (List.mem_cons_of_mem _ hy)) (fun i hi => e2 i (by omega)) h4⟩
/-! the reference's cells -/
abbrev xR (a : Nat) : Prop := 49 ≤ a ∧ a ≤ 70 ∧ a ≠ 54 ∧ a ≠ 55 ∧ a ≠ 60 ∧ a ≠ 62 ∧ a ≠ 64
abbrev yR (j : Nat) : Prop := (j ≤ 8 ∧ j ≠ 1) ∨ j = 13 ∨ j = 14 ∨ j = 22 ∨ j = 27 ∨ (30 ≤ j ∧ j ≤ 32) ∨ (42 ≤ j ∧ j ≤ 45) ∨ j = 48 ∨ j = 49
theorem SX_or {a : Nat} (h : SX 46 a) : xR a := by
  unfold SX at h
  obtain ⟨i, hi, rfl⟩ := List.mem_map.mp h
  have h9 : ∀ i ∈ ([3, 4, 5, 6, 7, 10, 11, 12, 13, 15, 17, 19, 20, 21, 22, 23, 24] : List Nat), xR (46 + i) := by decide
  exact h9 i hi
theorem SYt_or {a j : Nat} (h : SYt 46 a j) : a = 46 ∧ yR j := by
  rcases h with ⟨h1, h2⟩ | ⟨h1, h2⟩
  · have h9 : ∀ j ∈ ([0, 3, 4, 5, 7, 13, 14, 22, 27, 30, 31, 32, 42, 43, 44, 45, 48, 49] : List Nat), yR j := by decide
    exact ⟨h1, h9 j h2⟩
  · refine ⟨h1, ?_⟩
    unfold yR
    omega
abbrev yM (j : Nat) : Prop := yR j ∨ j = 15 ∨ j = 16 ∨ j = 23 ∨ j = 28 ∨ j = 29 ∨ j = 38 ∨ j = 52
theorem yM_T : ∀ e ∈ modT, ¬ yM e.1 := by decide
theorem ModS.gen {h h9 : PH} {X : Nat → Prop} {Y : Nat → Nat → Prop} (hM : ModS h 46) (q : Same X Y h h9) (hY : ∀ j, Y 46 j → yM j) : ModS h9 46 :=
  ⟨(q.2.1 46).trans hM.1, fun e he => ⟨(q.2.1 _).trans (hM.2 e he).1, (q.2.2.1 46 e.1 (fun z => yM_T e he (hY _ z))).trans (hM.2 e he).2⟩⟩
/-- the tape and the fault of the reference -/
theorem MG.tape {h h9 : PH} {c : CSt} {tf : Nat → Int32} {tp : Nat} {fl : Int32} (k : MG h c) (q : Same (fun a => SX 46 a ∨ a = 48) (SYt 46) h h9) (t1 : hp_I h9 48 = tf) (t2 : hp_F h9 46 2 = .int (nI tp)) (t3 : hp_F h9 46 8 = .int fl) (t4 : ∃ bd : Int32, hp_F h9 46 6 = .int bd) : MG h9 ((tf, tp, fl), c.2) := by
  obtain ⟨hM, -, ⟨l1, l2, l3⟩, ⟨w1, w2, w3, w4⟩, ⟨b1, b2, b3⟩, ⟨p1, p2, p3, p4⟩, c1, c2, c3⟩ := k
  have F : ∀ j, ¬ yR j → hp_F h9 46 j = hp_F h 46 j := fun j hj => q.2.2.1 46 j (fun e => hj (SYt_or e).2)
  have R : ∀ i, ¬ xR (46 + i) → 46 + i ≠ 48 → hp_I h9 (46 + i) = hp_I h (46 + i) := fun i h1 h2 => q.2.2.2.1 (46 + i) (fun e => by
    rcases e with e | e
    · exact h1 (SX_or e)
    · exact h2 e)
  have r1 : hp_I h9 47 = hp_I h 47 := R 1 (by decide) (by decide)
  have r14 : hp_I h9 60 = hp_I h 60 := R 14 (by decide) (by decide)
  have r16 : hp_I h9 62 = hp_I h 62 := R 16 (by decide) (by decide)
  have r25 : hp_I h9 71 = hp_I h 71 := R 25 (by decide) (by decide)
  have r8 := R 8 (by decide) (by decide)
  have r9 := R 9 (by decide) (by decide)
  have r18 := R 18 (by decide) (by decide)
  refine ⟨hM.gen q (fun j e => Or.inl (SYt_or e).2), ⟨t1, t2, t3, t4⟩, ⟨(F 15 (by decide)).trans l1, (F 16 (by decide)).trans l2, r14.trans l3⟩, ⟨(F 23 (by decide)).trans w1, w2, ?_, ?_⟩, ⟨(F 38 (by decide)).trans b1, b2, ?_⟩, ⟨(F 28 (by decide)).trans p1, ?_, (F 52 (by decide)).trans p3, ?_⟩, (F 29 (by decide)).trans c1, ?_, ?_⟩
  · rw [r8]; exact w3
  · rw [r9]; exact w4
  · rw [r18]; exact b3
  · rw [r16]; exact p2
  · rw [r25]; exact p4
  · rw [r1]; exact c2
  · rw [r1]; exact c3
abbrev mX2 : Nat → Prop := fun a => a = 60 ∨ a = 62 ∨ a = 71
abbrev mY2 : Nat → Nat → Prop := fun a j => a = 46 ∧ (j = 0 ∨ j = 28 ∨ j = 29 ∨ j = 52)
/-- land's row, pasts and images of the reference -/
theorem MG.mid {h h9 : PH} {c : CSt} {f : Nat → Int32} {ps : List (Nat → Int32)} {ims : List (List (Nat → Int32))} {rs : Int32} (k : MG h c) (q : Same mX2 mY2 h h9) (l3 : hp_I h9 60 = f) (hp : MP h9 ps ims) (hr : hp_F h9 46 29 = .int rs) : MG h9 (c.1, (c.2.1.1, c.2.1.2.1, f), c.2.2.1, c.2.2.2.1, (ps, ims), (rs, c.2.2.2.2.2.2)) := by
  obtain ⟨hM, ⟨t1, t2, t3, bd, t4⟩, ⟨l1, l2, -⟩, ⟨w1, w2, w3, w4⟩, ⟨b1, b2, b3⟩, -, -, c2, c3⟩ := k
  have F : ∀ j, ¬ (j = 0 ∨ j = 28 ∨ j = 29 ∨ j = 52) → hp_F h9 46 j = hp_F h 46 j := fun j hj => q.2.2.1 46 j (fun e => hj e.2)
  have R : ∀ i, ¬ (46 + i = 60 ∨ 46 + i = 62 ∨ 46 + i = 71) → hp_I h9 (46 + i) = hp_I h (46 + i) := fun i h1 => q.2.2.2.1 (46 + i) (fun e => h1 e)
  have r1 : hp_I h9 47 = hp_I h 47 := R 1 (by decide)
  have r2 : hp_I h9 48 = hp_I h 48 := R 2 (by decide)
  have r8 := R 8 (by decide)
  have r9 := R 9 (by decide)
  have r18 := R 18 (by decide)
  refine ⟨hM.gen q (fun j e => ?_), ⟨r2.trans t1, (F 2 (by decide)).trans t2, (F 8 (by decide)).trans t3, bd, (F 6 (by decide)).trans t4⟩, ⟨(F 15 (by decide)).trans l1, (F 16 (by decide)).trans l2, l3⟩, ⟨(F 23 (by decide)).trans w1, w2, ?_, ?_⟩, ⟨(F 38 (by decide)).trans b1, b2, ?_⟩, hp, hr, ?_, ?_⟩
  · have e2 : j = 0 ∨ j = 28 ∨ j = 29 ∨ j = 52 := e.2
    rcases e2 with rfl | rfl | rfl | rfl <;> decide
  · rw [r8]; exact w3
  · rw [r9]; exact w4
  · rw [r18]; exact b3
  · rw [r1]; exact c2
  · rw [r1]; exact c3
/-! a step that changes the state -/
def MR (c : CSt) (h1 h2 : PH) : Prop := Same (fun a => 46 ≤ a ∧ a ≤ 71) (fun a _ => a = 46) h1 h2 ∧ ∃ f : Nat → Int32, (∀ i, i < 190 → f i = hp_I h2 60 i) ∧ MG (hp_sI h2 60 f) c
theorem MR.of {c : CSt} {h1 h2 : PH} (q : Same (fun a => 46 ≤ a ∧ a ≤ 71) (fun a _ => a = 46) h1 h2) (m : MG h2 c) : MR c h1 h2 := ⟨q, hp_I h2 60, fun _ _ => rfl, by rw [hp_sI_id]; exact m⟩
theorem MR.k60 {c : CSt} {h1 h2 : PH} (m : MR c h1 h2) : ModS h2 46 := by
  obtain ⟨-, f, -, mg⟩ := m
  exact ⟨mg.1.1, fun e he => mg.1.2 e he⟩
theorem MR.gg {c : CSt} {h1 h2 : PH} {la lw bk j : Nat} (m : MR c h1 h2) (kg : KG h1 la lw bk c) (g : GdS c) (o1 : hp_K h1 72 = (21, 1)) (o2 : 72 < hp_N h1) (o3 : hp_N h1 + 2 * j ≤ 900000) : GG j h2 := by
  have hM := m.k60
  obtain ⟨q, f, ef, mg⟩ := m
  have n2 : hp_N h2 = hp_N h1 := q.1
  have k1 : FrK h1 h2 := q.frK (fun a e => Or.inr (by have e2 : 46 ≤ a ∧ a ≤ 71 := e; omega)) (fun a j e => Or.inr (by have e2 : a = 46 := e; omega))
  have k2 : FrK h2 (hp_sI h2 60 f) := smn_sI (Or.inr ⟨by decide, by decide⟩)
  exact ⟨f, hM.K14, ef, c, la, lw, bk, (kg.fr k1 o2).fr k2 (by omega), mg, g, (q.2.1 72).trans o1, by show 72 < hp_N h2; omega, by show hp_N h2 + 2 * j ≤ 900000; omega⟩
theorem StD.st {l : Launch} {Z : EE} {N NX : MM} {d mc ms d1 mc1 ms1 d2 j : Nat} {As : List Value} {h : PH} {v : Int32} {c c2 : CSt} {la lw bk : Nat} {Q1 : PH → Prop} (hb : d1 ≤ d ∧ mc1 ≤ mc ∧ ms1 ≤ ms ∧ d2 ≤ d) (g : GdS c2)
    (p1 : CC l Z N d1 mc1 ms1 ((.ref 0) :: As) h (RQ (some (.int v)) Q1))
    (k1 : ∀ h1, Q1 h1 → KG h1 la lw bk c2 ∧ MG h1 c ∧ hp_K h1 72 = (21, 1) ∧ 72 < hp_N h1 ∧ hp_N h1 + 2 * j ≤ 900000)
    (p2 : ∀ h1, MG h1 c → CC l Z NX d2 0 0 ((.ref 46) :: As) h1 (RQ (some (.int v)) (MR c2 h1))) : StD l Z N NX d mc ms As (GG j) h := by
  refine ⟨v, Q1, d1, mc1, ms1, ⟨hb.1, hb.2.1, hb.2.2.1⟩, p1, fun h1 q1 => ?_⟩
  obtain ⟨kg, mg, o1, o2, o3⟩ := k1 h1 q1
  exact ⟨mg.1.K0, d2, hb.2.2.2, cc_post (fun r h2 hp => ⟨hp.1, hp.2.gg kg g o1 o2 o3⟩) (p2 h1 mg)⟩
theorem StW.st {l : Launch} {Z : EE} {N NX : MM} {d mc ms d1 mc1 ms1 d2 j : Nat} {As : List Value} {h : PH} {v : Int32} {c c2 : CSt} {la lw bk : Nat} {P : PH → Prop} (hb : d1 ≤ d ∧ mc1 ≤ mc ∧ ms1 ≤ ms ∧ d2 ≤ d) (g : GdS c2)
    (p1 : CC l Z N d1 mc1 ms1 ((.ref 0) :: (As ++ [.ref 72])) h (RQ (some (.int (nI 0))) (fun h9 => ∃ h', P h' ∧ h9 = outS h' v)))
    (k1 : ∀ h1, P h1 → KG h1 la lw bk c2 ∧ MG h1 c ∧ hp_K h1 72 = (21, 1) ∧ 72 < hp_N h1 ∧ hp_N h1 + 2 * j ≤ 900000)
    (p2 : ∀ h1, MG h1 c → CC l Z NX d2 0 0 ((.ref 46) :: As) h1 (RQ (some (.int v)) (fun h2 => MR c2 h1 h2 ∧ hp_F h2 46 0 = .int (nI 0)))) : StW l Z N NX d mc ms As (GG j) h := by
  refine ⟨0, _, d1, mc1, ms1, ⟨by omega, hb.1, hb.2.1, hb.2.2.1⟩, p1, fun h9 q9 => ?_⟩
  obtain ⟨h1, q1, rfl⟩ := q9
  obtain ⟨kg, mg, o1, o2, o3⟩ := k1 h1 q1
  have mg1 : MG (outS h1 v) c := mg.fr (frM_out h1 v) o2
  have kg1 : KG (outS h1 v) la lw bk c2 := kg.fr (frK_out h1 v) o2
  refine ⟨mg1.1.K0, v, d2, hb.2.2.2, cc_post (fun r h2 hp => ⟨hp.1, ?_⟩) (p2 _ mg1)⟩
  obtain ⟨-, m, t0⟩ := hp
  refine ⟨m.gg kg1 g o1 o2 o3, m.k60, t0, (m.1.2.1 72).trans o1, fun _ => ?_⟩
  rw [m.1.2.2.2.2 72 (fun e => by have e2 : 46 ≤ 72 ∧ 72 ≤ 71 := e; omega)]
  show (if (72 : Nat) = 72 then vp_updL (hp_L h1 72) 0 v.toInt64 else hp_L h1 72) 0 = _
  rw [if_pos rfl]
  exact pk_uLs
theorem cok_of {l : Launch} {Z : EE} {N : MM} {d mc ms : Nat} {As : List Value} {h : PH} {v : Int32} (k : CC l Z N d mc ms As h (RT (some (.int v)) h)) : CC l Z N d mc ms As h (COk v h) := cc_post (fun r h' e => ⟨e.1, by rw [e.2]; exact Same.rf⟩) k
theorem mok_of {l : Launch} {Z : EE} {N : MM} {d mc ms : Nat} {As : List Value} {h : PH} {v : Int32} (k : CC l Z N d mc ms As h (RT (some (.int v)) (hp_sF h 46 0 (.int (nI 0))))) : CC l Z N d mc ms As h (MOk v 46 h) := cc_post (fun r h' e => ⟨e.1, by rw [e.2]; exact ⟨Same.rf.sF (SY0 46), hp_F_eq _ _ _ _⟩⟩) k
/-! ===== feed ===== -/
theorem BT.feed {tf : Nat → Int32} {T : Nat → Nat} (hB : BT tf T) (tp : Nat) (xs : Nat → Int32) (k : Nat) : ∃ T2, BT (fdF tf tp xs k) T2 := by
  refine ⟨fun i => if tp ≤ i ∧ i < tp + k then (xs ((i - tp) / 4)).toBitVec.toNat / 2 ^ (24 - 8 * ((i - tp) % 4)) % 256 else T i, fun i => ?_⟩
  show fdF tf tp xs k i = nI (if tp ≤ i ∧ i < tp + k then (xs ((i - tp) / 4)).toBitVec.toNat / 2 ^ (24 - 8 * ((i - tp) % 4)) % 256 else T i) ∧ (if tp ≤ i ∧ i < tp + k then (xs ((i - tp) / 4)).toBitVec.toNat / 2 ^ (24 - 8 * ((i - tp) % 4)) % 256 else T i) < 256
  by_cases e : tp ≤ i ∧ i < tp + k
  · have h1 : fdF tf tp xs k i = byF (xs ((i - tp) / 4)) ((i - tp) % 4) := if_pos e
    rw [h1, if_pos e]
    exact ⟨rfl, Nat.mod_lt _ (by decide)⟩
  · have h1 : fdF tf tp xs k i = tf i := if_neg e
    rw [h1, if_neg e]
    exact hB i
theorem KG.feed {h h9 : PH} {la lw bk : Nat} {c : CSt} {tf : Nat → Int32} {tp : Nat} (k : KG h la lw bk c) (q : Same (fun c => c = 2) (fun a i => a = 1 ∧ i = 1) h h9) (hN : 72 < hp_N h) (t1 : hp_I h9 2 = tf) (t2 : hp_F h9 1 1 = .int (nI tp)) : KG h9 la lw bk ((tf, tp, c.1.2.2), c.2) := by
  obtain ⟨hS, ⟨-, -, t3⟩, hL, hW, hB, ⟨p1, p2, p3⟩, c1, c2, c3⟩ := k
  have hla := hS.1.la
  have hlw := hS.1.lw
  have hbk := hS.1.bk
  have s := SmN.of q
  have nX : ∀ a, a ≠ 2 → ¬ (fun c => c = 2) a := fun a h1 e => h1 e
  have nY : ∀ a j, a ≠ 1 ∨ j ≠ 1 → ¬ (fun a i => a = 1 ∧ i = 1) a j := fun a j h1 e => by
    have e2 : a = 1 ∧ j = 1 := e
    omega
  have F : ∀ a j, a ≠ 1 ∨ j ≠ 1 → hp_F h9 a j = hp_F h a j := fun a j h1 => q.2.2.1 a j (nY a j h1)
  have hP : ∀ (v : Value) (x : List (Nat → Int32)), PsC h v x → PsC h9 v x := fun v x e => e.gen s (fun a z => by have z2 : a = 2 := z; omega) (fun a j z => by have z2 : a = 1 ∧ j = 1 := z; omega)
  refine ⟨hS.gen s hN (fun a j z => ?_) (fun a h1 => nX a (by omega)) (fun a j h1 => nY a j (by omega)), ⟨t1, t2, (F 1 5 (by omega)).trans t3⟩, hL.smn s (by omega) (nX _ (by omega)) (fun j => nY _ _ (by omega)), hW.smn s (by omega) (nX _ (by omega)) (nX _ (by omega)) (fun j => nY _ _ (by omega)), hB.smn s (by omega) (nX _ (by omega)) (nX _ (by omega)) (fun j => nY _ _ (by omega)), ⟨by rw [F 0 8 (by omega)]; exact hP _ _ p1, (F 0 10 (by omega)).trans p2, ImC.old hP _ (fun j _ => F 28 j (by omega)) p3⟩, (F 0 11 (by omega)).trans c1, (F 0 12 (by omega)).trans c2, (F 0 13 (by omega)).trans c3⟩
  have z2 : a = 1 ∧ j = 1 := z
  unfold yB
  omega
theorem q_feed {l : Launch} {Z : EE} (hst : l.stackTraces = false) (j : Nat) (p1 p2 p3 p4 p5 : Int32) (h : PH) (s : SG (j + 1) h) : StD l Z m_X10_feed m_X11_feed 60 2 193 [.int p1, .int p2, .int p3, .int p4, .int p5] (GG j) h := by
  obtain ⟨c, la, lw, bk, kg, mg, g, o1, o2, o3⟩ := id s
  obtain ⟨⟨tf, tp, fl⟩, cc⟩ := c
  obtain ⟨⟨gt, T, gT⟩, gg⟩ := id g
  have gt6 : tp ≤ 600 := gt
  by_cases ht : tp + 20 ≤ 600
  · obtain ⟨T2, hT2⟩ := BT.feed gT tp (xsF p1 p2 p3 p4 p5) 20
    refine StD.st (d1 := 2) (mc1 := 0) (ms1 := 0) (d2 := 0) (la := la) (lw := lw) (bk := bk) (c := ((tf, tp, fl), cc)) (c2 := ((fdF tf tp (xsF p1 p2 p3 p4 p5) 20, tp + 20, fl), cc)) (by decide) ⟨⟨ht, T2, hT2⟩, gg⟩ (c_K_feed hst kg.1.1 kg.2.1.2.1 kg.2.1.1 ht p1 p2 p3 p4 p5) (fun h1 q1 => ?_) (fun h1 m1 => cc_post (fun r h2 e => ⟨e.1, ?_⟩) (c_M_feed hst m1.1 m1.2.1.2.1 m1.2.1.1 ht p1 p2 p3 p4 p5))
    · obtain ⟨q, t2, t1⟩ := q1
      have n1 : hp_N h1 = hp_N h := q.1
      exact ⟨kg.feed q o2 t1 t2, mg.fr (q.frM (fun a e => Or.inr (Or.inl (by have e2 : a = 2 := e; omega))) (fun a j e => Or.inr (Or.inl (by have e2 : a = 1 ∧ j = 1 := e; omega)))) o2, (q.2.1 72).trans o1, by omega, by omega⟩
    · obtain ⟨-, q, -, t2, t1⟩ := e
      have t8 : hp_F h2 46 8 = hp_F h1 46 8 := q.2.2.1 46 8 (fun e => by have e2 : 46 = 46 ∧ (8 = 0 ∨ 8 = 2) := e; omega)
      have t6 : hp_F h2 46 6 = hp_F h1 46 6 := q.2.2.1 46 6 (fun e => by have e2 : 46 = 46 ∧ (6 = 0 ∨ 6 = 2) := e; omega)
      refine MR.of (q.mono (fun a e => ?_) (fun a j e => ?_)) (m1.tape (q.mono (fun a e => Or.inr e) (fun a j e => ?_)) t1 t2 (t8.trans m1.2.1.2.2.1) ?_)
      · have e2 : a = 46 + 2 := e
        show 46 ≤ a ∧ a ≤ 71
        omega
      · have e2 : a = 46 ∧ (j = 0 ∨ j = 2) := e
        exact e2.1
      · have e2 : a = 46 ∧ (j = 0 ∨ j = 2) := e
        obtain ⟨rfl, rfl | rfl⟩ := e2
        · exact Or.inl (SY0 46)
        · exact Or.inr ⟨rfl, Or.inl rfl⟩
      · obtain ⟨bd, hbd⟩ := m1.2.1.2.2.2
        exact ⟨bd, t6.trans hbd⟩
  · exact StD.ok s mg (by decide) (cok_of (c_K_feed_no hst kg.1.1 kg.2.1.2.1 kg.2.1.1 ht gt6 p1 p2 p3 p4 p5)) (fun h1 m1 => mok_of (c_M_feed_no hst m1.1 m1.2.1.2.1 m1.2.1.1 ht gt6 p1 p2 p3 p4 p5))
