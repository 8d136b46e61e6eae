/-! ===== undo, image, restore ===== -/
def mdX (la : Nat) : Nat → Prop := fun a => a = la + 1
def mdY : Nat → Nat → Prop := fun a j => (a = 0 ∧ (j = 8 ∨ j = 10 ∨ j = 11)) ∨ a = 28
theorem mdX1 {la : Nat} : mdX la (la + 1) := rfl
theorem mdY8 : mdY 0 8 := Or.inl ⟨rfl, Or.inl rfl⟩
theorem mdY11 : mdY 0 11 := Or.inl ⟨rfl, Or.inr (Or.inr rfl)⟩
theorem mdP {h h9 : PH} {la : Nat} (hla : la = 3 ∨ la = 5) (q : SmN (mdX la) mdY h h9) {v : Value} {x : List (Nat → Int32)} (e : PsC h v x) : PsC h9 v x :=
  e.gen q (fun a z => by have z2 : a = la + 1 := z; omega) (fun a j z => by have z2 : (a = 0 ∧ (j = 8 ∨ j = 10 ∨ j = 11)) ∨ a = 28 := z; omega)
theorem KG.mid {h h9 : PH} {la lw bk : Nat} {c : CSt} {f : Nat → Int32} {ps : List (Nat → Int32)} {ims : List (List (Nat → Int32))} {rs : Int32} (k : KG h la lw bk c) (q : SmN (mdX la) mdY h h9) (hN : 72 < hp_N h) (hl : hp_I h9 (la + 1) = f) (hp : KP h9 ps ims) (hr : hp_F h9 0 11 = .int rs) : KG h9 la lw bk (c.1, (c.2.1.1, c.2.1.2.1, f), c.2.2.1, c.2.2.2.1, (ps, ims), (rs, c.2.2.2.2.2.2)) := by
  obtain ⟨hS, ⟨t1, t2, t3⟩, hL, hW, hB, -, c1, c2, c3⟩ := k
  have hla := hS.1.la
  have hlw := hS.1.lw
  have hbk := hS.1.bk
  have nX : ∀ a, a ≠ la + 1 → ¬ mdX la a := fun a h1 e => h1 e
  have nY : ∀ a j, a ≠ 28 → (a ≠ 0 ∨ (j ≠ 8 ∧ j ≠ 10 ∧ j ≠ 11)) → ¬ mdY a j := fun a j h1 h2 e => by
    have e2 : (a = 0 ∧ (j = 8 ∨ j = 10 ∨ j = 11)) ∨ a = 28 := e
    omega
  have F : ∀ a j, a ≠ 28 → (a ≠ 0 ∨ (j ≠ 8 ∧ j ≠ 10 ∧ j ≠ 11)) → a ≤ 72 → hp_F h9 a j = hp_F h a j := fun a j h1 h2 h3 => q.2.2.1 a j (by omega) (nY a j h1 h2)
  refine ⟨hS.gen q hN (fun a j z => ?_) (fun a h1 => nX a (by omega)) (fun a j h1 => nY a j (by omega) (by omega)), ⟨(q.2.2.2.1 2 (by omega) (nX 2 (by omega))).trans t1, (F 1 1 (by omega) (by omega) (by omega)).trans t2, (F 1 5 (by omega) (by omega) (by omega)).trans t3⟩, ⟨(q.2.1 la (by omega)).trans hL.1, (q.2.1 (la + 1) (by omega)).trans hL.2.1, (F la 0 (by omega) (by omega) (by omega)).trans hL.2.2.1, (F la 1 (by omega) (by omega) (by omega)).trans hL.2.2.2.1, (F la 2 (by omega) (by omega) (by omega)).trans hL.2.2.2.2.1, hl, hL.2.2.2.2.2.2⟩, hW.smn q (by omega) (nX _ (by omega)) (nX _ (by omega)) (fun j => nY _ _ (by omega) (by omega)), hB.smn q (by omega) (nX _ (by omega)) (nX _ (by omega)) (fun j => nY _ _ (by omega) (by omega)), hp, hr, (F 0 12 (by omega) (by omega) (by omega)).trans c2, (F 0 13 (by omega) (by omega) (by omega)).trans c3⟩
  have z2 : (a = 0 ∧ (j = 8 ∨ j = 10 ∨ j = 11)) ∨ a = 28 := z
  unfold yB
  omega
theorem RowOK.eqr {f g : Nat → Int32} {np : Nat} (h : RowOK g np) (e : ∀ i, i < 190 → f i = g i) : RowOK f np :=
  ⟨fun n hn => by rw [e n (by omega)]; exact h.1 n hn, fun n hn => by rw [e (61 + n) (by omega)]; exact h.2.1 n hn, fun q hq => by rw [e (183 + q) (by omega)]; exact h.2.2.1 q hq, by rw [e 189 (by omega)]; exact h.2.2.2⟩
def cpR (g f : Nat → Int32) : Nat → Int32 := fun i => if i < 190 then g i else f i
theorem cpR_e (g f : Nat → Int32) : ∀ i, i < 190 → cpR g f i = g i := fun i hi => if_pos hi
theorem cpR_z {g f : Nat → Int32} (h : RowZ f) : RowZ (cpR g f) := fun i hi => (if_neg (by omega)).trans (h i hi)
theorem c_K_undoP {l : Launch} {Z : EE} (hst : l.stackTraces = false) {h : PH} {la lw bk : Nat} (hC : CL h la lw bk) {np du : Nat} {f : Nat → Int32} (hL : LandAt h la np du f) {g : Nat → Int32} {ps : List (Nat → Int32)} (hp : PsC h (hp_F h 0 8) (g :: ps)) : ∃ w : Value, PsC h w ps ∧ CC l Z m_X10_undo 2 0 0 [.ref 0] h (RT (some (.int (nI ps.length))) (hp_sF (hp_sF (hp_sI h (la + 1) (cpR g f)) 0 8 w) 0 11 (.int (nI 0)))) := by
  obtain ⟨a, r, e, ⟨a72, aN, r72, rN⟩, k1, k2, f0, f2, i1, t⟩ := hp
  subst i1
  refine ⟨hp_F h a 1, t, ?_⟩
  cases ps with
  | nil =>
    have t1 : hp_F h a 1 = .null := t
    rw [t1]
    exact c_K_undo0 hst hC hL a72 e k1 k2 f0 t1
  | cons g2 ps2 =>
    obtain ⟨b, r2, e2, ⟨b72, -⟩, kb, -, -, fb, -⟩ := t
    rw [e2]
    exact c_K_undo1 hst hC hL a72 e k1 k2 f0 e2 b72 kb fb
theorem q_undo {l : Launch} {Z : EE} (hst : l.stackTraces = false) (j : Nat) (h : PH) (s : SG (j + 1) h) : StD l Z m_X10_undo m_X11_undo 60 2 193 [] (GG j) h := by
  obtain ⟨c, la, lw, bk, kg, mg, g, o1, o2, o3⟩ := id s
  obtain ⟨tt, ⟨np, du, f⟩, lwt, bkt, ⟨ps, ims⟩, ⟨rs, miwr⟩⟩ := c
  have hC := kg.1.1
  have hla := hC.la
  have hL := kg.2.2.1
  cases ps with
  | nil => exact StD.ok s mg (by decide) (cok_of (c_K_undo_no hst hC kg.2.2.2.2.2.1.1)) (fun h1 m1 => mok_of (c_M_undo_no hst m1.1 m1.2.2.2.2.2.1.1))
  | cons g0 ps =>
    obtain ⟨w, hw, cK⟩ := c_K_undoP (l := l) (Z := Z) hst hC hL kg.2.2.2.2.2.1.1
    obtain ⟨gt, ⟨gz, gr⟩, gl, gb, gp, gps, gi, gis⟩ := g
    have hps : ps.length + 1 ≤ 16 := gp
    refine StD.st (d1 := 2) (mc1 := 0) (ms1 := 0) (d2 := 0) (la := la) (lw := lw) (bk := bk) (c := (tt, (np, du, f), lwt, bkt, (g0 :: ps, ims), (rs, miwr))) (c2 := (tt, (np, du, cpR g0 f), lwt, bkt, (ps, ims), (nI 0, miwr))) (by decide) ⟨gt, ⟨cpR_z gz, (gps g0 (List.mem_cons_self ..)).eqr (cpR_e g0 f)⟩, gl, gb, by show ps.length ≤ 16; omega, fun x hx => gps x (List.mem_cons_of_mem _ hx), gi, gis⟩ cK (fun h1 q1 => ?_) (fun h1 m1 => cc_post (fun r h2 e => ⟨e.1, ?_⟩) (c_M_undo hst (wk := ps.length + 1) m1.1 m1.2.2.2.2.2.1.1 (by omega) hps m1.2.2.1.2.2 rfl))
    · have q1' : h1 = hp_sF (hp_sF (hp_sI h (la + 1) (cpR g0 f)) 0 8 w) 0 11 (.int (nI 0)) := q1
      subst q1'
      have q : Same (mdX la) mdY h (hp_sF (hp_sF (hp_sI h (la + 1) (cpR g0 f)) 0 8 w) 0 11 (.int (nI 0))) := ((Same.rf.sI mdX1).sF mdY8).sF mdY11
      have qs := SmN.of q
      have i3 := kg.2.2.2.2.2.1.2.2
      refine ⟨kg.mid qs o2 (hp_I_sF (hp_I_sF (hp_I_eq _ _ _))) ⟨?_, hp_F_nj (by decide) (hp_F_nj (by decide) (hp_F_sI kg.2.2.2.2.2.1.2.1)), ImC.old (fun v x e => mdP hla qs e) _ (fun j _ => hp_F_na (by decide) (hp_F_na (by decide) rfl)) i3⟩ (hp_F_eq _ _ _ _), mg.fr (q.frM (fun a e => Or.inr (Or.inl (by have e2 : a = la + 1 := e; omega))) (fun a j e => Or.inr (Or.inl (by have e2 : (a = 0 ∧ (j = 8 ∨ j = 10 ∨ j = 11)) ∨ a = 28 := e; omega)))) o2, (q.2.1 72).trans o1, o2, ?_⟩
      · rw [show hp_F (hp_sF (hp_sF (hp_sI h (la + 1) (cpR g0 f)) 0 8 w) 0 11 (.int (nI 0))) 0 8 = w from hp_F_nj (by decide) (hp_F_eq _ _ _ _)]
        exact mdP hla qs hw
      · show hp_N h + 2 * j ≤ 900000
        omega
    · obtain ⟨-, e2⟩ := e
      have hpm := m1.2.2.2.2.2.1
      have hpf : ∀ i, i < 190 → hp_I h1 62 (190 * ps.length + i) = g0 i := hpm.2.1.1
      have hf : hp_I h1 60 = f := m1.2.2.1.2.2
      have er : ofF (hp_I h1 62) (190 * ps.length) f 190 = cpR g0 f := by
        funext i
        unfold ofF cpR
        by_cases hi : i < 190
        · rw [if_pos hi, if_pos hi]; exact hpf i hi
        · rw [if_neg hi, if_neg hi]
      have e3 : h2 = hp_sF (hp_sI (hp_sF (hp_sF h1 46 0 (.int (nI 0))) 46 28 (.int (nI ps.length))) 60 (ofF (hp_I h1 62) (190 * ps.length) f 190)) 46 29 (.int (nI 0)) := e2
      rw [er] at e3
      subst e3
      have q : ∀ {X : Nat → Prop} {Y : Nat → Nat → Prop}, X 60 → Y 46 0 → Y 46 28 → Y 46 29 → Same X Y h1 (hp_sF (hp_sI (hp_sF (hp_sF h1 46 0 (.int (nI 0))) 46 28 (.int (nI ps.length))) 60 (cpR g0 f)) 46 29 (.int (nI 0))) := fun x1 y1 y2 y3 => (((Same.rf.sF y1).sF y2).sI x1).sF y3
      refine MR.of (q ⟨by decide, by decide⟩ rfl rfl rfl) (m1.mid (q (Or.inl rfl) ⟨rfl, Or.inl rfl⟩ ⟨rfl, Or.inr (Or.inl rfl)⟩ ⟨rfl, Or.inr (Or.inr (Or.inl rfl))⟩) (hp_I_sF (hp_I_eq _ _ _)) ⟨hp_F_nj (by decide) (hp_F_sI (hp_F_eq _ _ _ _)), ?_, hp_F_nj (by decide) (hp_F_sI (hp_F_nj (by decide) (hp_F_nj (by decide) hpm.2.2.1))), ?_⟩ (hp_F_eq _ _ _ _))
      · rw [show hp_I (hp_sF (hp_sI (hp_sF (hp_sF h1 46 0 (.int (nI 0))) 46 28 (.int (nI ps.length))) 60 (cpR g0 f)) 46 29 (.int (nI 0))) 62 = hp_I h1 62 from hp_I_sF ((hp_I_ne (by decide)).trans rfl)]
        exact hpm.2.1.2
      · rw [show hp_I (hp_sF (hp_sI (hp_sF (hp_sF h1 46 0 (.int (nI 0))) 46 28 (.int (nI ps.length))) 60 (cpR g0 f)) 46 29 (.int (nI 0))) 71 = hp_I h1 71 from hp_I_sF ((hp_I_ne (by decide)).trans rfl)]
        exact hpm.2.2.2
/-! ===== image ===== -/
def imH (h : PH) (f : Nat → Int32) (w : Value) (k im : Nat) : PH := hp_sF (hp_sF (hp_sF (hp_sF (hp_sF (hp_new (hp_new h 4 3 (vp_V [.null, .null, .int 0]) (fun _ => 0) (fun _ => 0)) 20 190 (fun _ => .null) f (fun _ => 0)) (hp_N h) 0 (.ref (hp_N h + 1))) (hp_N h) 1 w) (hp_N h) 2 (.int (nI (k + 1)))) 28 im (.ref (hp_N h))) 0 10 (.int (nI (im + 1)))
theorem imH_N (h : PH) (f : Nat → Int32) (w : Value) (k im : Nat) : hp_N (imH h f w k im) = hp_N h + 2 := rfl
theorem imH_s {h : PH} {f : Nat → Int32} {w : Value} {k im : Nat} : SmN (fun _ => False) (fun a j => (a = 28 ∧ j = im) ∨ (a = 0 ∧ j = 10)) h (imH h f w k im) := by
  have q1 : SmN (fun _ => False) (fun a j => (a = 28 ∧ j = im) ∨ (a = 0 ∧ j = 10)) h (hp_new (hp_new h 4 3 (vp_V [.null, .null, .int 0]) (fun _ => 0) (fun _ => 0)) 20 190 (fun _ => .null) f (fun _ => 0)) := (SmN.rf.nw _ _ _ _ _).nw _ _ _ _ _
  have q2 := ((q1.sF (b := hp_N h) (k := 0) (v := .ref (hp_N h + 1)) (Or.inr (Nat.le_refl _))).sF (b := hp_N h) (k := 1) (v := w) (Or.inr (Nat.le_refl _))).sF (b := hp_N h) (k := 2) (v := .int (nI (k + 1))) (Or.inr (Nat.le_refl _))
  exact (q2.sF (b := 28) (k := im) (v := .ref (hp_N h)) (Or.inl (Or.inl ⟨rfl, rfl⟩))).sF (b := 0) (k := 10) (v := .int (nI (im + 1))) (Or.inl (Or.inr ⟨rfl, rfl⟩))
theorem imH_q {h : PH} {f : Nat → Int32} {w : Value} {k im la : Nat} : SmN (mdX la) mdY h (imH h f w k im) :=
  imH_s.mono (fun _ e => e.elim) (fun a j e => by
    have e2 : (a = 28 ∧ j = im) ∨ (a = 0 ∧ j = 10) := e
    unfold mdY
    omega)
theorem imH_o {h : PH} {f : Nat → Int32} {w : Value} {k im a j : Nat} (ha : a < hp_N h) (h1 : (a ≠ 28 ∨ j ≠ im) ∧ (a ≠ 0 ∨ j ≠ 10)) : hp_F (imH h f w k im) a j = hp_F h a j := imH_s.2.2.1 a j ha (fun e => by
  have e2 : (a = 28 ∧ j = im) ∨ (a = 0 ∧ j = 10) := e
  omega)
/-- the image: a row of pasts of its own -/
theorem imH_P {h : PH} {f : Nat → Int32} {w : Value} {im : Nat} {ps : List (Nat → Int32)} (hN : 72 < hp_N h) (hw : PsC h w ps) : PsC (imH h f w ps.length im) (.ref (hp_N h)) (f :: ps) := by
  have hla : (3 : Nat) = 3 ∨ (3 : Nat) = 5 := Or.inl rfl
  have hF : ∀ j v, j < 3 → hp_F (hp_sF (hp_sF (hp_sF (hp_new (hp_new h 4 3 (vp_V [.null, .null, .int 0]) (fun _ => 0) (fun _ => 0)) 20 190 (fun _ => .null) f (fun _ => 0)) (hp_N h) 0 (.ref (hp_N h + 1))) (hp_N h) 1 w) (hp_N h) 2 (.int (nI (ps.length + 1)))) (hp_N h) j = v → hp_F (imH h f w ps.length im) (hp_N h) j = v := fun j v _ e => hp_F_na (by omega) (hp_F_na (by omega) e)
  have e1 : hp_F (imH h f w ps.length im) (hp_N h) 1 = w := hF 1 _ (by decide) (hp_F_nj (by decide) (hp_F_eq _ _ _ _))
  refine ⟨hp_N h, hp_N h + 1, rfl, ⟨hN, by rw [imH_N]; omega, by omega, by rw [imH_N]; omega⟩, ?_, ?_, hF 0 _ (by decide) (hp_F_nj (by decide) (hp_F_nj (by decide) (hp_F_eq _ _ _ _))), hF 2 _ (by decide) (hp_F_eq _ _ _ _), ?_, ?_⟩
  · show (if hp_N h = hp_N h + 1 then ((20, 190) : Nat × Nat) else if hp_N h = hp_N h then (4, 3) else hp_K h (hp_N h)) = (4, 3)
    rw [if_neg (by omega), if_pos rfl]
  · show (if hp_N h + 1 = hp_N h + 1 then ((20, 190) : Nat × Nat) else _) = (20, 190)
    rw [if_pos rfl]
  · show (if hp_N h + 1 = hp_N h + 1 then f else _) = f
    rw [if_pos rfl]
  · rw [e1]
    exact mdP hla (imH_q (la := 3)) hw
theorem c_K_imageP {l : Launch} {Z : EE} (hst : l.stackTraces = false) {h : PH} {la lw bk : Nat} (hC : CL h la lw bk) {np du : Nat} {f : Nat → Int32} (hL : LandAt h la np du f) {im : Nat} (hN1 : 72 < hp_N h) (hN2 : hp_N h < 999990) (him : hp_F h 0 10 = .int (nI im)) (him3 : im < 3) {ps : List (Nat → Int32)} (hp : PsC h (hp_F h 0 8) ps) : CC l Z m_X10_image 2 2 193 [.ref 0] h (RT (some (.int (nI (im + 1)))) (imH h f (hp_F h 0 8) ps.length im)) := by
  cases ps with
  | nil =>
    have t1 : hp_F h 0 8 = .null := hp
    rw [t1]
    exact c_K_image0 hst hC hL hN1 hN2 t1 him him3
  | cons g2 ps2 =>
    obtain ⟨b, r2, e2, ⟨b72, bN, -⟩, kb, -, -, fb, -⟩ := hp
    rw [e2]
    exact c_K_image1 hst hC hL hN1 hN2 e2 him him3 bN kb fb
theorem q_image {l : Launch} {Z : EE} (hst : l.stackTraces = false) (j : Nat) (h : PH) (s : SG (j + 1) h) : StD l Z m_X10_image m_X11_image 60 2 193 [] (GG j) h := by
  obtain ⟨c, la, lw, bk, kg, mg, g, o1, o2, o3⟩ := id s
  obtain ⟨tt, ⟨np, du, f⟩, lwt, bkt, ⟨ps, ims⟩, ⟨rs, miwr⟩⟩ := c
  have hC := kg.1.1
  have hla := hC.la
  have hL := kg.2.2.1
  have him := kg.2.2.2.2.2.1.2.1
  have hpc := kg.2.2.2.2.2.1.1
  obtain ⟨gt, ⟨gz, gr⟩, gl, gb, gp, gps, gi, gis⟩ := id g
  have gi3 : ims.length ≤ 3 := gi
  have gp16 : ps.length ≤ 16 := gp
  by_cases hi : ims.length < 3
  · have cK := c_K_imageP (l := l) (Z := Z) hst hC hL o2 (by omega) him hi hpc
    refine StD.st (d1 := 2) (mc1 := 2) (ms1 := 193) (d2 := 2) (la := la) (lw := lw) (bk := bk) (c := (tt, (np, du, f), lwt, bkt, (ps, ims), (rs, miwr))) (c2 := (tt, (np, du, f), lwt, bkt, (ps, (f :: ps) :: ims), (rs, miwr))) (by decide) ⟨gt, ⟨gz, gr⟩, gl, gb, gp, gps, by show ims.length + 1 ≤ 3; omega, fun x hx => ?_⟩ cK (fun h1 q1 => ?_) (fun h1 m1 => cc_post (fun r h2 e => ⟨e.1, ?_⟩) (c_M_image hst m1.1 m1.2.2.2.2.2.1.2.2.1 m1.2.2.1.2.2 rfl rfl hi m1.2.2.2.2.2.1.1))
    · rcases List.mem_cons.mp hx with rfl | hx
      · refine ⟨by show ps.length + 1 ≤ 17; omega, fun y hy => ?_⟩
        rcases List.mem_cons.mp hy with rfl | hy
        · exact gr
        · exact gps y hy
      · exact gis x hx
    · have q1' : h1 = imH h f (hp_F h 0 8) ps.length ims.length := q1
      subst q1'
      have q := imH_q (h := h) (f := f) (w := hp_F h 0 8) (k := ps.length) (im := ims.length) (la := la)
      have hP : ∀ (v : Value) (x : List (Nat → Int32)), PsC h v x → PsC (imH h f (hp_F h 0 8) ps.length ims.length) v x := fun v x e => mdP hla q e
      have e28 : hp_F (imH h f (hp_F h 0 8) ps.length ims.length) 28 ims.length = .ref (hp_N h) := hp_F_na (by omega) (hp_F_eq _ _ _ _)
      refine ⟨kg.mid q o2 ((imH_s.2.2.2.1 (la + 1) (by omega) (fun e => e)).trans hL.2.2.2.2.2.1) ⟨?_, hp_F_eq _ _ _ _, ⟨?_, (fun z => nomatch z), ImC.old hP ims (fun j (hj : j < ims.length) => imH_o (by omega) (by omega)) kg.2.2.2.2.2.1.2.2⟩⟩ ((imH_o (by omega) (by omega)).trans kg.2.2.2.2.2.2.1), mg.fr (imH_s.mono (fun _ e => e.elim) (fun a j e => Or.inr (Or.inl ?_))) o2, (imH_s.2.1 72 (by omega)).trans o1, by rw [imH_N]; omega, by rw [imH_N]; omega⟩
      · rw [imH_o (by omega) (by omega)]
        exact hP _ _ hpc
      · rw [e28]
        exact imH_P o2 hpc
      · have e2 : (a = 28 ∧ j = ims.length) ∨ (a = 0 ∧ j = 10) := e
        omega
    · obtain ⟨-, e2⟩ := e
      have hpm := m1.2.2.2.2.2.1
      have hf : hp_I h1 60 = f := m1.2.2.1.2.2
      obtain ⟨I9, eI⟩ : ∃ I9, I9 = upd (toF (hp_I h1 62) (3231 * ims.length + 190) (toF f (3231 * ims.length) (hp_I h1 71) 190) 3040) (3231 * ims.length + 190 + 3040) (nI ps.length) := ⟨_, rfl⟩
      have e3 : h2 = hp_sF (hp_sI (hp_sF h1 46 0 (.int (nI 0))) 71 I9) 46 52 (.int (nI (ims.length + 1))) := by rw [eI]; exact e2
      subst e3
      have q : ∀ {X : Nat → Prop} {Y : Nat → Nat → Prop}, X 71 → Y 46 0 → Y 46 52 → Same X Y h1 (hp_sF (hp_sI (hp_sF h1 46 0 (.int (nI 0))) 71 I9) 46 52 (.int (nI (ims.length + 1)))) := fun x1 y1 y2 => ((Same.rf.sF y1).sI x1).sF y2
      have J1 : ∀ i, i < 190 → I9 (3231 * ims.length + i) = f i := fun i hi => by
        rw [eI, pk_un (by omega)]
        unfold toF
        rw [if_neg (by omega), if_pos (by omega), Nat.add_sub_cancel_left]
      have J2 : ∀ i, i < 3040 → I9 (3231 * ims.length + 190 + i) = hp_I h1 62 i := fun i hi => by
        rw [eI, pk_un (by omega)]
        unfold toF
        rw [if_pos (by omega), Nat.add_sub_cancel_left]
      have J3 : I9 (3231 * ims.length + 190 + 3040) = nI ps.length := by rw [eI, pk_us]
      have J4 : ∀ i, i < 3231 * ims.length → I9 i = hp_I h1 71 i := fun i hi => by
        rw [eI, pk_un (by omega)]
        unfold toF
        rw [if_neg (by omega), if_neg (by omega)]
      refine MR.of (q ⟨by decide, by decide⟩ rfl rfl) (m1.mid (q (Or.inr (Or.inr rfl)) ⟨rfl, Or.inl rfl⟩ ⟨rfl, Or.inr (Or.inr (Or.inr rfl))⟩) (hp_I_sF ((hp_I_ne (by decide)).trans hf)) ⟨hp_F_nj (by decide) (hp_F_sI (hp_F_nj (by decide) hpm.1)), ?_, hp_F_eq _ _ _ _, ?_⟩ (hp_F_nj (by decide) (hp_F_sI (hp_F_nj (by decide) m1.2.2.2.2.2.2.1))))
      · rw [show hp_I (hp_sF (hp_sI (hp_sF h1 46 0 (.int (nI 0))) 71 I9) 46 52 (.int (nI (ims.length + 1)))) 62 = hp_I h1 62 from hp_I_sF ((hp_I_ne (by decide)).trans rfl)]
        exact hpm.2.1
      · rw [show hp_I (hp_sF (hp_sI (hp_sF h1 46 0 (.int (nI 0))) 71 I9) 46 52 (.int (nI (ims.length + 1)))) 71 = I9 from hp_I_sF (hp_I_eq _ _ _)]
        exact ⟨⟨f, ps, rfl, J1, PsM.congr ps (fun i hi => J2 i (by omega)) hpm.2.1, J3⟩, ImM.congr ims (fun x hx => (gis x hx).1) J4 hpm.2.2.2⟩
  · have h3 : ims.length = 3 := by omega
    have him2 : hp_F h 0 10 = .int (nI 3) := by rw [← h3]; exact him
    exact StD.ok s mg (by decide) (cok_of (c_K_image_no hst hC him2)) (fun h1 m1 => mok_of (c_M_image_no hst m1.1 (by rw [← h3]; exact m1.2.2.2.2.2.1.2.2.1)))
/-! ===== restore ===== -/
theorem c_K_restoreP {l : Launch} {Z : EE} (hst : l.stackTraces = false) {h : PH} {la lw bk : Nat} (hC : CL h la lw bk) {np du : Nat} {f : Nat → Int32} (hL : LandAt h la np du f) {im : Nat} (him : hp_F h 0 10 = .int (nI (im + 1))) (him3 : im + 1 ≤ 3) {g : Nat → Int32} {ps : List (Nat → Int32)} (hp : PsC h (hp_F h 28 im) (g :: ps)) : ∃ w : Value, PsC h w ps ∧ CC l Z m_X10_restore 2 0 0 [.ref 0] h (RQ (some (.int (nI im))) (fun h9 => Same (fun _ => False) (fun a j => (a = 28 ∧ im ≤ j ∧ j < 3) ∨ (a = 0 ∧ j = 10)) (hp_sF (hp_sF (hp_sI h (la + 1) (cpR g f)) 0 8 w) 0 11 (.int (nI 0))) h9 ∧ hp_F h9 0 10 = .int (nI im))) := by
  obtain ⟨a, r, e, ⟨a72, aN, r72, rN⟩, k1, k2, f0, f2, i1, t⟩ := hp
  subst i1
  refine ⟨hp_F h a 1, t, ?_⟩
  cases ps with
  | nil =>
    have t1 : hp_F h a 1 = .null := t
    rw [t1]
    exact c_K_restore0 hst hC hL a72 him (by omega) him3 e k1 k2 f0 t1
  | cons g2 ps2 =>
    obtain ⟨b, r2, e2, -⟩ := t
    rw [e2]
    exact c_K_restore1 hst hC hL a72 him (by omega) him3 e k1 k2 f0 e2
theorem q_restore {l : Launch} {Z : EE} (hst : l.stackTraces = false) (j : Nat) (h : PH) (s : SG (j + 1) h) : StD l Z m_X10_restore m_X11_restore 60 2 193 [] (GG j) h := by
  obtain ⟨c, la, lw, bk, kg, mg, g, o1, o2, o3⟩ := id s
  obtain ⟨tt, ⟨np, du, f⟩, lwt, bkt, ⟨ps0, ims⟩, ⟨rs, miwr⟩⟩ := c
  have hC := kg.1.1
  have hla := hC.la
  have hL := kg.2.2.1
  have him := kg.2.2.2.2.2.1.2.1
  obtain ⟨gt, ⟨gz, gr⟩, gl, gb, gp, gps, gi, gis⟩ := id g
  cases ims with
  | nil => exact StD.ok s mg (by decide) (cok_of (c_K_restore_no hst hC him)) (fun h1 m1 => mok_of (c_M_restore_no hst m1.1 m1.2.2.2.2.2.1.2.2.1))
  | cons x ims =>
    have gi3 : ims.length + 1 ≤ 3 := gi
    obtain ⟨ix1, ix2, ix3⟩ := kg.2.2.2.2.2.1.2.2
    cases x with
    | nil => exact absurd rfl ix2
    | cons g0 ps =>
      obtain ⟨w, hw, cK⟩ := c_K_restoreP (l := l) (Z := Z) hst hC hL him gi3 ix1
      have gx := gis (g0 :: ps) (List.mem_cons_self ..)
      have hps : ps.length ≤ 16 := by
        have h5 : ps.length + 1 ≤ 17 := gx.1
        omega
      refine StD.st (d1 := 2) (mc1 := 0) (ms1 := 0) (d2 := 2) (la := la) (lw := lw) (bk := bk) (c := (tt, (np, du, f), lwt, bkt, (ps0, (g0 :: ps) :: ims), (rs, miwr))) (c2 := (tt, (np, du, cpR g0 f), lwt, bkt, (ps, ims), (nI 0, miwr))) (by decide) ⟨gt, ⟨cpR_z gz, (gx.2 g0 (List.mem_cons_self ..)).eqr (cpR_e g0 f)⟩, gl, gb, hps, fun y hy => gx.2 y (List.mem_cons_of_mem _ hy), by show ims.length ≤ 3; omega, fun y hy => gis y (List.mem_cons_of_mem _ hy)⟩ cK (fun h1 q1 => ?_) (fun h1 m1 => cc_post (fun r h2 e => ⟨e.1, ?_⟩) (c_M_restore hst (im := ims.length + 1) m1.1 m1.2.2.2.2.2.1.2.2.1 m1.2.2.1.2.2 rfl rfl (by omega) gi3))
      · obtain ⟨qa, t10⟩ := q1
        have qb : Same (mdX la) mdY h (hp_sF (hp_sF (hp_sI h (la + 1) (cpR g0 f)) 0 8 w) 0 11 (.int (nI 0))) := ((Same.rf.sI mdX1).sF mdY8).sF mdY11
        have qc : Same (mdX la) mdY h h1 := qb.tr (qa.mono (fun _ e => e.elim) (fun a j e => by
          have e2 : (a = 28 ∧ ims.length ≤ j ∧ j < 3) ∨ (a = 0 ∧ j = 10) := e
          unfold mdY
          omega))
        have q := SmN.of qc
        have n1 : hp_N h1 = hp_N h := qc.1
        have G : ∀ a j, ¬ ((a = 28 ∧ ims.length ≤ j ∧ j < 3) ∨ (a = 0 ∧ j = 10)) → hp_F h1 a j = hp_F (hp_sF (hp_sF (hp_sI h (la + 1) (cpR g0 f)) 0 8 w) 0 11 (.int (nI 0))) a j := fun a j e => qa.2.2.1 a j e
        refine ⟨kg.mid q o2 ((qa.2.2.2.1 (la + 1) (fun e => e)).trans (hp_I_sF (hp_I_sF (hp_I_eq _ _ _)))) ⟨?_, t10, ImC.old (fun v x e => mdP hla q e) _ (fun j hj => (G 28 j (by omega)).trans (hp_F_na (by decide) (hp_F_na (by decide) rfl))) ix3⟩ ((G 0 11 (by omega)).trans (hp_F_eq _ _ _ _)), mg.fr (qc.frM (fun a e => Or.inr (Or.inl (by have e2 : a = la + 1 := e; omega))) (fun a j e => Or.inr (Or.inl (by have e2 : (a = 0 ∧ (j = 8 ∨ j = 10 ∨ j = 11)) ∨ a = 28 := e; omega)))) o2, (qc.2.1 72).trans o1, by omega, by omega⟩
        rw [show hp_F h1 0 8 = w from (G 0 8 (by omega)).trans (hp_F_nj (by decide) (hp_F_eq _ _ _ _))]
        exact mdP hla q hw
      · obtain ⟨-, e2⟩ := e
        have hpm := m1.2.2.2.2.2.1
        obtain ⟨⟨g1, ps1, ex, m2, m3, m4⟩, m5⟩ := hpm.2.2.2
        cases ex
        have er : ofF (hp_I h1 71) (3231 * ims.length) f 190 = cpR g0 f := by
          funext i
          unfold ofF cpR
          by_cases hi : i < 190
          · rw [if_pos hi, if_pos hi]; exact m2 i hi
          · rw [if_neg hi, if_neg hi]
        obtain ⟨P9, eP⟩ : ∃ P9, P9 = ofF (hp_I h1 71) (3231 * ims.length + 190) (hp_I h1 62) 3040 := ⟨_, rfl⟩
        have J2 : ∀ i, i < 3040 → P9 i = hp_I h1 71 (3231 * ims.length + 190 + i) := fun i hi => by
          rw [eP]
          unfold ofF
          rw [if_pos hi]
        have e3 : h2 = hp_sF (hp_sF (hp_sI (hp_sI (hp_sF (hp_sF h1 46 0 (.int (nI 0))) 46 52 (.int (nI ims.length))) 60 (ofF (hp_I h1 71) (3231 * ims.length) f 190)) 62 (ofF (hp_I h1 71) (3231 * ims.length + 190) (hp_I h1 62) 3040)) 46 28 (.int (hp_I h1 71 (3231 * ims.length + 190 + 3040)))) 46 29 (.int (nI 0)) := e2
        rw [er, ← eP, m4] at e3
        subst e3
        have q : ∀ {X : Nat → Prop} {Y : Nat → Nat → Prop}, X 60 → X 62 → Y 46 0 → Y 46 52 → Y 46 28 → Y 46 29 → Same X Y h1 (hp_sF (hp_sF (hp_sI (hp_sI (hp_sF (hp_sF h1 46 0 (.int (nI 0))) 46 52 (.int (nI ims.length))) 60 (cpR g0 f)) 62 P9) 46 28 (.int (nI ps.length))) 46 29 (.int (nI 0))) := fun x1 x2 y1 y2 y3 y4 => (((((Same.rf.sF y1).sF y2).sI x1).sI x2).sF y3).sF y4
        refine MR.of (q ⟨by decide, by decide⟩ ⟨by decide, by decide⟩ rfl rfl rfl rfl) (m1.mid (q (Or.inl rfl) (Or.inr (Or.inl rfl)) ⟨rfl, Or.inl rfl⟩ ⟨rfl, Or.inr (Or.inr (Or.inr rfl))⟩ ⟨rfl, Or.inr (Or.inl rfl)⟩ ⟨rfl, Or.inr (Or.inr (Or.inl rfl))⟩) (hp_I_sF (hp_I_sF ((hp_I_ne (by decide)).trans (hp_I_eq _ _ _)))) ⟨hp_F_nj (by decide) (hp_F_eq _ _ _ _), ?_, hp_F_nj (by decide) (hp_F_nj (by decide) (hp_F_sI (hp_F_sI (hp_F_eq _ _ _ _)))), ?_⟩ (hp_F_eq _ _ _ _))
        · rw [show hp_I (hp_sF (hp_sF (hp_sI (hp_sI (hp_sF (hp_sF h1 46 0 (.int (nI 0))) 46 52 (.int (nI ims.length))) 60 (cpR g0 f)) 62 P9) 46 28 (.int (nI ps.length))) 46 29 (.int (nI 0))) 62 = P9 from hp_I_sF (hp_I_sF (hp_I_eq _ _ _))]
          exact PsM.congr ps (fun i hi => J2 i (by omega)) m3
        · rw [show hp_I (hp_sF (hp_sF (hp_sI (hp_sI (hp_sF (hp_sF h1 46 0 (.int (nI 0))) 46 52 (.int (nI ims.length))) 60 (cpR g0 f)) 62 P9) 46 28 (.int (nI ps.length))) 46 29 (.int (nI 0))) 71 = hp_I h1 71 from hp_I_sF (hp_I_sF ((hp_I_ne (by decide)).trans ((hp_I_ne (by decide)).trans rfl)))]
          exact m5
