/-! ===== what the two have in common between two steps of the script ===== -/
/-- the class's own cells, and what it made later, stay as they are, but its scratch -/
abbrev okX : Nat → Prop := fun a => CX a ∨ (46 ≤ a ∧ a ≤ 72)
abbrev okY : Nat → Nat → Prop := fun a j => CY a j ∨ (46 ≤ a ∧ a ≤ 72)
def FrK (h h' : PH) : Prop := SmN okX okY h h'
/-- the reference's cells stay as they are, but its scratch -/
def omX : Nat → Prop := fun a => SX 46 a ∨ a < 46 ∨ 72 ≤ a
def omY : Nat → Nat → Prop := fun a j => SY 46 a j ∨ a < 46 ∨ 72 ≤ a
def FrM (h h' : PH) : Prop := SmN omX omY h h'
theorem Same.frK {X : Nat → Prop} {Y : Nat → Nat → Prop} {h h' : PH} (s : Same X Y h h') (hX : ∀ a, X a → okX a) (hY : ∀ a j, Y a j → okY a j) : FrK h h' := (SmN.of s).mono hX hY
theorem Same.frM {X : Nat → Prop} {Y : Nat → Nat → Prop} {h h' : PH} (s : Same X Y h h') (hX : ∀ a, X a → omX a) (hY : ∀ a j, Y a j → omY a j) : FrM h h' := (SmN.of s).mono hX hY
theorem okX_lt {a : Nat} (h : CX a) : a < 46 := by
  have h9 : ∀ c ∈ ([10, 11, 15, 16, 29, 31, 32, 33, 34, 35, 37, 38, 40, 44, 45] : List Nat), c < 46 := by decide
  exact h9 a h
theorem okY_lt {a j : Nat} (h : CY a j) : a < 46 := by
  have h9 : ∀ c ∈ ([(30, 5), (30, 6), (30, 7), (30, 8), (39, 1), (39, 2), (39, 3), (42, 2), (42, 3), (42, 4), (43, 1), (43, 2)] : List (Nat × Nat)), c.1 < 46 := by decide
  exact h9 (a, j) h
theorem SX_in2 {c : Nat} (h : SX 46 c) : 46 ≤ c ∧ c ≤ 72 := by
  unfold SX at h
  obtain ⟨i, hi, rfl⟩ := List.mem_map.mp h
  have h9 : ∀ i ∈ ([3, 4, 5, 6, 7, 10, 11, 12, 13, 15, 17, 19, 20, 21, 22, 23, 24] : List Nat), i ≤ 24 := by decide
  have := h9 i hi
  omega
theorem SY_in2 {a j : Nat} (h : SY 46 a j) : 46 ≤ a ∧ a ≤ 72 := by rw [h.1]; omega
theorem frK_q {h h' : PH} (s : Same CX CY h h') : FrK h h' := s.frK (fun _ e => Or.inl e) (fun _ _ e => Or.inl e)
theorem frM_k {h h' : PH} (s : Same CX CY h h') : FrM h h' := s.frM (fun _ e => Or.inr (Or.inl (okX_lt e))) (fun _ _ e => Or.inr (Or.inl (okY_lt e)))
theorem frM_q {h h' : PH} (s : Same (SX 46) (SY 46) h h') : FrM h h' := s.frM (fun _ e => Or.inl e) (fun _ _ e => Or.inl e)
theorem frK_m {h h' : PH} (s : Same (SX 46) (SY 46) h h') : FrK h h' := s.frK (fun _ e => Or.inr (SX_in2 e)) (fun _ _ e => Or.inr (SY_in2 e))
theorem smn_sI {X : Nat → Prop} {Y : Nat → Nat → Prop} {h : PH} {a : Nat} {f : Nat → Int32} (ha : X a) : SmN X Y h (hp_sI h a f) := SmN.of (Same.rf.sI ha)
theorem smn_sF {X : Nat → Prop} {Y : Nat → Nat → Prop} {h : PH} {a j : Nat} {v : Value} (ha : Y a j) : SmN X Y h (hp_sF h a j v) := SmN.of (Same.rf.sF ha)
theorem frK_out (h : PH) (v : Int32) : FrK h (outS h v) := ⟨Nat.le_refl _, fun _ _ => rfl, fun _ _ _ _ => rfl, fun _ _ _ => rfl, fun a _ n => if_neg (fun e => n (Or.inr (by omega)))⟩
theorem frM_out (h : PH) (v : Int32) : FrM h (outS h v) := ⟨Nat.le_refl _, fun _ _ => rfl, fun _ _ _ _ => rfl, fun _ _ _ => rfl, fun a _ n => if_neg (fun e => n (Or.inr (Or.inr (by omega))))⟩
theorem ok_hi {a : Nat} (h : 72 < a) : ¬ okX a := fun e => by
  rcases e with e | e
  · have := okX_lt e; omega
  · omega
theorem okY_hi {a j : Nat} (h : 72 < a) : ¬ okY a j := fun e => by
  rcases e with e | e
  · have := okY_lt e; omega
  · omega
/-- a row of pasts, the latest first -/
def PsC (h : PH) : Value → List (Nat → Int32) → Prop
  | v, [] => v = .null
  | v, g :: ps => ∃ a r : Nat, v = .ref a ∧ (72 < a ∧ a < hp_N h ∧ 72 < r ∧ r < hp_N h) ∧ hp_K h a = (4, 3) ∧ hp_K h r = (20, 190) ∧ hp_F h a 0 = .ref r ∧ hp_F h a 2 = .int (nI (ps.length + 1)) ∧ hp_I h r = g ∧ PsC h (hp_F h a 1) ps
/-- only cells behind 72 matter for a row of pasts -/
theorem PsC.old {h h' : PH} (hN : hp_N h ≤ hp_N h') (hK : ∀ a, 72 < a → a < hp_N h → hp_K h' a = hp_K h a) (hF : ∀ a j, 72 < a → a < hp_N h → hp_F h' a j = hp_F h a j) (hI : ∀ a, 72 < a → a < hp_N h → hp_I h' a = hp_I h a) : ∀ (ps : List (Nat → Int32)) (v : Value), PsC h v ps → PsC h' v ps
  | [], _, e => e
  | g :: ps, v, ⟨a, r, e, ⟨h1, h2, h3, h4⟩, k1, k2, f0, f2, i1, t⟩ =>
    ⟨a, r, e, ⟨h1, Nat.lt_of_lt_of_le h2 hN, h3, Nat.lt_of_lt_of_le h4 hN⟩, (hK a h1 h2).trans k1, (hK r h3 h4).trans k2, (hF a 0 h1 h2).trans f0, (hF a 2 h1 h2).trans f2, (hI r h3 h4).trans i1, by
      rw [hF a 1 h1 h2]
      exact PsC.old hN hK hF hI ps _ t⟩
theorem PsC.fr {h h' : PH} (q : FrK h h') {ps : List (Nat → Int32)} {v : Value} (e : PsC h v ps) : PsC h' v ps :=
  PsC.old q.1 (fun a _ h2 => q.2.1 a h2) (fun a j h1 h2 => q.2.2.1 a j h2 (okY_hi h1)) (fun a h1 h2 => q.2.2.2.1 a h2 (ok_hi h1)) ps v e
/-- the images, the latest first -/
def ImC (h : PH) : List (List (Nat → Int32)) → Prop
  | [] => True
  | x :: r => PsC h (hp_F h 28 r.length) x ∧ x ≠ [] ∧ ImC h r
/-- the pasts in the reference's row -/
def PsM (pf : Nat → Int32) : List (Nat → Int32) → Prop
  | [] => True
  | g :: ps => (∀ i, i < 190 → pf (190 * ps.length + i) = g i) ∧ PsM pf ps
/-- the images in the reference's row -/
def ImM (img : Nat → Int32) : List (List (Nat → Int32)) → Prop
  | [] => True
  | x :: r => (∃ (g : Nat → Int32) (ps : List (Nat → Int32)), x = g :: ps ∧ (∀ i, i < 190 → img (3231 * r.length + i) = g i) ∧ PsM (fun i => img (3231 * r.length + 190 + i)) ps ∧ img (3231 * r.length + 190 + 3040) = nI ps.length) ∧ ImM img r
/-- the class: shape and scratch -/
def KS (h : PH) (la lw bk : Nat) : Prop := CL h la lw bk ∧ (∃ (np0 du0 : Nat) (f0 : Nat → Int32), LandAt h (8 - la) np0 du0 f0 ∧ RowZ f0) ∧ (∃ (sz0 : Nat) (kf0 vf0 : Nat → Int32), LawAt h (19 - lw) sz0 kf0 vf0) ∧ (∃ s0 : BKt, BookAt h (37 - bk) s0) ∧ ∃ W : AF, AfR h W
def KT (h : PH) (tf : Nat → Int32) (tp : Nat) (fl : Int32) : Prop := hp_I h 2 = tf ∧ hp_F h 1 1 = .int (nI tp) ∧ hp_F h 1 5 = .int fl
def KP (h : PH) (ps : List (Nat → Int32)) (ims : List (List (Nat → Int32))) : Prop := PsC h (hp_F h 0 8) ps ∧ hp_F h 0 10 = .int (nI ims.length) ∧ ImC h ims
def KC (h : PH) (rs mi wr : Int32) : Prop := hp_F h 0 11 = .int rs ∧ hp_F h 0 12 = .int mi ∧ hp_F h 0 13 = .int wr
def MTp (h : PH) (tf : Nat → Int32) (tp : Nat) (fl : Int32) : Prop := hp_I h 48 = tf ∧ hp_F h 46 2 = .int (nI tp) ∧ hp_F h 46 8 = .int fl ∧ ∃ bd : Int32, hp_F h 46 6 = .int bd
def ML (h : PH) (np du : Nat) (f : Nat → Int32) : Prop := hp_F h 46 15 = .int (nI np) ∧ hp_F h 46 16 = .int (nI du) ∧ hp_I h 60 = f
def MP (h : PH) (ps : List (Nat → Int32)) (ims : List (List (Nat → Int32))) : Prop := hp_F h 46 28 = .int (nI ps.length) ∧ PsM (hp_I h 62) ps ∧ hp_F h 46 52 = .int (nI ims.length) ∧ ImM (hp_I h 71) ims
def MC (h : PH) (rs mi wr : Int32) : Prop := hp_F h 46 29 = .int rs ∧ hp_I h 47 0 = mi ∧ hp_I h 47 1 = wr
/-- the common state: tape, place, fault; land; law; book; pasts, images; counters -/
abbrev CSt : Type := ((Nat → Int32) × Nat × Int32) × (Nat × Nat × (Nat → Int32)) × LWt × BKt × (List (Nat → Int32) × List (List (Nat → Int32))) × (Int32 × Int32 × Int32)
def KG (h : PH) (la lw bk : Nat) (c : CSt) : Prop := KS h la lw bk ∧ KT h c.1.1 c.1.2.1 c.1.2.2 ∧ LandAt h la c.2.1.1 c.2.1.2.1 c.2.1.2.2 ∧ LawAt h lw c.2.2.1.1 c.2.2.1.2.1 c.2.2.1.2.2 ∧ BookAt h bk c.2.2.2.1 ∧ KP h c.2.2.2.2.1.1 c.2.2.2.2.1.2 ∧ KC h c.2.2.2.2.2.1 c.2.2.2.2.2.2.1 c.2.2.2.2.2.2.2
def MG (h : PH) (c : CSt) : Prop := ModS h 46 ∧ MTp h c.1.1 c.1.2.1 c.1.2.2 ∧ ML h c.2.1.1 c.2.1.2.1 c.2.1.2.2 ∧ LawM h 46 c.2.2.1.1 c.2.2.1.2.1 c.2.2.1.2.2 ∧ BookM h 46 c.2.2.2.1 ∧ MP h c.2.2.2.2.1.1 c.2.2.2.2.1.2 ∧ MC h c.2.2.2.2.2.1 c.2.2.2.2.2.2.1 c.2.2.2.2.2.2.2
def GdS (c : CSt) : Prop := (c.1.2.1 ≤ 600 ∧ ∃ T, BT c.1.1 T) ∧ (RowZ c.2.1.2.2 ∧ RowOK c.2.1.2.2 c.2.1.1) ∧ LawOK c.2.2.1.2.1 c.2.2.1.2.2 c.2.2.1.1 ∧ BkG c.2.2.2.1 ∧ (c.2.2.2.2.1.1.length ≤ 16 ∧ (∀ g ∈ c.2.2.2.2.1.1, RowOK g c.2.1.1) ∧ c.2.2.2.2.1.2.length ≤ 3 ∧ ∀ x ∈ c.2.2.2.2.1.2, x.length ≤ 17 ∧ ∀ g ∈ x, RowOK g c.2.1.1)
/-- ahead of a step: j steps may still come -/
def SG (j : Nat) (h : PH) : Prop := ∃ (c : CSt) (la lw bk : Nat), KG h la lw bk c ∧ MG h c ∧ GdS c ∧ hp_K h 72 = (21, 1) ∧ 72 < hp_N h ∧ hp_N h + 2 * j ≤ 900000
/-- behind a step: the reference's row may differ where nobody reads -/
def GG (j : Nat) (h : PH) : Prop := ∃ f : Nat → Int32, hp_K h 60 = (20, 190) ∧ (∀ i, i < 190 → f i = hp_I h 60 i) ∧ SG j (hp_sI h 60 f)
theorem SG.k0 {j : Nat} {h : PH} (s : SG j h) : hp_K h 0 = (10, 19) := by
  obtain ⟨c, la, lw, bk, k, -⟩ := s
  exact k.1.1.K0
theorem SG.le {j : Nat} {h : PH} (s : SG (j + 1) h) : SG j h := by
  obtain ⟨c, la, lw, bk, k, m, g, h1, h2, h3⟩ := s
  exact ⟨c, la, lw, bk, k, m, g, h1, h2, by omega⟩
theorem GG.sg {j : Nat} {h : PH} (s : GG j h) : ∃ h3, hqE h h3 ∧ SG j h3 := by
  obtain ⟨f, k, e, s⟩ := s
  exact ⟨_, hq_row k e, s⟩
theorem SG.gg {j : Nat} {h : PH} (s : SG j h) : GG j h := by
  have hk : hp_K h 60 = (20, 190) := by
    obtain ⟨c, la, lw, bk, k, m, g, -⟩ := s
    exact m.1.K14
  exact ⟨hp_I h 60, hk, fun _ _ => rfl, by rw [hp_sI_id]; exact s⟩
theorem BookAt.smn {h h9 : PH} {b : Nat} {s : BKt} {X : Nat → Prop} {Y : Nat → Nat → Prop} (hB : BookAt h b s) (hS : SmN X Y h h9) (hN : b + 2 < hp_N h) (h1 : ¬ X (b + 1)) (h2 : ¬ X (b + 2)) (hY : ∀ j, ¬ Y b j) : BookAt h9 b s :=
  ⟨(hS.2.1 b (by omega)).trans hB.1, (hS.2.1 _ (by omega)).trans hB.2.1, (hS.2.1 _ hN).trans hB.2.2.1, (hS.2.2.1 b 0 (by omega) (hY 0)).trans hB.2.2.2.1, (hS.2.2.1 b 1 (by omega) (hY 1)).trans hB.2.2.2.2.1, (hS.2.2.1 b 2 (by omega) (hY 2)).trans hB.2.2.2.2.2.1, (hS.2.2.2.1 _ (by omega) h1).trans hB.2.2.2.2.2.2.1, (hS.2.2.2.1 _ hN h2).trans hB.2.2.2.2.2.2.2.1, hB.2.2.2.2.2.2.2.2⟩
theorem okX_c {a : Nat} (h : a ∉ ([10, 11, 15, 16, 29, 31, 32, 33, 34, 35, 37, 38, 40, 44, 45] : List Nat)) (h2 : a < 46) : ¬ okX a := fun e => by
  rcases e with e | e
  · exact h e
  · omega
theorem okY_c {a j : Nat} (h : a ∉ ([30, 39, 42, 43] : List Nat)) (h2 : a < 46) : ¬ okY a j := fun e => by
  rcases e with e | e
  · have h9 : ∀ c ∈ ([(30, 5), (30, 6), (30, 7), (30, 8), (39, 1), (39, 2), (39, 3), (42, 2), (42, 3), (42, 4), (43, 1), (43, 2)] : List (Nat × Nat)), c.1 ∈ ([30, 39, 42, 43] : List Nat) := by decide
    exact h (h9 (a, j) e)
  · omega
theorem okY_clR : ∀ e ∈ clR, ¬ okY e.1 e.2.1 := by decide
theorem KS.fr {h h' : PH} {la lw bk : Nat} (k : KS h la lw bk) (q : FrK h h') (hN : 72 < hp_N h) : KS h' la lw bk := by
  obtain ⟨hC, ⟨np0, du0, f0, hL, hz⟩, ⟨sz0, kf0, vf0, hW⟩, ⟨s0, hB⟩, W, hA⟩ := k
  have hla := hC.la
  have hlw := hC.lw
  have hbk := hC.bk
  refine ⟨hC.smn q (by omega) okY_clR (fun j _ _ => okY_c (by decide) (by decide)), ⟨np0, du0, f0, hL.smn q (by omega) ?_ (fun j => ?_), hz⟩, ⟨sz0, kf0, vf0, hW.smn q (by omega) ?_ ?_ (fun j => ?_)⟩, ⟨s0, hB.smn q (by omega) ?_ ?_ (fun j => ?_)⟩, W, hA.smn q (by omega) (fun c h1 h2 => ?_) (fun j _ => okY_c (by decide) (by decide))⟩
  · rcases hla with rfl | rfl <;> exact okX_c (by decide) (by decide)
  · rcases hla with rfl | rfl <;> exact okY_c (by decide) (by decide)
  · rcases hlw with rfl | rfl <;> exact okX_c (by decide) (by decide)
  · rcases hlw with rfl | rfl <;> exact okX_c (by decide) (by decide)
  · rcases hlw with rfl | rfl <;> exact okY_c (by decide) (by decide)
  · rcases hbk with rfl | rfl <;> exact okX_c (by decide) (by decide)
  · rcases hbk with rfl | rfl <;> exact okX_c (by decide) (by decide)
  · rcases hbk with rfl | rfl <;> exact okY_c (by decide) (by decide)
  · rcases (show c = 23 ∨ c = 24 ∨ c = 25 ∨ c = 26 ∨ c = 27 by omega) with rfl | rfl | rfl | rfl | rfl <;> exact okX_c (by decide) (by decide)
theorem ImC.fr {h h' : PH} (q : FrK h h') (hN : 72 < hp_N h) : ∀ (ims : List (List (Nat → Int32))), ImC h ims → ImC h' ims
  | [], _ => trivial
  | x :: r, ⟨h1, h2, h3⟩ => ⟨by
      rw [q.2.2.1 28 r.length (by omega) (okY_c (by decide) (by decide))]
      exact h1.fr q, h2, ImC.fr q hN r h3⟩
theorem KG.fr {h h' : PH} {la lw bk : Nat} {c : CSt} (k : KG h la lw bk c) (q : FrK h h') (hN : 72 < hp_N h) : KG h' la lw bk c := by
  obtain ⟨hS, ⟨t1, t2, t3⟩, hL, hW, hB, ⟨p1, p2, p3⟩, c1, c2, c3⟩ := k
  have hC := hS.1
  have hla := hC.la
  have hlw := hC.lw
  have hbk := hC.bk
  have F0 : ∀ j, hp_F h' 0 j = hp_F h 0 j := fun j => q.2.2.1 0 j (by omega) (okY_c (by decide) (by decide))
  have F1 : ∀ j, hp_F h' 1 j = hp_F h 1 j := fun j => q.2.2.1 1 j (by omega) (okY_c (by decide) (by decide))
  refine ⟨hS.fr q hN, ⟨(q.2.2.2.1 2 (by omega) (okX_c (by decide) (by decide))).trans t1, (F1 1).trans t2, (F1 5).trans t3⟩, hL.smn q (by omega) ?_ (fun j => ?_), hW.smn q (by omega) ?_ ?_ (fun j => ?_), hB.smn q (by omega) ?_ ?_ (fun j => ?_), ⟨by rw [F0]; exact p1.fr q, (F0 10).trans p2, ImC.fr q hN _ p3⟩, (F0 11).trans c1, (F0 12).trans c2, (F0 13).trans c3⟩
  · rcases hla with rfl | rfl <;> exact okX_c (by decide) (by decide)
  · rcases hla with rfl | rfl <;> exact okY_c (by decide) (by decide)
  · rcases hlw with rfl | rfl <;> exact okX_c (by decide) (by decide)
  · rcases hlw with rfl | rfl <;> exact okX_c (by decide) (by decide)
  · rcases hlw with rfl | rfl <;> exact okY_c (by decide) (by decide)
  · rcases hbk with rfl | rfl <;> exact okX_c (by decide) (by decide)
  · rcases hbk with rfl | rfl <;> exact okX_c (by decide) (by decide)
  · rcases hbk with rfl | rfl <;> exact okY_c (by decide) (by decide)
