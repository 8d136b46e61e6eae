/-! ===== the first state; every call ===== -/
theorem st_em : stF 0 zF fcO fcR zF = emF := by
  funext i
  show (if i < 61 then fcO i else if 61 ≤ i ∧ i < 61 + 61 then fcR (i - 61) else toF zF 183 (fcF (fun _ => 0) zF 190) 0 i) = if i < 61 then -1 else 0
  rw [toF_0]
  by_cases h1 : i < 61
  · rw [if_pos h1, if_pos h1]
    show fcF (fun _ => -1) zF 61 i = -1
    rw [fcF_in h1]
  · rw [if_neg h1, if_neg h1]
    by_cases h2 : 61 ≤ i ∧ i < 61 + 61
    · rw [if_pos h2]
      show fcF (fun _ => 0) zF 61 (i - 61) = 0
      rw [fcF_in (by omega)]
    · rw [if_neg h2]
      by_cases h3 : i < 190
      · rw [fcF_in h3]
      · rw [fcF_out h3]; rfl
def stX : Nat → Prop := fun a => a = 49 ∨ a = 50 ∨ a = 51 ∨ a = 60
def stY : Nat → Nat → Prop := fun a j => a = 46 ∧ ((3 ≤ j ∧ j ≤ 7) ∨ j = 13 ∨ j = 14 ∨ j = 15 ∨ j = 16 ∨ j = 23 ∨ j = 38 ∨ j = 28 ∨ j = 52 ∨ j = 29)
theorem st_clT : ∀ i, i < 46 → (((CLL ++ MCL 46).getD i ceD).1, ((CLL ++ MCL 46).getD i ceD).2.1) = clT.getD i (0, 0) := by decide +kernel
set_option maxRecDepth 100000 in
theorem st_clR : ∀ e ∈ clR, vp_V ((CLL ++ MCL 46).getD e.1 ceD).2.2.1 e.2.1 = .ref e.2.2 := by
  intro e he
  simp only [clR, List.mem_cons, List.not_mem_nil, or_false] at he
  rcases he with rfl | rfl | rfl | rfl | rfl | rfl | rfl | rfl | rfl | rfl | rfl | rfl | rfl | rfl | rfl | rfl | rfl | rfl | rfl | rfl | rfl | rfl | rfl | rfl | rfl | rfl | rfl | rfl | rfl | rfl | rfl | rfl | rfl | rfl | rfl | rfl | rfl | rfl <;> exact rfl
theorem st_mod : ∀ e ∈ modT, 46 + e.2.1 < 72 ∧ ¬ ((3 ≤ e.1 ∧ e.1 ≤ 7) ∨ e.1 = 13 ∨ e.1 = 14 ∨ e.1 = 15 ∨ e.1 = 16 ∨ e.1 = 23 ∨ e.1 = 38 ∨ e.1 = 28 ∨ e.1 = 52 ∨ e.1 = 29) := by decide
def st0 : CSt := ((zF, 0, -1), (0, 2, emF), (0, zF, zF), (0, zF, zF), ([], []), (nI 0, 0, 0))
theorem st0_g : GdS st0 := ⟨⟨Nat.zero_le _, fun _ => 0, fun _ => ⟨rfl, Nat.le_of_ble_eq_true rfl⟩⟩, em0_G.ok, LawOK.z _ _, BkG.z _ _, Nat.zero_le _, (fun x hx => nomatch hx), Nat.zero_le _, (fun x hx => nomatch hx)⟩
set_option maxHeartbeats 4000000 in
set_option maxRecDepth 100000 in
theorem SG.start (h1 : PH) (q1 : XQ CLL 46 h1) : SG 512 (hp_new h1 21 1 (fun _ => .null) (fun _ => 0) (fun _ => 0)) := by
  obtain ⟨q, e15, e16, e23, e38, e28, e52, e29, i14⟩ := q1
  have qx : Same stX stY (AP (CLL ++ MCL 46)) (XH CLL 46) := Same.mr (Same.ml Same.rf (Or.inl rfl) (Or.inr (Or.inl rfl)) (Or.inr (Or.inr (Or.inl rfl))) ⟨rfl, by omega⟩ ⟨rfl, by omega⟩ 0 2 zF fcO fcR) (fun j hj => ⟨rfl, by omega⟩) 0 0 0 0 0
  have q0 : Same stX stY (AP (CLL ++ MCL 46)) h1 := qx.tr (q.mono (fun a e => Or.inr (Or.inr (Or.inr e))) (fun a j e => by
    have e2 : a = 46 ∧ (j = 15 ∨ j = 16 ∨ j = 23 ∨ j = 38 ∨ j = 28 ∨ j = 52 ∨ j = 29) := e
    exact ⟨e2.1, by omega⟩))
  have nH : hp_N (AP (CLL ++ MCL 46)) = 72 := by decide +kernel
  have n1 : hp_N h1 = 72 := q0.1.trans nH
  have f6 : hp_F h1 46 6 = .int 0 := (q.2.2.1 46 6 (fun e => by
    have e2 : 46 = 46 ∧ (6 = 15 ∨ 6 = 16 ∨ 6 = 23 ∨ 6 = 38 ∨ 6 = 28 ∨ 6 = 52 ∨ 6 = 29) := e
    omega)).trans (mrS_6 _ _ _ _ _ _ _)
  have hM0 : ModS (AP (CLL ++ MCL 46)) 46 := ap_MS rfl
  have sn : SmN (fun _ => False) (fun _ _ => False) h1 (hp_new h1 21 1 (fun _ => .null) (fun _ => 0) (fun _ => 0)) := SmN.rf.nw _ _ _ _ _
  have s : SmN stX stY (AP (CLL ++ MCL 46)) (hp_new h1 21 1 (fun _ => .null) (fun _ => 0) (fun _ => 0)) := (SmN.of q0).nw _ _ _ _ _
  have k72 : hp_K (hp_new h1 21 1 (fun _ => .null) (fun _ => 0) (fun _ => 0)) 72 = (21, 1) := by
    show (if 72 = hp_N h1 then ((21, 1) : Nat × Nat) else hp_K h1 72) = (21, 1)
    rw [n1, if_pos rfl]
  have nN : hp_N (hp_new h1 21 1 (fun _ => .null) (fun _ => 0) (fun _ => 0)) = 73 := by
    show hp_N h1 + 1 = 73
    rw [n1]
  generalize hp_new h1 21 1 (fun _ => .null) (fun _ => 0) (fun _ => 0) = h at sn s k72 nN ⊢
  have K : ∀ a, a < 72 → hp_K h a = (((CLL ++ MCL 46).getD a ceD).1, ((CLL ++ MCL 46).getD a ceD).2.1) := fun a ha => s.2.1 a (by rw [nH]; exact ha)
  have F : ∀ a j, a < 46 → hp_F h a j = vp_V ((CLL ++ MCL 46).getD a ceD).2.2.1 j := fun a j ha => s.2.2.1 a j (by rw [nH]; omega) (fun e => by
    have e2 := e.1
    omega)
  have FM : ∀ j, ¬ ((3 ≤ j ∧ j ≤ 7) ∨ j = 13 ∨ j = 14 ∨ j = 15 ∨ j = 16 ∨ j = 23 ∨ j = 38 ∨ j = 28 ∨ j = 52 ∨ j = 29) → hp_F h 46 j = vp_V ((CLL ++ MCL 46).getD 46 ceD).2.2.1 j := fun j hj => s.2.2.1 46 j (by rw [nH]; decide) (fun e => hj e.2)
  have I : ∀ a, a < 72 → ¬ (a = 49 ∨ a = 50 ∨ a = 51 ∨ a = 60) → hp_I h a = ((CLL ++ MCL 46).getD a ceD).2.2.2 := fun a ha hx => s.2.2.2.1 a (by rw [nH]; exact ha) hx
  have G : ∀ j, hp_F h 46 j = hp_F h1 46 j := fun j => sn.2.2.1 46 j (by rw [n1]; decide) id
  have i60 : hp_I h 60 = emF := (sn.2.2.2.1 60 (by rw [n1]; decide) id).trans (i14.trans st_em)
  have hC : CL h 3 7 17 := ⟨fun i hi => (K i (by omega)).trans (st_clT i hi), fun e he => by
      have h46 : ∀ e ∈ clR, e.1 < 46 := by decide
      exact (F e.1 e.2.1 (h46 e he)).trans (st_clR e he), (F 0 1 (by decide)).trans rfl, (F 0 2 (by decide)).trans rfl, (F 0 3 (by decide)).trans rfl, (F 0 4 (by decide)).trans rfl, (F 0 5 (by decide)).trans rfl, (F 0 6 (by decide)).trans rfl, Or.inl rfl, Or.inl rfl, Or.inl rfl⟩
  have hLd : ∀ a, a = 3 ∨ a = 5 → LandAt h a 0 2 emF := fun a ha => by
    rcases ha with rfl | rfl
    · exact ⟨(K 3 (by decide)).trans rfl, (K 4 (by decide)).trans rfl, (F 3 0 (by decide)).trans rfl, (F 3 1 (by decide)).trans rfl, (F 3 2 (by decide)).trans rfl, (I 4 (by decide) (by decide)).trans rfl, by decide, by decide⟩
    · exact ⟨(K 5 (by decide)).trans rfl, (K 6 (by decide)).trans rfl, (F 5 0 (by decide)).trans rfl, (F 5 1 (by decide)).trans rfl, (F 5 2 (by decide)).trans rfl, (I 6 (by decide) (by decide)).trans rfl, by decide, by decide⟩
  have hLw : ∀ a, a = 7 ∨ a = 12 → LawAt h a 0 zF zF := fun a ha => by
    rcases ha with rfl | rfl
    · exact ⟨(K 7 (by decide)).trans rfl, (K 8 (by decide)).trans rfl, (K 9 (by decide)).trans rfl, (K 10 (by decide)).trans rfl, (K 11 (by decide)).trans rfl, (F 7 0 (by decide)).trans rfl, (F 7 1 (by decide)).trans rfl, (F 7 2 (by decide)).trans rfl, (F 7 3 (by decide)).trans rfl, (F 7 4 (by decide)).trans rfl, (I 8 (by decide) (by decide)).trans rfl, (I 9 (by decide) (by decide)).trans rfl, by decide⟩
    · exact ⟨(K 12 (by decide)).trans rfl, (K 13 (by decide)).trans rfl, (K 14 (by decide)).trans rfl, (K 15 (by decide)).trans rfl, (K 16 (by decide)).trans rfl, (F 12 0 (by decide)).trans rfl, (F 12 1 (by decide)).trans rfl, (F 12 2 (by decide)).trans rfl, (F 12 3 (by decide)).trans rfl, (F 12 4 (by decide)).trans rfl, (I 13 (by decide) (by decide)).trans rfl, (I 14 (by decide) (by decide)).trans rfl, by decide⟩
  have hBk : ∀ a, a = 17 ∨ a = 20 → BookAt h a (0, zF, zF) := fun a ha => by
    rcases ha with rfl | rfl
    · exact ⟨(K 17 (by decide)).trans rfl, (K 18 (by decide)).trans rfl, (K 19 (by decide)).trans rfl, (F 17 0 (by decide)).trans rfl, (F 17 1 (by decide)).trans rfl, (F 17 2 (by decide)).trans rfl, (I 18 (by decide) (by decide)).trans rfl, (I 19 (by decide) (by decide)).trans rfl, by decide⟩
    · exact ⟨(K 20 (by decide)).trans rfl, (K 21 (by decide)).trans rfl, (K 22 (by decide)).trans rfl, (F 20 0 (by decide)).trans rfl, (F 20 1 (by decide)).trans rfl, (F 20 2 (by decide)).trans rfl, (I 21 (by decide) (by decide)).trans rfl, (I 22 (by decide) (by decide)).trans rfl, by decide⟩
  have hAf : AfR h (0, zF, zF, zF, zF) := ⟨⟨(K 23 (by decide)).trans rfl, (K 24 (by decide)).trans rfl, (K 25 (by decide)).trans rfl, (K 26 (by decide)).trans rfl, (K 27 (by decide)).trans rfl, (F 23 0 (by decide)).trans rfl, (F 23 1 (by decide)).trans rfl, (F 23 2 (by decide)).trans rfl, (F 23 3 (by decide)).trans rfl⟩, (F 23 4 (by decide)).trans rfl, (I 24 (by decide) (by decide)).trans rfl, (I 25 (by decide) (by decide)).trans rfl, (I 26 (by decide) (by decide)).trans rfl, (I 27 (by decide) (by decide)).trans rfl⟩
  have hM : ModS h 46 := ⟨(K 46 (by decide)).trans rfl, fun e he => ⟨(s.2.1 (46 + e.2.1) (by rw [nH]; exact (st_mod e he).1)).trans (hM0.2 e he).1, (s.2.2.1 46 e.1 (by rw [nH]; decide) (fun z => (st_mod e he).2 z.2)).trans (hM0.2 e he).2⟩⟩
  refine ⟨st0, 3, 7, 17, ⟨⟨hC, ⟨0, 2, emF, hLd 5 (Or.inr rfl), em0_G.ok.1⟩, ⟨0, zF, zF, hLw 12 (Or.inr rfl)⟩, ⟨(0, zF, zF), hBk 20 (Or.inr rfl)⟩, _, hAf⟩, ⟨(I 2 (by decide) (by decide)).trans rfl, (F 1 1 (by decide)).trans rfl, (F 1 5 (by decide)).trans rfl⟩, hLd 3 (Or.inl rfl), hLw 7 (Or.inl rfl), hBk 17 (Or.inl rfl), ⟨(F 0 8 (by decide)).trans rfl, (F 0 10 (by decide)).trans rfl, trivial⟩, (F 0 11 (by decide)).trans rfl, (F 0 12 (by decide)).trans rfl, (F 0 13 (by decide)).trans rfl⟩, ⟨hM, ⟨(I 48 (by decide) (by decide)).trans rfl, (FM 2 (by decide)).trans rfl, (FM 8 (by decide)).trans rfl, 0, (G 6).trans f6⟩, ⟨(G 15).trans e15, (G 16).trans e16, i60⟩, ⟨(G 23).trans e23, Nat.zero_le _, fun i hi => absurd hi (Nat.not_lt_zero i), fun i hi => absurd hi (Nat.not_lt_zero i)⟩, ⟨(G 38).trans e38, Nat.zero_le _, fun i hi => absurd hi (Nat.not_lt_zero i)⟩, ⟨(G 28).trans e28, trivial, (G 52).trans e52, trivial⟩, (G 29).trans e29, ?_, ?_⟩, st0_g, k72, by omega, by omega⟩
  · rw [I 47 (by decide) (by decide)]; rfl
  · rw [I 47 (by decide) (by decide)]; rfl
theorem ops_ok {l : Launch} {Z : EE} (hst : l.stackTraces = false) : OpsOK l Z 60 2 193 SG GG := ⟨q_feed hst, q_land hst, q_law hst, q_work hst, q_book hst, q_fault hst, q_undo hst, q_told hst, q_person hst, q_number hst, q_fare hst, q_would hst, q_cost hst, q_saying hst, q_leaves hst, q_out hst, q_round hst, q_buy hst, q_meant hst, q_look hst, q_dice hst, q_lets hst, q_tax hst, q_dearest hst, q_landlord hst, q_common hst, q_affords hst, q_worth hst, q_run hst, q_cheapest hst, q_primes hst, q_poorest hst, q_sayable hst, q_year hst, q_span hst, q_image hst, q_restore hst, q_status hst, q_count hst⟩
/-- the law's body, from the empty heap -/
theorem lw_body {l : Launch} {Z : EE} (hst : l.stackTraces = false) (nm : String) (hL : Z.2.2 301 ≤ 3584) : WW l Z (mLaw nm) 61 (2 * 512 + 73) (193 * 512 + 18175) 0 [.ref (1000000 + 300), UU, UU, UU, UU, UU, UU] [] (AP ([] ++ [])) (fun r _ => r = .inl (some (.int (nI 1)))) :=
  lw_main hst hL (S := SG) (G := GG) (d := 60) (Nat.le_of_ble_eq_true rfl) (Nat.le_of_ble_eq_true rfl) (fun _ _ s => s.k0) (fun _ _ s => s.le) (fun _ _ s => s.sg) (ops_ok hst) (fun h1 q => SG.start h1 q)
