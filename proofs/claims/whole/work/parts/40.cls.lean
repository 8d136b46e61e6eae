/-! ===== what the class holds at its plain addresses; refusals ===== -/
def iaX : String := "java/lang/IllegalArgumentException"
def TH (E : String) (h1 : PH) : Res → PH → Prop := fun r h' => r = .inr E ∧ h' = h1
section WWH
variable {l : Launch} {Z : EE} {M : MM} {d bc bs pc : Nat} {lv st : List Value} {h : PH} {Post : Res → PH → Prop}
theorem ww_cVt {N : MM} {a t nn idx n d' mc' ms' : Nat} {T : u_T} {As stk : List Value} {E0 : String} {h1 : PH} (hC : CC l Z N d' mc' ms' ((.ref a) :: As) h (TH E0 h1)) (hV : mm_V N n) (hd : decode (mm_c M) pc = .ok (.invokevirtual idx, 3)) (w1 : Cond.methodLink (mm_own M) idx (mm_y N) ∈ TG) (hk : hp_K h a = (t, nn)) (hc : vwCl[t]? = some ((mm_y N).cls, T, nn)) (hn : As.length = n) (hs : stk = As.reverse ++ (.ref a) :: st) (hh : mm_h M = []) (hdd : d' + 1 ≤ d) (hcat : (st.map fun v => v.category).sum ≤ 8) {bc0 bs0 : Nat} (hbc : bc + mc' ≤ bc0) (hbs : bs + ms' ≤ bs0)
    (kx : Post (.inr E0) h1) : WW l Z M d bc0 bs0 pc lv stk h Post :=
  ww_cV (bc := bc) (bs := bs) hC hV hd w1 hk hc hn hs hh hdd hcat hbc hbs (fun v9 h9 hp => by cases hp.1) (fun E h9 hp => by obtain ⟨e1, rfl⟩ := hp; cases e1; exact kx)
end WWH
def clT : List (Nat × Nat) := [(10, 19), (5, 6), (20, 600), (2, 3), (20, 190), (2, 3), (20, 190), (3, 5), (20, 150), (20, 150), (20, 32), (20, 7), (3, 5), (20, 150), (20, 150), (20, 32), (20, 7), (1, 3), (20, 8), (20, 8), (1, 3), (20, 8), (20, 8), (0, 8), (20, 38), (20, 38), (20, 38), (20, 38), (23, 3), (20, 61), (7, 9), (20, 61), (20, 61), (20, 61), (20, 61), (22, 61), (8, 2), (20, 61), (20, 61), (6, 4), (20, 61), (20, 0), (9, 5), (2, 3), (20, 190), (22, 61)]
def clR : List (Nat × Nat × Nat) := [(0, 0, 1), (0, 7, 23), (0, 9, 28), (0, 14, 29), (0, 15, 30), (0, 16, 36), (0, 17, 39), (0, 18, 42), (1, 0, 2), (3, 0, 4), (5, 0, 6), (7, 0, 8), (7, 1, 9), (7, 2, 10), (7, 3, 11), (12, 0, 13), (12, 1, 14), (12, 2, 15), (12, 3, 16), (17, 0, 18), (17, 1, 19), (20, 0, 21), (20, 1, 22), (23, 0, 24), (23, 1, 25), (23, 2, 26), (23, 3, 27), (30, 0, 31), (30, 1, 32), (30, 2, 33), (30, 3, 34), (30, 4, 35), (36, 0, 37), (36, 1, 38), (39, 0, 40), (42, 0, 43), (42, 1, 45), (43, 0, 44)]
def CL (h : PH) (la lw bk : Nat) : Prop := (∀ i, i < 46 → hp_K h i = clT.getD i (0, 0)) ∧ (∀ e ∈ clR, hp_F h e.1 e.2.1 = .ref e.2.2) ∧ hp_F h 0 1 = .ref la ∧ hp_F h 0 2 = .ref (8 - la) ∧ hp_F h 0 3 = .ref lw ∧ hp_F h 0 4 = .ref (19 - lw) ∧ hp_F h 0 5 = .ref bk ∧ hp_F h 0 6 = .ref (37 - bk) ∧ (la = 3 ∨ la = 5) ∧ (lw = 7 ∨ lw = 12) ∧ (bk = 17 ∨ bk = 20)
theorem CL.kk {h : PH} {la lw bk : Nat} (hC : CL h la lw bk) : ∀ i, i < 46 → hp_K h i = clT.getD i (0, 0) := hC.1
theorem CL.rr {h : PH} {la lw bk : Nat} (hC : CL h la lw bk) : ∀ e ∈ clR, hp_F h e.1 e.2.1 = .ref e.2.2 := hC.2.1
theorem CL.D1 {h : PH} {la lw bk : Nat} (hC : CL h la lw bk) : hp_F h 0 1 = .ref la := hC.2.2.1
theorem CL.D2 {h : PH} {la lw bk : Nat} (hC : CL h la lw bk) : hp_F h 0 2 = .ref (8 - la) := hC.2.2.2.1
theorem CL.D3 {h : PH} {la lw bk : Nat} (hC : CL h la lw bk) : hp_F h 0 3 = .ref lw := hC.2.2.2.2.1
theorem CL.D4 {h : PH} {la lw bk : Nat} (hC : CL h la lw bk) : hp_F h 0 4 = .ref (19 - lw) := hC.2.2.2.2.2.1
theorem CL.D5 {h : PH} {la lw bk : Nat} (hC : CL h la lw bk) : hp_F h 0 5 = .ref bk := hC.2.2.2.2.2.2.1
theorem CL.D6 {h : PH} {la lw bk : Nat} (hC : CL h la lw bk) : hp_F h 0 6 = .ref (37 - bk) := hC.2.2.2.2.2.2.2.1
theorem CL.la {h : PH} {la lw bk : Nat} (hC : CL h la lw bk) : la = 3 ∨ la = 5 := hC.2.2.2.2.2.2.2.2.1
theorem CL.lw {h : PH} {la lw bk : Nat} (hC : CL h la lw bk) : lw = 7 ∨ lw = 12 := hC.2.2.2.2.2.2.2.2.2.1
theorem CL.bk {h : PH} {la lw bk : Nat} (hC : CL h la lw bk) : bk = 17 ∨ bk = 20 := hC.2.2.2.2.2.2.2.2.2.2
theorem CL.K0 {h : PH} {la lw bk : Nat} (hC : CL h la lw bk) : hp_K h 0 = (10, 19) := hC.kk 0 (by decide)
theorem CL.K1 {h : PH} {la lw bk : Nat} (hC : CL h la lw bk) : hp_K h 1 = (5, 6) := hC.kk 1 (by decide)
theorem CL.K2 {h : PH} {la lw bk : Nat} (hC : CL h la lw bk) : hp_K h 2 = (20, 600) := hC.kk 2 (by decide)
theorem CL.K3 {h : PH} {la lw bk : Nat} (hC : CL h la lw bk) : hp_K h 3 = (2, 3) := hC.kk 3 (by decide)
theorem CL.K4 {h : PH} {la lw bk : Nat} (hC : CL h la lw bk) : hp_K h 4 = (20, 190) := hC.kk 4 (by decide)
theorem CL.K5 {h : PH} {la lw bk : Nat} (hC : CL h la lw bk) : hp_K h 5 = (2, 3) := hC.kk 5 (by decide)
theorem CL.K6 {h : PH} {la lw bk : Nat} (hC : CL h la lw bk) : hp_K h 6 = (20, 190) := hC.kk 6 (by decide)
theorem CL.K7 {h : PH} {la lw bk : Nat} (hC : CL h la lw bk) : hp_K h 7 = (3, 5) := hC.kk 7 (by decide)
theorem CL.K8 {h : PH} {la lw bk : Nat} (hC : CL h la lw bk) : hp_K h 8 = (20, 150) := hC.kk 8 (by decide)
theorem CL.K9 {h : PH} {la lw bk : Nat} (hC : CL h la lw bk) : hp_K h 9 = (20, 150) := hC.kk 9 (by decide)
theorem CL.K10 {h : PH} {la lw bk : Nat} (hC : CL h la lw bk) : hp_K h 10 = (20, 32) := hC.kk 10 (by decide)
theorem CL.K11 {h : PH} {la lw bk : Nat} (hC : CL h la lw bk) : hp_K h 11 = (20, 7) := hC.kk 11 (by decide)
theorem CL.K12 {h : PH} {la lw bk : Nat} (hC : CL h la lw bk) : hp_K h 12 = (3, 5) := hC.kk 12 (by decide)
theorem CL.K13 {h : PH} {la lw bk : Nat} (hC : CL h la lw bk) : hp_K h 13 = (20, 150) := hC.kk 13 (by decide)
theorem CL.K14 {h : PH} {la lw bk : Nat} (hC : CL h la lw bk) : hp_K h 14 = (20, 150) := hC.kk 14 (by decide)
theorem CL.K15 {h : PH} {la lw bk : Nat} (hC : CL h la lw bk) : hp_K h 15 = (20, 32) := hC.kk 15 (by decide)
theorem CL.K16 {h : PH} {la lw bk : Nat} (hC : CL h la lw bk) : hp_K h 16 = (20, 7) := hC.kk 16 (by decide)
theorem CL.K17 {h : PH} {la lw bk : Nat} (hC : CL h la lw bk) : hp_K h 17 = (1, 3) := hC.kk 17 (by decide)
theorem CL.K18 {h : PH} {la lw bk : Nat} (hC : CL h la lw bk) : hp_K h 18 = (20, 8) := hC.kk 18 (by decide)
theorem CL.K19 {h : PH} {la lw bk : Nat} (hC : CL h la lw bk) : hp_K h 19 = (20, 8) := hC.kk 19 (by decide)
theorem CL.K20 {h : PH} {la lw bk : Nat} (hC : CL h la lw bk) : hp_K h 20 = (1, 3) := hC.kk 20 (by decide)
theorem CL.K21 {h : PH} {la lw bk : Nat} (hC : CL h la lw bk) : hp_K h 21 = (20, 8) := hC.kk 21 (by decide)
theorem CL.K22 {h : PH} {la lw bk : Nat} (hC : CL h la lw bk) : hp_K h 22 = (20, 8) := hC.kk 22 (by decide)
theorem CL.K23 {h : PH} {la lw bk : Nat} (hC : CL h la lw bk) : hp_K h 23 = (0, 8) := hC.kk 23 (by decide)
theorem CL.K24 {h : PH} {la lw bk : Nat} (hC : CL h la lw bk) : hp_K h 24 = (20, 38) := hC.kk 24 (by decide)
theorem CL.K25 {h : PH} {la lw bk : Nat} (hC : CL h la lw bk) : hp_K h 25 = (20, 38) := hC.kk 25 (by decide)
theorem CL.K26 {h : PH} {la lw bk : Nat} (hC : CL h la lw bk) : hp_K h 26 = (20, 38) := hC.kk 26 (by decide)
theorem CL.K27 {h : PH} {la lw bk : Nat} (hC : CL h la lw bk) : hp_K h 27 = (20, 38) := hC.kk 27 (by decide)
theorem CL.K28 {h : PH} {la lw bk : Nat} (hC : CL h la lw bk) : hp_K h 28 = (23, 3) := hC.kk 28 (by decide)
theorem CL.K29 {h : PH} {la lw bk : Nat} (hC : CL h la lw bk) : hp_K h 29 = (20, 61) := hC.kk 29 (by decide)
theorem CL.K30 {h : PH} {la lw bk : Nat} (hC : CL h la lw bk) : hp_K h 30 = (7, 9) := hC.kk 30 (by decide)
theorem CL.K31 {h : PH} {la lw bk : Nat} (hC : CL h la lw bk) : hp_K h 31 = (20, 61) := hC.kk 31 (by decide)
theorem CL.K32 {h : PH} {la lw bk : Nat} (hC : CL h la lw bk) : hp_K h 32 = (20, 61) := hC.kk 32 (by decide)
theorem CL.K33 {h : PH} {la lw bk : Nat} (hC : CL h la lw bk) : hp_K h 33 = (20, 61) := hC.kk 33 (by decide)
theorem CL.K34 {h : PH} {la lw bk : Nat} (hC : CL h la lw bk) : hp_K h 34 = (20, 61) := hC.kk 34 (by decide)
theorem CL.K35 {h : PH} {la lw bk : Nat} (hC : CL h la lw bk) : hp_K h 35 = (22, 61) := hC.kk 35 (by decide)
theorem CL.K36 {h : PH} {la lw bk : Nat} (hC : CL h la lw bk) : hp_K h 36 = (8, 2) := hC.kk 36 (by decide)
theorem CL.K37 {h : PH} {la lw bk : Nat} (hC : CL h la lw bk) : hp_K h 37 = (20, 61) := hC.kk 37 (by decide)
theorem CL.K38 {h : PH} {la lw bk : Nat} (hC : CL h la lw bk) : hp_K h 38 = (20, 61) := hC.kk 38 (by decide)
theorem CL.K39 {h : PH} {la lw bk : Nat} (hC : CL h la lw bk) : hp_K h 39 = (6, 4) := hC.kk 39 (by decide)
theorem CL.K40 {h : PH} {la lw bk : Nat} (hC : CL h la lw bk) : hp_K h 40 = (20, 61) := hC.kk 40 (by decide)
theorem CL.K41 {h : PH} {la lw bk : Nat} (hC : CL h la lw bk) : hp_K h 41 = (20, 0) := hC.kk 41 (by decide)
theorem CL.K42 {h : PH} {la lw bk : Nat} (hC : CL h la lw bk) : hp_K h 42 = (9, 5) := hC.kk 42 (by decide)
theorem CL.K43 {h : PH} {la lw bk : Nat} (hC : CL h la lw bk) : hp_K h 43 = (2, 3) := hC.kk 43 (by decide)
theorem CL.K44 {h : PH} {la lw bk : Nat} (hC : CL h la lw bk) : hp_K h 44 = (20, 190) := hC.kk 44 (by decide)
theorem CL.K45 {h : PH} {la lw bk : Nat} (hC : CL h la lw bk) : hp_K h 45 = (22, 61) := hC.kk 45 (by decide)
theorem CL.R0_0 {h : PH} {la lw bk : Nat} (hC : CL h la lw bk) : hp_F h 0 0 = .ref 1 := hC.rr (0, 0, 1) (by decide)
theorem CL.R0_7 {h : PH} {la lw bk : Nat} (hC : CL h la lw bk) : hp_F h 0 7 = .ref 23 := hC.rr (0, 7, 23) (by decide)
theorem CL.R0_9 {h : PH} {la lw bk : Nat} (hC : CL h la lw bk) : hp_F h 0 9 = .ref 28 := hC.rr (0, 9, 28) (by decide)
theorem CL.R0_14 {h : PH} {la lw bk : Nat} (hC : CL h la lw bk) : hp_F h 0 14 = .ref 29 := hC.rr (0, 14, 29) (by decide)
theorem CL.R0_15 {h : PH} {la lw bk : Nat} (hC : CL h la lw bk) : hp_F h 0 15 = .ref 30 := hC.rr (0, 15, 30) (by decide)
theorem CL.R0_16 {h : PH} {la lw bk : Nat} (hC : CL h la lw bk) : hp_F h 0 16 = .ref 36 := hC.rr (0, 16, 36) (by decide)
theorem CL.R0_17 {h : PH} {la lw bk : Nat} (hC : CL h la lw bk) : hp_F h 0 17 = .ref 39 := hC.rr (0, 17, 39) (by decide)
theorem CL.R0_18 {h : PH} {la lw bk : Nat} (hC : CL h la lw bk) : hp_F h 0 18 = .ref 42 := hC.rr (0, 18, 42) (by decide)
theorem CL.R1_0 {h : PH} {la lw bk : Nat} (hC : CL h la lw bk) : hp_F h 1 0 = .ref 2 := hC.rr (1, 0, 2) (by decide)
theorem CL.R3_0 {h : PH} {la lw bk : Nat} (hC : CL h la lw bk) : hp_F h 3 0 = .ref 4 := hC.rr (3, 0, 4) (by decide)
theorem CL.R5_0 {h : PH} {la lw bk : Nat} (hC : CL h la lw bk) : hp_F h 5 0 = .ref 6 := hC.rr (5, 0, 6) (by decide)
theorem CL.R7_0 {h : PH} {la lw bk : Nat} (hC : CL h la lw bk) : hp_F h 7 0 = .ref 8 := hC.rr (7, 0, 8) (by decide)
theorem CL.R7_1 {h : PH} {la lw bk : Nat} (hC : CL h la lw bk) : hp_F h 7 1 = .ref 9 := hC.rr (7, 1, 9) (by decide)
theorem CL.R7_2 {h : PH} {la lw bk : Nat} (hC : CL h la lw bk) : hp_F h 7 2 = .ref 10 := hC.rr (7, 2, 10) (by decide)
theorem CL.R7_3 {h : PH} {la lw bk : Nat} (hC : CL h la lw bk) : hp_F h 7 3 = .ref 11 := hC.rr (7, 3, 11) (by decide)
theorem CL.R12_0 {h : PH} {la lw bk : Nat} (hC : CL h la lw bk) : hp_F h 12 0 = .ref 13 := hC.rr (12, 0, 13) (by decide)
theorem CL.R12_1 {h : PH} {la lw bk : Nat} (hC : CL h la lw bk) : hp_F h 12 1 = .ref 14 := hC.rr (12, 1, 14) (by decide)
theorem CL.R12_2 {h : PH} {la lw bk : Nat} (hC : CL h la lw bk) : hp_F h 12 2 = .ref 15 := hC.rr (12, 2, 15) (by decide)
theorem CL.R12_3 {h : PH} {la lw bk : Nat} (hC : CL h la lw bk) : hp_F h 12 3 = .ref 16 := hC.rr (12, 3, 16) (by decide)
theorem CL.R17_0 {h : PH} {la lw bk : Nat} (hC : CL h la lw bk) : hp_F h 17 0 = .ref 18 := hC.rr (17, 0, 18) (by decide)
theorem CL.R17_1 {h : PH} {la lw bk : Nat} (hC : CL h la lw bk) : hp_F h 17 1 = .ref 19 := hC.rr (17, 1, 19) (by decide)
theorem CL.R20_0 {h : PH} {la lw bk : Nat} (hC : CL h la lw bk) : hp_F h 20 0 = .ref 21 := hC.rr (20, 0, 21) (by decide)
theorem CL.R20_1 {h : PH} {la lw bk : Nat} (hC : CL h la lw bk) : hp_F h 20 1 = .ref 22 := hC.rr (20, 1, 22) (by decide)
theorem CL.R23_0 {h : PH} {la lw bk : Nat} (hC : CL h la lw bk) : hp_F h 23 0 = .ref 24 := hC.rr (23, 0, 24) (by decide)
theorem CL.R23_1 {h : PH} {la lw bk : Nat} (hC : CL h la lw bk) : hp_F h 23 1 = .ref 25 := hC.rr (23, 1, 25) (by decide)
theorem CL.R23_2 {h : PH} {la lw bk : Nat} (hC : CL h la lw bk) : hp_F h 23 2 = .ref 26 := hC.rr (23, 2, 26) (by decide)
theorem CL.R23_3 {h : PH} {la lw bk : Nat} (hC : CL h la lw bk) : hp_F h 23 3 = .ref 27 := hC.rr (23, 3, 27) (by decide)
theorem CL.R30_0 {h : PH} {la lw bk : Nat} (hC : CL h la lw bk) : hp_F h 30 0 = .ref 31 := hC.rr (30, 0, 31) (by decide)
theorem CL.R30_1 {h : PH} {la lw bk : Nat} (hC : CL h la lw bk) : hp_F h 30 1 = .ref 32 := hC.rr (30, 1, 32) (by decide)
theorem CL.R30_2 {h : PH} {la lw bk : Nat} (hC : CL h la lw bk) : hp_F h 30 2 = .ref 33 := hC.rr (30, 2, 33) (by decide)
theorem CL.R30_3 {h : PH} {la lw bk : Nat} (hC : CL h la lw bk) : hp_F h 30 3 = .ref 34 := hC.rr (30, 3, 34) (by decide)
theorem CL.R30_4 {h : PH} {la lw bk : Nat} (hC : CL h la lw bk) : hp_F h 30 4 = .ref 35 := hC.rr (30, 4, 35) (by decide)
theorem CL.R36_0 {h : PH} {la lw bk : Nat} (hC : CL h la lw bk) : hp_F h 36 0 = .ref 37 := hC.rr (36, 0, 37) (by decide)
theorem CL.R36_1 {h : PH} {la lw bk : Nat} (hC : CL h la lw bk) : hp_F h 36 1 = .ref 38 := hC.rr (36, 1, 38) (by decide)
theorem CL.R39_0 {h : PH} {la lw bk : Nat} (hC : CL h la lw bk) : hp_F h 39 0 = .ref 40 := hC.rr (39, 0, 40) (by decide)
theorem CL.R42_0 {h : PH} {la lw bk : Nat} (hC : CL h la lw bk) : hp_F h 42 0 = .ref 43 := hC.rr (42, 0, 43) (by decide)
theorem CL.R42_1 {h : PH} {la lw bk : Nat} (hC : CL h la lw bk) : hp_F h 42 1 = .ref 45 := hC.rr (42, 1, 45) (by decide)
theorem CL.R43_0 {h : PH} {la lw bk : Nat} (hC : CL h la lw bk) : hp_F h 43 0 = .ref 44 := hC.rr (43, 0, 44) (by decide)
/-- what a question of the class may change: rows and fields -/
abbrev CX : Nat → Prop := fun c => c ∈ ([10, 11, 15, 16, 29, 31, 32, 33, 34, 35, 37, 38, 40, 44, 45] : List Nat)
abbrev CY : Nat → Nat → Prop := fun a j => (a, j) ∈ ([(30, 5), (30, 6), (30, 7), (30, 8), (39, 1), (39, 2), (39, 3), (42, 2), (42, 3), (42, 4), (43, 1), (43, 2)] : List (Nat × Nat))
def COk (ans : Int32) (h : PH) : Res → PH → Prop := fun r h' => r = .inl (some (.int ans)) ∧ Same CX CY h h'
theorem CL.same {h h' : PH} {la lw bk : Nat} {X : Nat → Prop} {Y : Nat → Nat → Prop} (hC : CL h la lw bk) (hS : Same X Y h h') (hY : ∀ e ∈ clR, ¬ Y e.1 e.2.1) (hY0 : ∀ j, 1 ≤ j → j ≤ 6 → ¬ Y 0 j) : CL h' la lw bk :=
  ⟨fun i hi => (hS.2.1 i).trans (hC.kk i hi), fun e he => (hS.2.2.1 _ _ (hY e he)).trans (hC.rr e he), (hS.2.2.1 _ _ (hY0 1 (by decide) (by decide))).trans hC.D1, (hS.2.2.1 _ _ (hY0 2 (by decide) (by decide))).trans hC.D2, (hS.2.2.1 _ _ (hY0 3 (by decide) (by decide))).trans hC.D3, (hS.2.2.1 _ _ (hY0 4 (by decide) (by decide))).trans hC.D4, (hS.2.2.1 _ _ (hY0 5 (by decide) (by decide))).trans hC.D5, (hS.2.2.1 _ _ (hY0 6 (by decide) (by decide))).trans hC.D6, hC.la, hC.lw, hC.bk⟩
theorem CL.scr {h h' : PH} {la lw bk : Nat} (hC : CL h la lw bk) (hS : Same CX CY h h') : CL h' la lw bk := hC.same hS (by decide) (fun j h1 h2 => by simp [CY])
theorem Same.law {h h' : PH} {lw : Nat} (hS : Same (fun c => c = lw + 3 ∨ c = lw + 4) (fun _ _ => False) h h') (hl : lw = 7 ∨ lw = 12) : Same CX CY h h' := hS.mono (fun c hc => by rcases hl with rfl | rfl <;> rcases hc with rfl | rfl <;> decide) (fun _ _ e => e.elim)
theorem LandAt.scr {h h' : PH} {la lw bk np du : Nat} {f : Nat → Int32} (hL : LandAt h la np du f) (hC : CL h la lw bk) (hS : Same CX CY h h') : LandAt h' la np du f := by
  rcases hC.la with rfl | rfl
  · exact hL.same hS (by decide) (fun j => by simp [CY])
  · exact hL.same hS (by decide) (fun j => by simp [CY])
theorem LawAt.scr {h h' : PH} {la lw bk sz : Nat} {kf vf : Nat → Int32} (hW : LawAt h lw sz kf vf) (hC : CL h la lw bk) (hS : Same CX CY h h') : LawAt h' lw sz kf vf := by
  rcases hC.lw with rfl | rfl
  · exact hW.same hS (by decide) (by decide) (fun j => by simp [CY])
  · exact hW.same hS (by decide) (by decide) (fun j => by simp [CY])
set_option maxHeartbeats 4000000 in
set_option maxRecDepth 100000 in
theorem c_within_t {l : Launch} {Z : EE} (hst : l.stackTraces = false) (x lo hi : Int32) (h1 : lo ≤ x) (h2 : x ≤ hi) (h : PH) : CC l Z m_X10_within 0 0 0 [.ref 0, .int x, .int lo, .int hi] h (RT none h) := by
  refine ee_entry hst (by decide +kernel) rfl rfl (by simp [Value.category]) (Nat.le_of_ble_eq_true rfl) ?_
  refine ww_lv (lv2 := [.ref 0, .int x, .int lo, .int hi]) rfl ?_
  refine ww_iload_n dX10_within_0 rfl rfl ?_
  refine ww_iload_n dX10_within_1 rfl rfl ?_
  refine ww_icmp_lt (tgt := 10) dX10_within_2 (by decide) (fun c2 => ?_) (fun c2 => ?_)
  · exact absurd h1 (Int32.not_le.mpr c2)
  · refine ww_iload_n dX10_within_5 rfl rfl ?_
    refine ww_iload_n dX10_within_6 rfl rfl ?_
    refine ww_icmp_le (tgt := 31) dX10_within_7 (by decide) (fun c7 => ?_) (fun c7 => ?_)
    · exact ww_vret dX10_within_31 rfl ⟨rfl, rfl⟩
    · exact absurd h2 (by first | exact c7 | exact Int32.not_le.mpr c7)
set_option maxHeartbeats 4000000 in
set_option maxRecDepth 100000 in
theorem c_within_f {l : Launch} {Z : EE} (hst : l.stackTraces = false) {h : PH} (hk : hp_K h 0 = (10, 19)) {wr : Int32} (hwr : hp_F h 0 13 = .int wr) (x lo hi : Int32) (hout : ¬ (lo ≤ x ∧ x ≤ hi)) : CC l Z m_X10_within 6 1 6 [.ref 0, .int x, .int lo, .int hi] h (TH iaX (hp_sF h 0 13 (.int (wr + nI 1)))) := by
  refine ee_entry hst (by decide +kernel) rfl rfl (by simp [Value.category]) (Nat.le_of_ble_eq_true rfl) ?_
  refine ww_lv (lv2 := [.ref 0, .int x, .int lo, .int hi]) rfl ?_
  refine ww_iload_n dX10_within_0 rfl rfl ?_
  refine ww_iload_n dX10_within_1 rfl rfl ?_
  refine ww_icmp_lt (tgt := 10) dX10_within_2 (by decide) (fun c2 => ?_) (fun c2 => ?_)
  · refine ww_aload_n dX10_within_10 rfl rfl ?_
    refine ww_dup dX10_within_11 rfl ?_
    refine ww_get 13 dX10_within_12 hk rfl (by decide) inX10 wg_277 hwr ?_
    refine ww_iconst (v := nI 1) dX10_within_15 (by decide) ?_
    refine ww_iadd dX10_within_16 ?_
    refine ww_pfI tyX10 13 dX10_within_17 hk rfl (by decide) inX10 tyX10_ok nmX10 wg_277 rfl rfl ?_
    exact ww_throwW (bc := 0) (bs := 0) (i := 0) ["java/lang/RuntimeException", "java/lang/Exception"] (by decide) (by decide) dX10_within_20 dX10_within_23 dX10_within_24 dX10_within_27 dX10_within_30 rfl at_IAE (by decide) (by decide) (by decide) rfl ⟨rfl, rfl⟩
  · refine ww_iload_n dX10_within_5 rfl rfl ?_
    refine ww_iload_n dX10_within_6 rfl rfl ?_
    refine ww_icmp_le (tgt := 31) dX10_within_7 (by decide) (fun c7 => ?_) (fun c7 => ?_)
    · exact absurd ⟨Int32.not_lt.mp c2, c7⟩ hout
    · refine ww_aload_n dX10_within_10 rfl rfl ?_
      refine ww_dup dX10_within_11 rfl ?_
      refine ww_get 13 dX10_within_12 hk rfl (by decide) inX10 wg_277 hwr ?_
      refine ww_iconst (v := nI 1) dX10_within_15 (by decide) ?_
      refine ww_iadd dX10_within_16 ?_
      refine ww_pfI tyX10 13 dX10_within_17 hk rfl (by decide) inX10 tyX10_ok nmX10 wg_277 rfl rfl ?_
      exact ww_throwW (bc := 0) (bs := 0) (i := 0) ["java/lang/RuntimeException", "java/lang/Exception"] (by decide) (by decide) dX10_within_20 dX10_within_23 dX10_within_24 dX10_within_27 dX10_within_30 rfl at_IAE (by decide) (by decide) (by decide) rfl ⟨rfl, rfl⟩
set_option maxHeartbeats 4000000 in
set_option maxRecDepth 100000 in
theorem c_needPerson_t {l : Launch} {Z : EE} (hst : l.stackTraces = false) {h : PH} (hk : hp_K h 0 = (10, 19)) {la np : Nat} (h1 : hp_F h 0 1 = .ref la) (hkl : hp_K h la = (2, 3)) (hnp : hp_F h la 1 = .int (nI np)) (h6 : np ≤ 6) (q : Nat) (hq : q < np) : CC l Z m_X10_needPerson 0 0 0 [.ref 0, .int (nI q)] h (RT none h) := by
  refine ee_entry hst (by decide +kernel) rfl rfl (by simp [Value.category]) (Nat.le_of_ble_eq_true rfl) ?_
  refine ww_lv (lv2 := [.ref 0, .int (nI q)]) rfl ?_
  refine ww_iload_n dX10_needPerson_0 rfl rfl ?_
  refine ww_if_ltN (tgt := 15) dX10_needPerson_1 (by decide) (by omega) ?_
  refine ww_iload_n dX10_needPerson_4 rfl rfl ?_
  refine ww_aload_n dX10_needPerson_5 rfl rfl ?_
  refine ww_get 1 dX10_needPerson_6 hk rfl (by decide) inX10 wg_265 h1 ?_
  refine ww_getN 1 dX10_needPerson_9 hkl rfl (by decide) inX2 wn_77 hnp ?_
  refine ww_icmp_ltN (tgt := 36) dX10_needPerson_12 (by decide) (by omega) (by omega) (fun c12 => ?_) (fun c12 => ?_)
  · exact ww_vret dX10_needPerson_36 rfl ⟨rfl, rfl⟩
  · exfalso; omega
set_option maxHeartbeats 4000000 in
set_option maxRecDepth 100000 in
theorem c_needPerson_f {l : Launch} {Z : EE} (hst : l.stackTraces = false) {h : PH} (hk : hp_K h 0 = (10, 19)) {la np : Nat} (h1 : hp_F h 0 1 = .ref la) (hkl : hp_K h la = (2, 3)) (hnp : hp_F h la 1 = .int (nI np)) (h6 : np ≤ 6) {mi : Int32} (hmi : hp_F h 0 12 = .int mi) (x : Int32) (hout : outP np x) : CC l Z m_X10_needPerson 6 1 6 [.ref 0, .int x] h (TH nsX (hp_sF h 0 12 (.int (mi + nI 1)))) := by
  refine ee_entry hst (by decide +kernel) rfl rfl (by simp [Value.category]) (Nat.le_of_ble_eq_true rfl) ?_
  refine ww_lv (lv2 := [.ref 0, .int x]) rfl ?_
  refine ww_iload_n dX10_needPerson_0 rfl rfl ?_
  refine ww_if_lt (tgt := 15) dX10_needPerson_1 (by decide) (fun c1 => ?_) (fun c1 => ?_)
  · refine ww_aload_n dX10_needPerson_15 rfl rfl ?_
    refine ww_dup dX10_needPerson_16 rfl ?_
    refine ww_get 12 dX10_needPerson_17 hk rfl (by decide) inX10 wg_276 hmi ?_
    refine ww_iconst (v := nI 1) dX10_needPerson_20 (by decide) ?_
    refine ww_iadd dX10_needPerson_21 ?_
    refine ww_pfI tyX10 12 dX10_needPerson_22 hk rfl (by decide) inX10 tyX10_ok nmX10 wg_276 rfl rfl ?_
    exact ww_throwN (bc := 0) (bs := 0) (i := 4) rfl dX10_needPerson_25 dX10_needPerson_28 dX10_needPerson_29 dX10_needPerson_32 dX10_needPerson_35 rfl at_NSEE (by decide) (by decide) rfl ⟨rfl, rfl⟩
  · refine ww_iload_n dX10_needPerson_4 rfl rfl ?_
    refine ww_aload_n dX10_needPerson_5 rfl rfl ?_
    refine ww_get 1 dX10_needPerson_6 hk rfl (by decide) inX10 wg_265 h1 ?_
    refine ww_getN 1 dX10_needPerson_9 hkl rfl (by decide) inX2 wn_77 hnp ?_
    refine ww_icmp_lt (tgt := 36) dX10_needPerson_12 (by decide) (fun c12 => ?_) (fun c12 => ?_)
    · exact absurd (by exact ⟨by first | exact Int32.not_lt.mp c1 | exact c1, c12⟩) hout
    · refine ww_aload_n dX10_needPerson_15 rfl rfl ?_
      refine ww_dup dX10_needPerson_16 rfl ?_
      refine ww_get 12 dX10_needPerson_17 hk rfl (by decide) inX10 wg_276 hmi ?_
      refine ww_iconst (v := nI 1) dX10_needPerson_20 (by decide) ?_
      refine ww_iadd dX10_needPerson_21 ?_
      refine ww_pfI tyX10 12 dX10_needPerson_22 hk rfl (by decide) inX10 tyX10_ok nmX10 wg_276 rfl rfl ?_
      exact ww_throwN (bc := 0) (bs := 0) (i := 4) rfl dX10_needPerson_25 dX10_needPerson_28 dX10_needPerson_29 dX10_needPerson_32 dX10_needPerson_35 rfl at_NSEE (by decide) (by decide) rfl ⟨rfl, rfl⟩
set_option maxHeartbeats 4000000 in
set_option maxRecDepth 100000 in
theorem c_needNumber_t {l : Launch} {Z : EE} (hst : l.stackTraces = false) {h : PH} (hk : hp_K h 0 = (10, 19)) (n : Nat) (hn : n ≤ 60) : CC l Z m_X10_needNumber 0 0 0 [.ref 0, .int (nI n)] h (RT none h) := by
  refine ee_entry hst (by decide +kernel) rfl rfl (by simp [Value.category]) (Nat.le_of_ble_eq_true rfl) ?_
  refine ww_lv (lv2 := [.ref 0, .int (nI n)]) rfl ?_
  refine ww_iload_n dX10_needNumber_0 rfl rfl ?_
  refine ww_if_ltN (tgt := 10) dX10_needNumber_1 (by decide) (by omega) ?_
  refine ww_iload_n dX10_needNumber_4 rfl rfl ?_
  refine ww_bipush (v := nI 60) dX10_needNumber_5 (by decide) ?_
  refine ww_icmp_leN (tgt := 31) dX10_needNumber_7 (by decide) (by omega) (by omega) (fun c7 => ?_) (fun c7 => ?_)
  · exact ww_vret dX10_needNumber_31 rfl ⟨rfl, rfl⟩
  · exfalso; omega
set_option maxHeartbeats 4000000 in
set_option maxRecDepth 100000 in
theorem c_needNumber_f {l : Launch} {Z : EE} (hst : l.stackTraces = false) {h : PH} (hk : hp_K h 0 = (10, 19)) {mi : Int32} (hmi : hp_F h 0 12 = .int mi) (x : Int32) (hout : outR 0 60 x) : CC l Z m_X10_needNumber 6 1 6 [.ref 0, .int x] h (TH nsX (hp_sF h 0 12 (.int (mi + nI 1)))) := by
  refine ee_entry hst (by decide +kernel) rfl rfl (by simp [Value.category]) (Nat.le_of_ble_eq_true rfl) ?_
  refine ww_lv (lv2 := [.ref 0, .int x]) rfl ?_
  refine ww_iload_n dX10_needNumber_0 rfl rfl ?_
  refine ww_if_lt (tgt := 10) dX10_needNumber_1 (by decide) (fun c1 => ?_) (fun c1 => ?_)
  · refine ww_aload_n dX10_needNumber_10 rfl rfl ?_
    refine ww_dup dX10_needNumber_11 rfl ?_
    refine ww_get 12 dX10_needNumber_12 hk rfl (by decide) inX10 wg_276 hmi ?_
    refine ww_iconst (v := nI 1) dX10_needNumber_15 (by decide) ?_
    refine ww_iadd dX10_needNumber_16 ?_
    refine ww_pfI tyX10 12 dX10_needNumber_17 hk rfl (by decide) inX10 tyX10_ok nmX10 wg_276 rfl rfl ?_
    exact ww_throwN (bc := 0) (bs := 0) (i := 5) rfl dX10_needNumber_20 dX10_needNumber_23 dX10_needNumber_24 dX10_needNumber_27 dX10_needNumber_30 rfl at_NSEE (by decide) (by decide) rfl ⟨rfl, rfl⟩
  · refine ww_iload_n dX10_needNumber_4 rfl rfl ?_
    refine ww_bipush (v := nI 60) dX10_needNumber_5 (by decide) ?_
    refine ww_icmp_le (tgt := 31) dX10_needNumber_7 (by decide) (fun c7 => ?_) (fun c7 => ?_)
    · exact absurd ⟨by first | exact Int32.not_lt.mp c1 | exact c1, c7⟩ hout
    · refine ww_aload_n dX10_needNumber_10 rfl rfl ?_
      refine ww_dup dX10_needNumber_11 rfl ?_
      refine ww_get 12 dX10_needNumber_12 hk rfl (by decide) inX10 wg_276 hmi ?_
      refine ww_iconst (v := nI 1) dX10_needNumber_15 (by decide) ?_
      refine ww_iadd dX10_needNumber_16 ?_
      refine ww_pfI tyX10 12 dX10_needNumber_17 hk rfl (by decide) inX10 tyX10_ok nmX10 wg_276 rfl rfl ?_
      exact ww_throwN (bc := 0) (bs := 0) (i := 5) rfl dX10_needNumber_20 dX10_needNumber_23 dX10_needNumber_24 dX10_needNumber_27 dX10_needNumber_30 rfl at_NSEE (by decide) (by decide) rfl ⟨rfl, rfl⟩
