section WWX
variable {l : Launch} {Z : EE} {M : MM} {d bc bs pc : Nat} {lv st : List Value} {h : PH} {Post : Res → PH → Prop}
/-- behind a call that never throws -/
theorem ee_afterN {p : Program} {e : Env} {s : State} {m : MethodId} {args a0 : Array Value} {below : List Frame} {meth : Method} {c : Code} {ws0 ws : va_W} {mc ms mc' ms' cells slots : Nat} {H : Heap} {locs : List Loc} {rls : Array Slot} {st0 rrest : List Value} {P' : Res → PH → Prop}
    (hr : vx_Run p l e (ee_rm d mc ms) s m args below meth c H locs cells slots mc' ms' (F0 m pc rls st0) rrest (ee_Qc Z ws H.size P' a0) (ee_Xc Z ws H.size P') (va_A ws H.size)) (C : ee_Cx l Z M p s m args meth c ws0) (hD : va_D (va_A ws0 s.heap.size) ws) (hS : va_S (va_A ws0 s.heap.size) s.heap H locs) (hL : ee_LR Z ws (mm_L M) lv rls) (hF : ee_F2 (ee_VR Z ws) st rrest) (hE : ee_Ext ws0 ws)
    (h1 : cells + (bc + mc') ≤ mc) (h2 : slots + (bs + ms') ≤ ms) (hno : ∀ E h', ¬ P' (.inr E) h')
    (kk : ∀ v h', P' (.inl v) h' → WW l Z M d bc bs (pc + 3) lv (v.toList ++ st) h' Post) :
    W p l e (ee_rm d mc ms) s m args below meth c H locs cells slots (vx_MQ below (ee_Qc Z ws0 s.heap.size Post) (ee_Xc Z ws0 s.heap.size Post) args s mc ms (va_A ws0 s.heap.size)) (F0 m pc rls st0) := by
  have hAA := ee_AA hD hS
  intro T hT X
  rcases hr T hT X with ⟨v, st₀, t, T', L, g0, X', gL, e1, e2, ⟨⟨v0, ov, h', ws', hv, hp, hvr, hHR, hP', hD', hE'⟩, hFr⟩, st⟩ | ⟨q, st₀, t, T', L, E, ce, g0, X', gL, e1, e2, ⟨⟨h', ws', hp, hHR, hP', hD', hE'⟩, hFr⟩, hce, hcv, hcl, st⟩
  · cases hv
    obtain ⟨k1, k2, k3⟩ := vx_keep g0 e1 hS (fun q _ hq => hAA q hq) hAA gL hFr
    obtain ⟨t2, a1, b1⟩ := kk v0 h' hp p e s m args below meth c ws0 mc ms ws' T'.heap (locs ++ L) (cells + mc') (slots + ms') rls _ C ⟨hHR, by rw [e1]; exact hP', hD'.weaken (fun _ q _ hq => hAA q.1 hq), k3, hL.ext hE', ee_F2.app' _ _ _ _ hvr (hF.ext hE'), hE.tr hE'⟩ (by omega) (by omega) T' rfl X'
    exact ⟨t2, st t2 a1, b1⟩
  · exact absurd hp (hno E h')
/-- behind a call that throws, caught here -/
theorem ee_afterX {p : Program} {e : Env} {s : State} {m : MethodId} {args a0 : Array Value} {below : List Frame} {meth : Method} {c : Code} {ws0 ws : va_W} {mc ms mc' ms' cells slots : Nat} {H : Heap} {locs : List Loc} {rls : Array Slot} {st0 rrest : List Value} {P' : Res → PH → Prop}
    (hr : vx_Run p l e (ee_rm d mc ms) s m args below meth c H locs cells slots mc' ms' (F0 m pc rls st0) rrest (ee_Qc Z ws H.size P' a0) (ee_Xc Z ws H.size P') (va_A ws H.size)) (C : ee_Cx l Z M p s m args meth c ws0) (hD : va_D (va_A ws0 s.heap.size) ws) (hS : va_S (va_A ws0 s.heap.size) s.heap H locs) (hL : ee_LR Z ws (mm_L M) lv rls) (hF : ee_F2 (ee_VR Z ws) st rrest) (hE : ee_Ext ws0 ws)
    (hno : ∀ v h', ¬ P' (.inl v) h') {E0 : String} (hE0 : ∀ E h', P' (.inr E) h' → E = E0) (pre : List (Nat × Nat × Nat × Nat)) (x : Nat × Nat × Nat × Nat) (suf : List (Nat × Nat × Nat × Nat)) (hsp : mm_h M = pre ++ x :: suf) (hpass : ∀ z ∈ tableOf pre, covers z pc = false ∨ (z.catchType ≠ 0 ∧ ∃ nm : String, (Cond.classLink (mm_own M) z.catchType nm).before args s = true ∧ va_Nc E0 nm s)) (hcov : covers ⟨x.1, x.2.1, x.2.2.1, x.2.2.2⟩ pc = true) (hx0 : x.2.2.2 ≠ 0) {nm : String} (hlk : Cond.classLink (mm_own M) x.2.2.2 nm ∈ TG) (hcst : Cond.castable E0 nm ∈ TN)
    (kx : ∀ h', P' (.inr E0) h' → ∀ (q9 : Nat) (ws' : va_W) (H' : Heap) (locs' : List Loc), ee_HR Z ws' h' → va_P Z.1 vwCl ws' H' → va_D (va_A ws0 s.heap.size) ws' → va_S (va_A ws0 s.heap.size) s.heap H' locs' → ee_LR Z ws' (mm_L M) lv rls → ee_Ext ws0 ws' → W p l e (ee_rm d mc ms) s m args below meth c H' locs' (cells + mc') (slots + ms') (vx_MQ below (ee_Qc Z ws0 s.heap.size Post) (ee_Xc Z ws0 s.heap.size Post) args s mc ms (va_A ws0 s.heap.size)) (F0 m x.2.2.1 rls [.ref q9])) :
    W p l e (ee_rm d mc ms) s m args below meth c H locs cells slots (vx_MQ below (ee_Qc Z ws0 s.heap.size Post) (ee_Xc Z ws0 s.heap.size Post) args s mc ms (va_A ws0 s.heap.size)) (F0 m pc rls st0) := by
  have hAA := ee_AA hD hS
  intro T hT X
  rcases hr T hT X with ⟨v, st₀, t, T', L, g0, X', gL, e1, e2, ⟨⟨v0, ov, h', ws', hv, hp, hvr, hHR, hP', hD', hE'⟩, hFr⟩, st⟩ | ⟨q, st₀, t, T', L, E, ce, g0, X', gL, e1, e2, ⟨⟨h', ws', hp, hHR, hP', hD', hE'⟩, hFr⟩, hce, hcv, hcl, st⟩
  · exact absurd hp (hno v0 h')
  · obtain ⟨k1, k2, k3⟩ := vx_keep g0 e1 hS (fun q _ hq => hAA q hq) hAA gL hFr
    cases hE0 E h' hp
    obtain ⟨hx, hb, hr9, hml, hown, hts, hlocks, htab, hK, hZ, hst, hnm⟩ := C
    have hw := kx h' hp q ws' T'.heap (locs ++ L) hHR (by rw [e1]; exact hP') (hD'.weaken (fun _ q _ hq => hAA q.1 hq)) k3 (hL.ext hE') (hE.tr hE')
    obtain ⟨t2, a1, b1⟩ := (vx_catch (l := l) (p := p) (e := e) (R := ee_rm d mc ms) (s := s) (m := m) (args := args) (below := below) (meth := meth) (c := c) (H := T'.heap) (locs := locs ++ L) (cells := cells + mc') (slots := slots + ms') (ls := rls) (rest := rrest) (pc := pc) (E := E0) (ce := ce) (q := q) (name := nm) hown (tableOf pre) ⟨x.1, x.2.1, x.2.2.1, x.2.2.2⟩ (tableOf suf) (by rw [htab, hsp]; unfold tableOf; rw [List.map_append]; rfl) hpass hcov hx0 (hts _ hlk) (va_Nw.use rfl (hZ.2.2.2.2.2.2.2.1 _ hcst)) (by rw [e1]; exact hce) hcv hcl hw) T' rfl X'
    exact ⟨t2, st.trans a1, b1⟩
theorem ww_callVn {N : MM} {a t nn idx n d' mc' ms' : Nat} {T : u_T} {As : List Value} {P' : Res → PH → Prop} (hC : CC l Z N d' mc' ms' ((.ref a) :: As) h P') (hd : decode (mm_c M) pc = .ok (.invokevirtual idx, 3)) (hno : ∀ E h', ¬ P' (.inr E) h') (hhN : mm_h N = []) (hk : hp_K h a = (t, nn)) (hc : vwCl[t]? = some ((mm_y N).cls, T, nn)) (hok : mm_ok N n) (hn : As.length = n)
    (w1 : Cond.methodLink (mm_own M) idx (mm_y N) ∈ TG) (w2 : Cond.instanceMethod (mm_y N) ∈ TG) (w3 : Cond.selects (mm_y N).cls (mm_y N) (mm_y N) ∈ TG) (w4 : Cond.initialized (mm_y N).cls ∈ TG) (w5 : Cond.code (mm_y N) (mm_c N) (mm_L N) (mm_r N) ∈ TG)
    (hdd : d' + 1 ≤ d) (hLL : mm_L N ≤ 41) (hcat : (st.map fun v => v.category).sum ≤ 8)
    (kk : ∀ v h', P' (.inl v) h' → WW l Z M d bc bs (pc + 3) lv (v.toList ++ st) h' Post) : WW l Z M d (bc + mc') (bs + ms') pc lv (As.reverse ++ (.ref a) :: st) h Post := by
  intro p e s m args below meth c ws0 mc ms ws H locs cells slots rls rst C' S h1 h2
  have C'' := C'
  obtain ⟨hx, hb, hr, hml, hown, hts, hlocks, htab, hK, hZ, hst, hnm⟩ := C''
  obtain ⟨hHR, hP, hD, hS, hL, hF, hE⟩ := S
  obtain ⟨m1, m2, rfl, G1, G2⟩ := ee_F2.app _ _ _ hF
  obtain ⟨b0, rrest, rfl, q0, F1⟩ := G2.c
  obtain ⟨q, fs, g1, g2, g3, g4⟩ := hHR.obj hk (ee_cl hc)
  have q1 := q0
  cases g4 _ q0
  have G3 := ee_F2.rev _ _ G1
  rw [List.reverse_reverse] at G3
  have z3 : (ee_rm d' mc' ms').frames + 1 ≤ (ee_rm d mc ms).frames := hdd
  have z4 : 8 + (mm_L N + 11) + (ee_rm d' mc' ms').locals ≤ (ee_rm d mc ms).locals := by show 8 + (mm_L N + 11) + 60 * d' ≤ 60 * d; omega
  have hM := hC ws H.size ((.ref q) :: m1.reverse) hHR ⟨q1, G3⟩
  have hgin : GoodIn TG (wsV (mm_own M) idx (mm_y N).cls (mm_y N) (mm_ws N)) := by
    intro w hw
    have hw2 : w ∈ TG := by
      simp only [wsV, mm_ws, mm_cd_nil hhN, List.mem_append, List.mem_cons, List.not_mem_nil, or_false] at hw
      rcases hw with (rfl | rfl | rfl | rfl) | (rfl | hw)
      · exact w1
      · exact w2
      · exact w3
      · exact w4
      · exact w5
      · exact hw
    exact tg_good w hw2
  have hlen : m1.reverse.length = n := by rw [List.length_reverse, ee_F2.len _ _ G1, List.length_reverse]; exact hn
  refine ee_afterN (mc' := mc') (ms' := ms') (st := st) (vx_runV (As := m1.reverse) (rest := rrest) ⟨hx, hb, hml, hown, hts⟩ hM (cwV n hts hgin (by unfold mm_ws; rw [mm_cd_nil hhN]) rfl rfl ⟨rfl, hok⟩ ⟨z3, z4⟩) ⟨ee_PcB, va_recv hK hP hc g1, fun U hU hW => ee_PcU hP hK hZ hD hS U hU hW⟩ rfl hlen hL.1 (by rw [List.reverse_reverse]) (lv_room (by rw [ee_F2.cats _ _ F1]; exact hcat)) hd ⟨?_, ?_⟩) C' hD hS hL F1 hE h1 h2 hno kk
  · show cells + mc' ≤ mc; omega
  · show slots + ms' ≤ ms; omega
theorem ww_callVx {N : MM} {a t nn idx n d' mc' ms' : Nat} {T : u_T} {As : List Value} {P' : Res → PH → Prop} (hC : CC l Z N d' mc' ms' ((.ref a) :: As) h P') (hd : decode (mm_c M) pc = .ok (.invokevirtual idx, 3)) {E0 : String} (hno : ∀ v h', ¬ P' (.inl v) h') (hE0 : ∀ E h', P' (.inr E) h' → E = E0) (pre : List (Nat × Nat × Nat × Nat)) (x : Nat × Nat × Nat × Nat) (suf : List (Nat × Nat × Nat × Nat)) (hsp : mm_h M = pre ++ x :: suf) (hpass : pre = [] ∨ ∃ z, pre = [z] ∧ z.2.2.2 ≠ 0 ∧ Cond.classLink (mm_own M) z.2.2.2 "java/util/NoSuchElementException" ∈ TG ∧ E0 = "java/lang/IllegalArgumentException") (hcov : covers ⟨x.1, x.2.1, x.2.2.1, x.2.2.2⟩ pc = true) (hx0 : x.2.2.2 ≠ 0) {nm : String} (hlk : Cond.classLink (mm_own M) x.2.2.2 nm ∈ TG) (hcst : Cond.castable E0 nm ∈ TN) {i ln : Nat} (hil : i < mm_L M) (hq9 : ee_nl lv i = true) (hda : decode (mm_c M) x.2.2.1 = .ok (.astore i, 2) ∧ ln = 2 ∨ ∃ k : Fin 4, (k : Nat) = i ∧ decode (mm_c M) x.2.2.1 = .ok (.astore_n k, 1) ∧ ln = 1) (hhN : mm_h N = []) (hk : hp_K h a = (t, nn)) (hc : vwCl[t]? = some ((mm_y N).cls, T, nn)) (hok : mm_ok N n) (hn : As.length = n)
    (w1 : Cond.methodLink (mm_own M) idx (mm_y N) ∈ TG) (w2 : Cond.instanceMethod (mm_y N) ∈ TG) (w3 : Cond.selects (mm_y N).cls (mm_y N) (mm_y N) ∈ TG) (w4 : Cond.initialized (mm_y N).cls ∈ TG) (w5 : Cond.code (mm_y N) (mm_c N) (mm_L N) (mm_r N) ∈ TG)
    (hdd : d' + 1 ≤ d) (hLL : mm_L N ≤ 41) (hcat : (st.map fun v => v.category).sum ≤ 8)
    (kx : ∀ h', P' (.inr E0) h' → WW l Z M d bc bs (x.2.2.1 + ln) (lv.set i UU) [] h' Post) : WW l Z M d (bc + mc') (bs + ms') pc lv (As.reverse ++ (.ref a) :: st) h Post := by
  intro p e s m args below meth c ws0 mc ms ws H locs cells slots rls rst C' S h1 h2
  have C'' := C'
  obtain ⟨hx, hb, hr, hml, hown, hts, hlocks, htab, hK, hZ, hst, hnm⟩ := C''
  obtain ⟨hHR, hP, hD, hS, hL, hF, hE⟩ := S
  obtain ⟨m1, m2, rfl, G1, G2⟩ := ee_F2.app _ _ _ hF
  obtain ⟨b0, rrest, rfl, q0, F1⟩ := G2.c
  obtain ⟨q, fs, g1, g2, g3, g4⟩ := hHR.obj hk (ee_cl hc)
  have q1 := q0
  cases g4 _ q0
  have G3 := ee_F2.rev _ _ G1
  rw [List.reverse_reverse] at G3
  have z3 : (ee_rm d' mc' ms').frames + 1 ≤ (ee_rm d mc ms).frames := hdd
  have z4 : 8 + (mm_L N + 11) + (ee_rm d' mc' ms').locals ≤ (ee_rm d mc ms).locals := by show 8 + (mm_L N + 11) + 60 * d' ≤ 60 * d; omega
  have hM := hC ws H.size ((.ref q) :: m1.reverse) hHR ⟨q1, G3⟩
  have hgin : GoodIn TG (wsV (mm_own M) idx (mm_y N).cls (mm_y N) (mm_ws N)) := by
    intro w hw
    have hw2 : w ∈ TG := by
      simp only [wsV, mm_ws, mm_cd_nil hhN, List.mem_append, List.mem_cons, List.not_mem_nil, or_false] at hw
      rcases hw with (rfl | rfl | rfl | rfl) | (rfl | hw)
      · exact w1
      · exact w2
      · exact w3
      · exact w4
      · exact w5
      · exact hw
    exact tg_good w hw2
  have hlen : m1.reverse.length = n := by rw [List.length_reverse, ee_F2.len _ _ G1, List.length_reverse]; exact hn
  refine ee_afterX (mc' := mc') (ms' := ms') (st := st) (vx_runV (As := m1.reverse) (rest := rrest) ⟨hx, hb, hml, hown, hts⟩ hM (cwV n hts hgin (by unfold mm_ws; rw [mm_cd_nil hhN]) rfl rfl ⟨rfl, hok⟩ ⟨z3, z4⟩) ⟨ee_PcB, va_recv hK hP hc g1, fun U hU hW => ee_PcU hP hK hZ hD hS U hU hW⟩ rfl hlen hL.1 (by rw [List.reverse_reverse]) (lv_room (by rw [ee_F2.cats _ _ F1]; exact hcat)) hd ⟨?_, ?_⟩) C' hD hS hL F1 hE hno hE0 pre x suf hsp ?_ hcov hx0 hlk hcst ?_
  · show cells + mc' ≤ mc; omega
  · show slots + ms' ≤ ms; omega
  · rcases hpass with rfl | ⟨z, rfl, hz0, hzl, rfl⟩
    · intro z hz; cases hz
    · intro y hy
      cases List.mem_singleton.mp hy
      exact Or.inr ⟨hz0, _, hts _ hzl, hZ.2.2.2.2.2.2.2.2.1⟩
  · intro h' hp q9 ws' H' locs' g1 g2 g3 g4 g5 g6
    have key : ∀ rls2, lv_has rls2 (mm_L M) ((i, .ref q9) :: (lv_all rls).filter (fun q => !(q.1 == i) && !(q.1 + 1 == i && q.2.category == 2))) → ee_LR Z ws' (mm_L M) (lv.set i UU) rls2 := by
      intro rls2 hl2
      refine ⟨hl2.1, hl2.2.1, fun j w hj => ?_⟩
      by_cases hji : j = i
      · subst hji
        by_cases hl : j < lv.length
        · rw [List.getElem?_set_self hl] at hj
          cases hj
          exact Or.inl rfl
        · rw [List.getElem?_eq_none (by rw [List.length_set]; omega)] at hj
          cases hj
      · rw [List.getElem?_set_ne (fun e => hji e.symm)] at hj
        rcases g5.2.2 j w hj with e | ⟨w', u1, u2⟩
        · exact Or.inl e
        · refine Or.inr ⟨w', u1, hl2.2.2 (j, w') (List.mem_cons_of_mem _ (List.mem_filter.mpr ⟨lv_all_mem.mpr u2, ?_⟩))⟩
          have hc : ¬ (j + 1 = i ∧ w'.category = 2) := by
            rintro ⟨e1, e2⟩
            subst e1
            rw [u1.cat] at e2
            simp only [ee_nl, hj] at hq9
            cases w <;> simp_all [Value.category]
          simp only [Bool.and_eq_true, Bool.not_eq_true', beq_eq_false_iff_ne, ne_eq, hji, not_false_eq_true, true_and, Bool.and_eq_false_iff]
          by_cases e1 : j + 1 = i
          · exact Or.inr (fun e2 => hc ⟨e1, e2⟩)
          · exact Or.inl e1
    rcases hda with ⟨hda, rfl⟩ | ⟨k, hk9, hda, rfl⟩
    · refine lv_astore hx hb hda (lv_all_has g5.1 g5.2.1) hil rfl (fun rls2 hl2 => ?_)
      exact kx h' hp p e s m args below meth c ws0 mc ms ws' H' locs' (cells + mc') (slots + ms') rls2 [] C' ⟨g1, g2, g3, g4, key rls2 hl2, trivial, g6⟩ (by omega) (by omega)
    · refine lv_astore_n hx hb hda hk9 (lv_all_has g5.1 g5.2.1) hil rfl (fun rls2 hl2 => ?_)
      exact kx h' hp p e s m args below meth c ws0 mc ms ws' H' locs' (cells + mc') (slots + ms') rls2 [] C' ⟨g1, g2, g3, g4, key rls2 hl2, trivial, g6⟩ (by omega) (by omega)
theorem ww_callSX {N : MM} {idx n d' mc' ms' : Nat} {As : List Value} {P' : Res → PH → Prop} (hC : CC l Z N d' mc' ms' As h P') (hd : decode (mm_c M) pc = .ok (.invokestatic idx, 3)) (hno : ∀ E h', ¬ P' (.inr E) h') (hhN : mm_h N ≠ []) (hok : mm_ok N n) (hn : As.length = n)
    (w1 : Cond.methodLink (mm_own M) idx (mm_y N) ∈ TG) (w2 : Cond.static (mm_y N) ∈ TG) (w4 : Cond.initialized (mm_y N).cls ∈ TG) (w5 : Cond.codeWith (mm_y N) (mm_c N) (mm_L N) (mm_r N) (mm_h N) ∈ TG)
    (hdd : d' + 1 ≤ d) (hLL : mm_L N ≤ 41) (hcat : (st.map fun v => v.category).sum ≤ 8)
    (kk : ∀ v h', P' (.inl v) h' → WW l Z M d bc bs (pc + 3) lv (v.toList ++ st) h' Post) : WW l Z M d (bc + mc') (bs + ms') pc lv (As.reverse ++ st) h Post := by
  intro p e s m args below meth c ws0 mc ms ws H locs cells slots rls rst C' S h1 h2
  have C'' := C'
  obtain ⟨hx, hb, hr, hml, hown, hts, hlocks, htab, hK, hZ, hst, hnm⟩ := C''
  obtain ⟨hHR, hP, hD, hS, hL, hF, hE⟩ := S
  obtain ⟨m1, rrest, rfl, G1, F1⟩ := ee_F2.app _ _ _ hF
  have G3 := ee_F2.rev _ _ G1
  rw [List.reverse_reverse] at G3
  have z3 : (ee_rm d' mc' ms').frames + 1 ≤ (ee_rm d mc ms).frames := hdd
  have z4 : 8 + (mm_L N + 11) + (ee_rm d' mc' ms').locals ≤ (ee_rm d mc ms).locals := by show 8 + (mm_L N + 11) + 60 * d' ≤ 60 * d; omega
  have hM := hC ws H.size m1.reverse hHR G3
  have hcd : mm_cd N = .codeWith (mm_y N) (mm_c N) (mm_L N) (mm_r N) (mm_h N) := by
    unfold mm_cd
    cases hq : mm_h N with
    | nil => exact absurd hq hhN
    | cons x t => rfl
  have hgin : GoodIn TG (mm_ws N) := by
    intro w hw
    have hw2 : w ∈ TG := by
      simp only [mm_ws, hcd, List.mem_cons] at hw
      rcases hw with rfl | hw
      · exact w5
      · exact hw
    exact tg_good w hw2
  have hlen : m1.reverse.length = n := by rw [List.length_reverse, ee_F2.len _ _ G1, List.length_reverse]; exact hn
  refine ee_afterN (mc' := mc') (ms' := ms') (st := st) (vx_runSX (hh := mm_h N) (As := m1.reverse) (rest := rrest) ⟨hx, hb, hml, hown, hts⟩ hM ⟨⟨rfl, rfl, z3, z4, pay_in hts hgin, by unfold mm_ws; rw [hcd]; exact List.mem_cons_self⟩, hts _ w5, hts _ w4, ⟨hok.1, hok.2.1⟩, fun sig hsg => by have h9 := hok.2.2; rw [hsg] at h9; exact (Option.some.inj h9).symm, hts _ w1, hts _ w2⟩ ⟨ee_PcB, fun U hU hW => ee_PcU hP hK hZ hD hS U hU hW⟩ rfl hlen hL.1 (by rw [List.reverse_reverse]) (lv_room (by rw [ee_F2.cats _ _ F1]; exact hcat)) hd ⟨?_, ?_⟩) C' hD hS hL F1 hE h1 h2 hno kk
  · show cells + mc' ≤ mc; omega
  · show slots + ms' ≤ ms; omega
end WWX
theorem ee_entryH {l : Launch} {Z : EE} {M : MM} {d mc ms : Nat} {args : List Value} {h : PH} {Post : Res → PH → Prop} (hst : l.stackTraces = false) (hy : plainName (mm_y M).cls = true) (ho : (mm_y M).cls = mm_own M) (hh : mm_h M ≠ []) (hc : ∀ v ∈ args, v.category = 1) (hn : args.length ≤ mm_L M)
    (k : WW l Z M d mc ms 0 (ee_lv args (mm_L M)) [] h Post) : CC l Z M d mc ms args h Post := by
  intro ws sz argsR hHR hA
  have hcd : mm_cd M = .codeWith (mm_y M) (mm_c M) (mm_L M) (mm_r M) (mm_h M) := by
    unfold mm_cd
    cases hq : mm_h M with
    | nil => exact absurd hq hh
    | cons x t => rfl
  refine vx_ofWH (cc := mm_c M) (maxL := mm_L M) (ret := mm_r M) (hh := mm_h M) (ws' := TG) hy (by unfold mm_ws; rw [hcd]) ?_
  intro p e s m args0 below meth c s₁ B hml hv
  obtain ⟨rfl, hsz, hP, hK, hD0, hZ⟩ := hv
  have hts := atoms_spec (ws := mm_ws M) B.pre
  have hown : s.vm.findClass (mm_own M) = some m.cls := by rw [← ho]; exact findClass_of_methodNamed B.named
  have hin : meth.name = (mm_y M).name := (name_of_methodNamed B.named B.method).1
  subst hsz
  have hlen : (lg_sl argsR).length ≤ mm_L M := by rw [ee_slen Z ws args argsR hA hc]; exact hn
  have hl := lv_entry argsR (n := mm_L M) hlen
  rw [lg_entry_eq]
  have htb : c.exceptionTable.toList = tableOf (mm_h M) := vx_table (x := mm_y M) B (atoms_spec (ws := mm_ws M) B.pre _ (by unfold mm_ws; rw [hcd]; exact List.mem_cons_self))
  refine k p e s m argsR.toArray below meth c ws mc ms ws s.heap [] 0 0 _ [] ⟨B.exec, B.bytes, B.returns, hml, hown, fun w hw => hts w (List.mem_cons_of_mem _ hw), B.notSynchronized, htb, hK, hZ, hst, hin⟩ ⟨hHR, hP, hD0.self, va_S.rf, ⟨hl.1, hl.2.1, ?_⟩, trivial, ee_Ext.rf ws⟩ (by omega) (by omega)
  intro i v hi
  unfold ee_lv at hi
  by_cases hil : i < args.length
  · rw [List.getElem?_append_left hil] at hi
    obtain ⟨v', g1, g2⟩ := ee_pad args argsR Z ws hA 0 0 [] hc i v hi
    rw [Nat.zero_add] at g2
    exact Or.inr ⟨v', g1, hl.2.2 (i, v') (List.mem_of_getElem? g2)⟩
  · rw [List.getElem?_append_right (by omega)] at hi
    exact Or.inl (List.eq_of_mem_replicate (List.mem_of_getElem? hi))
