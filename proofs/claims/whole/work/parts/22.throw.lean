section WWT
variable {l : Launch} {Z : EE} {M : MM} {d bc bs pc : Nat} {lv st : List Value} {h : PH} {Post : Res → PH → Prop}
/-- a word that is good, or carried -/
def inTT (w : Cond) : Bool := decide (w ∈ lw_tbl) && (goodWord w || tn_is w)
theorem inTT_use {w : Cond} (hw : inTT w = true) {args : Array Value} {s : State} (h1 : ∀ w ∈ TG, w.before args s = true) (h2 : ∀ w ∈ TN, va_Nw w s) : w.before args s = true ∧ vx_ot w = true := by
  unfold inTT at hw
  simp only [Bool.and_eq_true, Bool.or_eq_true, decide_eq_true_eq] at hw
  obtain ⟨hm, hg | hg⟩ := hw
  · exact ⟨h1 w (List.mem_filter.mpr ⟨hm, hg⟩), by unfold vx_ot; rw [hg, Bool.or_true]⟩
  · have hn : w ∈ TN := List.mem_filter.mpr ⟨hm, hg⟩
    exact ⟨va_Nw.use (tn_tab hn) (h2 w hn), by unfold vx_ot; rw [tn_tab hn, Bool.true_or]⟩
/-- new X(text) thrown -/
theorem ww_throwW {ik is ic i : Nat} {cls tx : String} (names : List String) (hcls : Bundle.fit cls = true) (hnames : ∀ n ∈ names, Bundle.fit n = true) (d0 : decode (mm_c M) pc = .ok (.new ik, 3)) (d3 : decode (mm_c M) (pc + 3) = .ok (.dup, 1)) (d4 : decode (mm_c M) (pc + 4) = .ok (.ldc_w is, 3)) (d6 : decode (mm_c M) (pc + 7) = .ok (.invokespecial ic, 3)) (d9 : decode (mm_c M) (pc + 10) = .ok (.athrow, 1))
    (hs : js_own[i]? = some (mm_own M, is, tx)) (hat : (Cond.classLink (mm_own M) ik cls :: Cond.initialized cls :: vx_atS (mm_own M) ic cls names).all inTT = true) (hd : names.length + 4 ≤ d) (hcat : (st.map fun v => v.category).sum ≤ 8) (hnl : names.length ≤ 3) (hh : mm_h M = []) (hp : Post (.inr cls) h) : WW l Z M d (bc + 1) (bs + 6) pc lv st h Post := by
  intro p e s m args below meth c ws0 mc ms ws H locs cells slots rls rst C' S h1 h2
  obtain ⟨hx, hb, hr, hml, hown, hts, hlocks, htab, hK, hZ, hst, hnm⟩ := C'
  obtain ⟨hHR, hP, hD, hS, hL, hF, hE⟩ := S
  have hall : ∀ w ∈ Cond.classLink (mm_own M) ik cls :: Cond.initialized cls :: vx_atS (mm_own M) ic cls names, w.before args s = true ∧ vx_ot w = true := fun w hw => inTT_use (List.all_eq_true.mp hat w hw) hts hZ.2.2.2.2.2.2.2.1
  have z1 : (ee_rm d mc ms).cells = mc := rfl
  have z2 : (ee_rm d mc ms).slots = ms := rfl
  have z3 : (ee_rm d mc ms).frames = d := rfl
  have z4 : (ee_rm d mc ms).locals = 60 * d := rfl
  have hc2 := ee_F2.cats _ _ hF
  refine vx_throwSW (names := names) (A := va_A ws0 s.heap.size) hx hb hst hown hcls hnames (hall _ List.mem_cons_self).1 (hall _ (List.mem_cons_of_mem _ List.mem_cons_self)).1 (hZ.2.2.2.1 i _ hs) (fun w hw => (hall w (List.mem_cons_of_mem _ (List.mem_cons_of_mem _ hw))).1) (fun w hw => (hall w hw).2) hZ.2.2.2.2.2.1 hZ.2.2.2.2.2.2.1 hS (hL.1.trans hml.symm) d0 d3 d4 d6 d9 (ee_noh hh htab _) (by rw [z3]; omega) (by rw [z4, hc2]; omega) (by rw [z1]; omega) (by rw [z2]; omega) hlocks ?_ hS.2.2 (by omega) (by omega)
  intro t ha hsz hq
  refine ⟨⟨h, ws, hp, hHR, hP.kept (fun k q hk => hq q.1 (hP k q hk).lt), hD, hE⟩, Nat.le_trans hS.1 hsz, fun q g1 g2 => ?_⟩
  rw [hq q (Nat.lt_of_lt_of_le g1 hS.1)]
  exact hS.2.1 q g1 g2
end WWT
theorem at_IAE : (Cond.classLink RX10 356 "java/lang/IllegalArgumentException" :: Cond.initialized "java/lang/IllegalArgumentException" :: vx_atS RX10 360 "java/lang/IllegalArgumentException" ["java/lang/RuntimeException", "java/lang/Exception"]).all inTT = true := by decide +kernel
