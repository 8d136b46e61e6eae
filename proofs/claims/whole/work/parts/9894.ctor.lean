/-! ===== heaps that are a list of cells: what the constructors make ===== -/
/-- class, size, fields, row -/
abbrev Cel : Type := Nat × Nat × List Value × (Nat → Int32)
def zF : Nat → Int32 := fun _ => 0
def ceD : Cel := (99, 0, [], zF)
def AP (L : List Cel) : PH := (L.length, fun b => ((L.getD b ceD).1, (L.getD b ceD).2.1), fun b => vp_V (L.getD b ceD).2.2.1, fun b => (L.getD b ceD).2.2.2, fun _ _ => 0)
theorem ap_ge {L : List Cel} {b : Nat} (h : L.length ≤ b) : L.getD b ceD = ceD := by
  rw [List.getD_eq_getElem?_getD, List.getElem?_eq_none h]; rfl
theorem ap_at {L0 R : List Cel} {a : Nat} (ha : L0.length = a) (r : Nat) : (L0 ++ R).getD (a + r) ceD = R.getD r ceD := by
  subst ha
  rw [List.getD_eq_getElem?_getD, List.getD_eq_getElem?_getD, List.getElem?_append_right (by omega), Nat.add_sub_cancel_left]
theorem ap_lt {L0 R : List Cel} {b : Nat} (hb : b < L0.length) : (L0 ++ R).getD b ceD = L0.getD b ceD := by
  rw [List.getD_eq_getElem?_getD, List.getD_eq_getElem?_getD, List.getElem?_append_left hb]
theorem ap_N {L0 R : List Cel} {a : Nat} (ha : L0.length = a) : hp_N (AP (L0 ++ R)) = a + R.length := by
  subst ha
  exact List.length_append
theorem ap_K {L0 R : List Cel} {a : Nat} (ha : L0.length = a) (r : Nat) : hp_K (AP (L0 ++ R)) (a + r) = ((R.getD r ceD).1, (R.getD r ceD).2.1) := by
  show (((L0 ++ R).getD (a + r) ceD).1, ((L0 ++ R).getD (a + r) ceD).2.1) = _
  rw [ap_at ha]
theorem ap_F {L0 R : List Cel} {a : Nat} (ha : L0.length = a) (r j : Nat) : hp_F (AP (L0 ++ R)) (a + r) j = vp_V (R.getD r ceD).2.2.1 j := by
  show vp_V ((L0 ++ R).getD (a + r) ceD).2.2.1 j = _
  rw [ap_at ha]
theorem ap_I {L0 R : List Cel} {a : Nat} (ha : L0.length = a) (r : Nat) : hp_I (AP (L0 ++ R)) (a + r) = (R.getD r ceD).2.2.2 := by
  show ((L0 ++ R).getD (a + r) ceD).2.2.2 = _
  rw [ap_at ha]
theorem ap_ext {L L2 : List Cel} (hN : L.length = L2.length) (h : ∀ b, L.getD b ceD = L2.getD b ceD) : AP L = AP L2 := by
  unfold AP
  rw [hN]
  simp only [h]
theorem ap_nw1 (L : List Cel) (t n : Nat) (fs : List Value) : hp_new (AP L) t n (vp_V fs) (fun _ => 0) (fun _ => 0) = AP (L ++ [(t, n, fs, zF)]) := by
  have hN : (L ++ [(t, n, fs, zF)]).length = L.length + 1 := by rw [List.length_append]; rfl
  have hq : ∀ b, (L ++ [(t, n, fs, zF)]).getD b ceD = if b = L.length then (t, n, fs, zF) else L.getD b ceD := by
    intro b
    by_cases e : b = L.length
    · rw [if_pos e]
      have := ap_at (L0 := L) (R := [(t, n, fs, zF)]) rfl 0
      rw [Nat.add_zero] at this
      rw [e, this]
      rfl
    · rw [if_neg e]
      by_cases e2 : b < L.length
      · exact ap_lt e2
      · rw [ap_ge (by rw [hN]; omega), ap_ge (by omega)]
  unfold hp_new AP
  simp only [hN, hq]
  refine Prod.ext rfl (Prod.ext ?_ (Prod.ext ?_ (Prod.ext ?_ ?_)))
  · funext b
    show (if b = L.length then (t, n) else _) = _
    by_cases e : b = L.length
    · simp only [if_pos e]
    · simp only [if_neg e]
  · funext b
    show (if b = L.length then vp_V fs else _) = _
    by_cases e : b = L.length
    · simp only [if_pos e]
    · simp only [if_neg e]
  · funext b
    show (if b = L.length then (fun _ => 0) else _) = _
    by_cases e : b = L.length
    · simp only [if_pos e]; rfl
    · simp only [if_neg e]
  · funext b
    show (if b = L.length then (fun _ => 0) else _) = _
    by_cases e : b = L.length
    · simp only [if_pos e]
    · simp only [if_neg e]
theorem ap_nw (L0 R : List Cel) (t n : Nat) (fs : List Value) : hp_new (AP (L0 ++ R)) t n (vp_V fs) (fun _ => 0) (fun _ => 0) = AP (L0 ++ (R ++ [(t, n, fs, zF)])) := by
  rw [ap_nw1, List.append_assoc]
theorem ap_nwA (L0 R : List Cel) (t n : Nat) : hp_new (AP (L0 ++ R)) t n (fun _ => .null) (fun _ => 0) (fun _ => 0) = AP (L0 ++ (R ++ [(t, n, [], zF)])) := by
  rw [← ap_nw]; rfl
theorem ap_set {L0 R : List Cel} {a : Nat} (ha : L0.length = a) {r : Nat} (hr : r < R.length) (c : Cel) (b : Nat) : (L0 ++ R.set r c).getD b ceD = if b = a + r then c else (L0 ++ R).getD b ceD := by
  subst ha
  by_cases hb : b < L0.length
  · rw [ap_lt hb, ap_lt hb, if_neg (by omega)]
  · obtain ⟨q, rfl⟩ : ∃ q, b = L0.length + q := ⟨b - L0.length, by omega⟩
    rw [ap_at rfl, ap_at rfl]
    by_cases e : q = r
    · subst e
      rw [if_pos rfl, List.getD_eq_getElem?_getD, List.getElem?_set_self hr]
      rfl
    · rw [if_neg (by omega), List.getD_eq_getElem?_getD, List.getD_eq_getElem?_getD, List.getElem?_set_ne (fun z => e z.symm)]
theorem ap_gs (l : List Value) {i j : Nat} (v d : Value) (h : i ≠ j) : (l.set j v).getD i d = l.getD i d := by
  rw [List.getD_eq_getElem?_getD, List.getElem?_set_ne (fun z => h z.symm), List.getD_eq_getElem?_getD]
theorem ap_K2 {L0 R : List Cel} {a t n : Nat} {fs : List Value} {f : Nat → Int32} (ha : L0.length = a) (r : Nat) (e : R.getD r ceD = (t, n, fs, f)) : hp_K (AP (L0 ++ R)) (a + r) = (t, n) := by
  rw [ap_K ha, e]
theorem ap_F2 {L0 R : List Cel} {a t n : Nat} {fs : List Value} {f : Nat → Int32} (ha : L0.length = a) (r j : Nat) (e : R.getD r ceD = (t, n, fs, f)) {v : Value} (hv : vp_V fs j = v) : hp_F (AP (L0 ++ R)) (a + r) j = v := by
  rw [ap_F ha, e]; exact hv
theorem ap_I2 {L0 R : List Cel} {a t n : Nat} {fs : List Value} {f : Nat → Int32} (ha : L0.length = a) (r : Nat) (e : R.getD r ceD = (t, n, fs, f)) : hp_I (AP (L0 ++ R)) (a + r) = f := by
  rw [ap_I ha, e]
theorem ap_sF {L0 R : List Cel} {a : Nat} (ha : L0.length = a) {r : Nat} (hr : r < R.length) {j : Nat} (v : Value) (hj : j < (R.getD r ceD).2.2.1.length) : hp_sF (AP (L0 ++ R)) (a + r) j v = AP (L0 ++ R.set r ((R.getD r ceD).1, (R.getD r ceD).2.1, (R.getD r ceD).2.2.1.set j v, (R.getD r ceD).2.2.2)) := by
  have hN : (L0 ++ R.set r ((R.getD r ceD).1, (R.getD r ceD).2.1, (R.getD r ceD).2.2.1.set j v, (R.getD r ceD).2.2.2)).length = (L0 ++ R).length := by rw [List.length_append, List.length_append, List.length_set]
  have hw := ap_at (R := R) ha r
  unfold hp_sF AP
  rw [hN]
  simp only [ap_set ha hr]
  refine Prod.ext rfl (Prod.ext ?_ (Prod.ext ?_ (Prod.ext ?_ rfl)))
  · funext b
    show (((L0 ++ R).getD b ceD).1, ((L0 ++ R).getD b ceD).2.1) = _
    by_cases e : b = a + r
    · simp only [if_pos e]; rw [e, hw]
    · simp only [if_neg e]
  · funext b i
    show (if b = a + r ∧ i = j then v else vp_V ((L0 ++ R).getD b ceD).2.2.1 i) = _
    by_cases e : b = a + r
    · simp only [if_pos e]
      rw [e, hw]
      unfold vp_V
      by_cases e2 : i = j
      · rw [if_pos ⟨rfl, e2⟩, e2, List.getD_eq_getElem?_getD, List.getElem?_set_self hj]; rfl
      · rw [if_neg (fun z => e2 z.2), ap_gs _ _ _ e2]
    · simp only [if_neg e]
      rw [if_neg (fun z => e z.1)]
  · funext b
    show ((L0 ++ R).getD b ceD).2.2.2 = _
    by_cases e : b = a + r
    · simp only [if_pos e]; rw [e, hw]
    · simp only [if_neg e]
theorem ap_sI {L0 R : List Cel} {a : Nat} (ha : L0.length = a) {r : Nat} (hr : r < R.length) (f : Nat → Int32) : hp_sI (AP (L0 ++ R)) (a + r) f = AP (L0 ++ R.set r ((R.getD r ceD).1, (R.getD r ceD).2.1, (R.getD r ceD).2.2.1, f)) := by
  have hN : (L0 ++ R.set r ((R.getD r ceD).1, (R.getD r ceD).2.1, (R.getD r ceD).2.2.1, f)).length = (L0 ++ R).length := by rw [List.length_append, List.length_append, List.length_set]
  have hw := ap_at (R := R) ha r
  unfold hp_sI AP
  rw [hN]
  simp only [ap_set ha hr]
  refine Prod.ext rfl (Prod.ext ?_ (Prod.ext ?_ (Prod.ext ?_ rfl)))
  · funext b
    show (((L0 ++ R).getD b ceD).1, ((L0 ++ R).getD b ceD).2.1) = _
    by_cases e : b = a + r
    · simp only [if_pos e]; rw [e, hw]
    · simp only [if_neg e]
  · funext b
    show vp_V ((L0 ++ R).getD b ceD).2.2.1 = _
    by_cases e : b = a + r
    · simp only [if_pos e]; rw [e, hw]
    · simp only [if_neg e]
  · funext b
    show (if b = a + r then f else ((L0 ++ R).getD b ceD).2.2.2) = _
    by_cases e : b = a + r
    · simp only [if_pos e]
    · simp only [if_neg e]
section WWA
variable {l : Launch} {Z : EE} {M : MM} {d bc bs pc : Nat} {lv st : List Value} {Post : Res → PH → Prop} {L0 R R2 : List Cel} {a r : Nat}
theorem wa_I {n : Nat} {x : Int32} (ha : L0.length = a) (hr : R.length = r) (hR : R ++ [(20, n, [], zF)] = R2) (ha9 : a + r < 1000000) (hd : decode (mm_c M) pc = .ok (.newarray .int, 2)) (hn : ¬ x < 0) (hx9 : x.toNatClampNeg = n) (hb9 : n * 4 ≤ 536870912)
    (k : WW l Z M d bc bs (pc + 2) lv ((.ref (a + r)) :: st) (AP (L0 ++ R2)) Post) : WW l Z M d (bc + 1) (bs + n) pc lv ((.int x) :: st) (AP (L0 ++ R)) Post := by
  refine ww_newI hd wg_63 hn hx9 hb9 (by rw [ap_N ha, hr]; exact ha9) ?_
  rw [ap_N ha, hr, ap_nwA, hR]
  exact k
theorem wa_Z {n : Nat} {x : Int32} (ha : L0.length = a) (hr : R.length = r) (hR : R ++ [(22, n, [], zF)] = R2) (ha9 : a + r < 1000000) (hd : decode (mm_c M) pc = .ok (.newarray .boolean, 2)) (hn : ¬ x < 0) (hx9 : x.toNatClampNeg = n) (hb9 : n ≤ 536870912)
    (k : WW l Z M d bc bs (pc + 2) lv ((.ref (a + r)) :: st) (AP (L0 ++ R2)) Post) : WW l Z M d (bc + 1) (bs + n) pc lv ((.int x) :: st) (AP (L0 ++ R)) Post := by
  refine ww_newZ hd wg_202 hn hx9 (by omega) (by rw [ap_N ha, hr]; exact ha9) ?_
  rw [ap_N ha, hr, ap_nwA, hR]
  exact k
theorem wa_L {n : Nat} {x : Int32} (ha : L0.length = a) (hr : R.length = r) (hR : R ++ [(21, n, [], zF)] = R2) (ha9 : a + r < 1000000) (hd : decode (mm_c M) pc = .ok (.newarray .long, 2)) (hn : ¬ x < 0) (hx9 : x.toNatClampNeg = n) (hb9 : n * 8 ≤ 536870912)
    (k : WW l Z M d bc bs (pc + 2) lv ((.ref (a + r)) :: st) (AP (L0 ++ R2)) Post) : WW l Z M d (bc + 1) (bs + n) pc lv ((.int x) :: st) (AP (L0 ++ R)) Post := by
  refine ww_newL hd wg_1400 hn hx9 hb9 (by rw [ap_N ha, hr]; exact ha9) ?_
  rw [ap_N ha, hr, ap_nwA, hR]
  exact k
theorem wa_P {n idx : Nat} {x : Int32} (ha : L0.length = a) (hr : R.length = r) (hR : R ++ [(23, n, [], zF)] = R2) (ha9 : a + r < 1000000) (hd : decode (mm_c M) pc = .ok (.anewarray idx, 3)) (w : Cond.classLink (mm_own M) idx "WidowSeven$Past" ∈ TG) (hn : ¬ x < 0) (hx9 : x.toNatClampNeg = n) (hb9 : n * 4 ≤ 536870912)
    (k : WW l Z M d bc bs (pc + 3) lv ((.ref (a + r)) :: st) (AP (L0 ++ R2)) Post) : WW l Z M d (bc + 1) (bs + n) pc lv ((.int x) :: st) (AP (L0 ++ R)) Post := by
  refine ww_newP hd w hn hx9 hb9 (by rw [ap_N ha, hr]; exact ha9) ?_
  rw [ap_N ha, hr, ap_nwA, hR]
  exact k
theorem wa_O {t n idx : Nat} {C : String} {T : u_T} (ty0 : Nat → FieldType) (fs : List Value) (ha : L0.length = a) (hr : R.length = r) (hR : R ++ [(t, n, fs, zF)] = R2) (ha9 : a + r < 1000000) (hd : decode (mm_c M) pc = .ok (.new idx, 3)) (hc : vwCl[t]? = some (C, T, n)) (hin : ∀ w ∈ u_ws C T n, w ∈ TG) (hty : ∀ k, k < n → parseFieldDescriptor (T k).2.2.1 = some (ty0 k))
    (w1 : Cond.classLink (mm_own M) idx C ∈ TG) (w2 : Cond.instantiable C n ∈ TG) (w3 : Cond.initialized C ∈ TG) (hlen : fs.length = n) (hfs : ∀ j, j < n → defaultValue (ty0 j) = vp_V fs j)
    (k : WW l Z M d bc bs (pc + 3) lv ((.ref (a + r)) :: st) (AP (L0 ++ R2)) Post) : WW l Z M d (bc + 1) (bs + n) pc lv st (AP (L0 ++ R)) Post := by
  refine ww_new ty0 fs hd hc hin hty w1 w2 w3 hlen hfs (by rw [ap_N ha, hr]; exact ha9) ?_
  rw [ap_N ha, hr, ap_nw, hR]
  exact k
theorem wa_putF {t n idx : Nat} {C : String} {T : u_T} {v : Value} (ty0 : Nat → FieldType) (j : Nat) (ha : L0.length = a) (hr : 0 < R.length) (hj2 : j < (R.getD 0 ceD).2.2.1.length) (hR : R.set 0 ((R.getD 0 ceD).1, (R.getD 0 ceD).2.1, (R.getD 0 ceD).2.2.1.set j v, (R.getD 0 ceD).2.2.2) = R2) (hd : decode (mm_c M) pc = .ok (.putfield idx, 3)) (hk : ((R.getD 0 ceD).1, (R.getD 0 ceD).2.1) = (t, n)) (hc : vwCl[t]? = some (C, T, n)) (hj : j < n) (hin : ∀ w ∈ u_ws C T n, w ∈ TG) (hty : ∀ k, k < n → parseFieldDescriptor (T k).2.2.1 = some (ty0 k)) (hnm0 : ∀ a, a < n → ∀ b, b < n → a ≠ b → (T a).2.1 ≠ (T b).2.1)
    (hw : Cond.fieldLink (mm_own M) idx (T j).1 (T j).2.1 (T j).2.2.1 ∈ TG) (hfin : (T j).2.2.2 = true) (hin2 : (mm_y M).name = "<init>") (hdecl : (T j).1 = mm_own M) (hna : ∀ v', v'.category = v.category → (∀ x, v = .int x → v' = .int x) → (∀ x, v = .long x → v' = .long x) → ((∃ x, v = .ref x) → ∃ y, v' = .ref y) → (v = .null → v' = .null) → narrow (ty0 j) v' = v' ∧ fits (ty0 j) v' = true)
    (k : WW l Z M d bc bs (pc + 3) lv st (AP (L0 ++ R2)) Post) : WW l Z M d bc bs pc lv (v :: (.ref a) :: st) (AP (L0 ++ R)) Post := by
  refine ww_putF ty0 j hd ((ap_K ha 0).trans hk) hc hj hin hty hnm0 hw hfin hin2 hdecl hna ?_
  have e := ap_sF ha hr v hj2
  rw [Nat.add_zero, hR] at e
  rw [e]
  exact k
theorem wa_put {t n idx : Nat} {C : String} {T : u_T} {v : Value} (ty0 : Nat → FieldType) (j : Nat) (ha : L0.length = a) (hr : 0 < R.length) (hj2 : j < (R.getD 0 ceD).2.2.1.length) (hR : R.set 0 ((R.getD 0 ceD).1, (R.getD 0 ceD).2.1, (R.getD 0 ceD).2.2.1.set j v, (R.getD 0 ceD).2.2.2) = R2) (hd : decode (mm_c M) pc = .ok (.putfield idx, 3)) (hk : ((R.getD 0 ceD).1, (R.getD 0 ceD).2.1) = (t, n)) (hc : vwCl[t]? = some (C, T, n)) (hj : j < n) (hin : ∀ w ∈ u_ws C T n, w ∈ TG) (hty : ∀ k, k < n → parseFieldDescriptor (T k).2.2.1 = some (ty0 k)) (hnm0 : ∀ a, a < n → ∀ b, b < n → a ≠ b → (T a).2.1 ≠ (T b).2.1)
    (hw : Cond.fieldLink (mm_own M) idx (T j).1 (T j).2.1 (T j).2.2.1 ∈ TG) (hfin : (T j).2.2.2 = false) (hna : ∀ v', v'.category = v.category → (∀ x, v = .int x → v' = .int x) → (∀ x, v = .long x → v' = .long x) → ((∃ x, v = .ref x) → ∃ y, v' = .ref y) → (v = .null → v' = .null) → narrow (ty0 j) v' = v' ∧ fits (ty0 j) v' = true)
    (k : WW l Z M d bc bs (pc + 3) lv st (AP (L0 ++ R2)) Post) : WW l Z M d bc bs pc lv (v :: (.ref a) :: st) (AP (L0 ++ R)) Post := by
  refine ww_put ty0 j hd ((ap_K ha 0).trans hk) hc hj hin hty hnm0 hw hfin hna ?_
  have e := ap_sF ha hr v hj2
  rw [Nat.add_zero, hR] at e
  rw [e]
  exact k
end WWA
set_option maxHeartbeats 4000000 in
set_option maxRecDepth 100000 in
theorem l_Ap_empty {l : Launch} {Z : EE} (hst : l.stackTraces = false) (L0 : List Cel) {a : Nat} (ha : L0.length = a) {Post : Res → PH → Prop} : ∀ (j i : Nat), i + j = 190 → WW l Z m_X2_empty 0 0 0 32 [.ref a, .int (nI 190)] [] (AP (L0 ++ [(2, 3, [.ref (a + 1), .int 0, .int 0], zF), (20, 190, [], emK zF 190)])) Post → WW l Z m_X2_empty 0 0 0 2 [.ref a, .int (nI i)] [] (AP (L0 ++ [(2, 3, [.ref (a + 1), .int 0, .int 0], zF), (20, 190, [], emK zF i)])) Post := by
  intro j
  induction j with
  | zero =>
    intro i hi hexit
    have hi0 : i = 190 := by omega
    subst hi0
    refine ww_iload_n dX2_empty_2 rfl rfl ?_
    refine ww_sipush (v := nI 190) dX2_empty_3 (by decide) ?_
    refine ww_icmp_geN (tgt := 32) dX2_empty_6 (by decide) (by omega) (by omega) (fun c6 => ?_) (fun c6 => ?_)
    · exact hexit
    · exfalso; omega
  | succ j ih =>
    intro i hi hexit
    refine ww_iload_n dX2_empty_2 rfl rfl ?_
    refine ww_sipush (v := nI 190) dX2_empty_3 (by decide) ?_
    refine ww_icmp_geN (tgt := 32) dX2_empty_6 (by decide) (by omega) (by omega) (fun c6 => ?_) (fun c6 => ?_)
    · exfalso; omega
    · refine ww_aload_n dX2_empty_9 rfl rfl ?_
      refine ww_get 0 dX2_empty_10 (ap_K2 ha 0 rfl) rfl (by decide) inX2 wg_74 (ap_F2 ha 0 0 rfl (v := .ref (a + 1)) rfl) ?_
      refine ww_iload_n dX2_empty_13 rfl rfl ?_
      refine ww_iload_n dX2_empty_14 rfl rfl ?_
      refine ww_bipush (v := nI 61) dX2_empty_15 (by decide) ?_
      refine ww_icmp_geN (tgt := 24) dX2_empty_17 (by decide) (by omega) (by omega) (fun c17 => ?_) (fun c17 => ?_)
      · refine ww_iconst (v := nI 0) dX2_empty_24 (by decide) ?_
        refine ww_iastF dX2_empty_25 (ap_K2 ha 1 rfl) (ap_I2 ha 1 rfl) (by omega) (by omega) ?_
        refine ww_hp (h2 := AP (L0 ++ [(2, 3, [.ref (a + 1), .int 0, .int 0], zF), (20, 190, [], upd (emK zF i) i (nI 0))])) (ap_sI ha (Nat.le_of_ble_eq_true rfl) _) ?_
        refine ww_incN (c := 1) (lv2 := [.ref a, .int (nI (i + 1))]) dX2_empty_26 rfl rfl rfl (by decide) rfl ?_
        refine ww_goto (tgt := 2) dX2_empty_29 (by decide) ?_
        refine ww_hp (h2 := AP (L0 ++ [(2, 3, [.ref (a + 1), .int 0, .int 0], zF), (20, 190, [], emK zF (i + 1))])) (by rw [← emK_s zF i, show emF i = nI 0 from if_neg (by omega)]) ?_
        exact ih (i + 1) (by omega) hexit
      · refine ww_iconst (v := -1) dX2_empty_20 (by decide) ?_
        refine ww_goto (tgt := 25) dX2_empty_21 (by decide) ?_
        refine ww_iastF dX2_empty_25 (ap_K2 ha 1 rfl) (ap_I2 ha 1 rfl) (by omega) (by omega) ?_
        refine ww_hp (h2 := AP (L0 ++ [(2, 3, [.ref (a + 1), .int 0, .int 0], zF), (20, 190, [], upd (emK zF i) i (-1))])) (ap_sI ha (Nat.le_of_ble_eq_true rfl) _) ?_
        refine ww_incN (c := 1) (lv2 := [.ref a, .int (nI (i + 1))]) dX2_empty_26 rfl rfl rfl (by decide) rfl ?_
        refine ww_goto (tgt := 2) dX2_empty_29 (by decide) ?_
        refine ww_hp (h2 := AP (L0 ++ [(2, 3, [.ref (a + 1), .int 0, .int 0], zF), (20, 190, [], emK zF (i + 1))])) (by rw [← emK_s zF i, show emF i = -1 from if_pos (by omega)]) ?_
        exact ih (i + 1) (by omega) hexit
set_option maxHeartbeats 4000000 in
set_option maxRecDepth 100000 in
theorem c_Ap_empty {l : Launch} {Z : EE} (hst : l.stackTraces = false) (L0 : List Cel) {a : Nat} (ha : L0.length = a) : CC l Z m_X2_empty 0 0 0 [.ref a] (AP (L0 ++ [(2, 3, [.ref (a + 1), .int 0, .int 0], zF), (20, 190, [], zF)])) (RT none (AP (L0 ++ [(2, 3, [.ref (a + 1), .int (nI 0), .int (nI 2)], zF), (20, 190, [], emF)]))) := by
  refine ee_entry hst (by decide +kernel) rfl rfl (by simp [Value.category]) (Nat.le_of_ble_eq_true rfl) ?_
  refine ww_lv (lv2 := [.ref a, UU]) rfl ?_
  refine ww_iconst (v := nI 0) dX2_empty_0 (by decide) ?_
  refine ww_sti_n (lv2 := [.ref a, .int (nI 0)]) dX2_empty_1 rfl rfl (by decide) rfl ?_
  refine ww_hp (h2 := AP (L0 ++ [(2, 3, [.ref (a + 1), .int 0, .int 0], zF), (20, 190, [], emK zF 0)])) (by rw [emK_0]) ?_
  refine l_Ap_empty hst L0 ha 190 0 (by omega) ?_
  refine ww_aload_n dX2_empty_32 rfl rfl ?_
  refine ww_iconst (v := nI 0) dX2_empty_33 (by decide) ?_
  refine ww_pfI tyX2 1 dX2_empty_34 (ap_K2 ha 0 rfl) rfl (by decide) inX2 tyX2_ok nmX2 wg_75 rfl rfl ?_
  refine ww_hp (h2 := AP (L0 ++ [(2, 3, [.ref (a + 1), .int (nI 0), .int 0], zF), (20, 190, [], emK zF 190)])) (ap_sF ha (r := 0) (by simp) _ (by simp)) ?_
  refine ww_aload_n dX2_empty_37 rfl rfl ?_
  refine ww_iconst (v := nI 2) dX2_empty_38 (by decide) ?_
  refine ww_pfI tyX2 2 dX2_empty_39 (ap_K2 ha 0 rfl) rfl (by decide) inX2 tyX2_ok nmX2 wg_79 rfl rfl ?_
  refine ww_hp (h2 := AP (L0 ++ [(2, 3, [.ref (a + 1), .int (nI 0), .int (nI 2)], zF), (20, 190, [], emK zF 190)])) (ap_sF ha (r := 0) (by simp) _ (by simp)) ?_
  exact ww_vret dX2_empty_42 rfl ⟨rfl, by rw [emK_z (f := zF) (fun _ _ => rfl)]⟩
set_option maxHeartbeats 4000000 in
set_option maxRecDepth 100000 in
theorem c_X0_init {l : Launch} {Z : EE} (hst : l.stackTraces = false) (L0 : List Cel) {a : Nat} (ha : L0.length = a) (ha9 : a < 900000) : CC l Z m_X0_init 1 4 152 [.ref a] (AP (L0 ++ [(0, 8, [.null, .null, .null, .null, .int 0, .int 0, .int 0, .int 0], zF)])) (RT none (AP (L0 ++ [(0, 8, [.ref (a + 1), .ref (a + 2), .ref (a + 3), .ref (a + 4), .int 0, .int 0, .int 0, .int 0], zF), (20, 38, [], zF), (20, 38, [], zF), (20, 38, [], zF), (20, 38, [], zF)]))) := by
  refine ee_entry hst (by decide +kernel) rfl rfl (by simp [Value.category]) (Nat.le_of_ble_eq_true rfl) ?_
  refine ww_lv (lv2 := [.ref a]) rfl ?_
  refine ww_aload_n dX0_init_0 rfl rfl ?_
  refine ww_objInit dX0_init_1 (by decide) (Nat.le_of_ble_eq_true rfl) wg_132 wg_30 wg_31 ?_
  refine ww_aload_n dX0_init_4 rfl rfl ?_
  refine ww_bipush (v := nI 38) dX0_init_5 (by decide) ?_
  refine wa_I (M := m_X0_init) (pc := 7) (bc := 3) (bs := 114) (L0 := L0) (R2 := [(0, 8, [.null, .null, .null, .null, .int 0, .int 0, .int 0, .int 0], zF), (20, 38, [], zF)]) (a := a) (r := 1) (n := 38) ha rfl rfl (by omega) dX0_init_7 (by decide) (by decide) (by decide) ?_
  refine wa_putF (M := m_X0_init) (pc := 9) (L0 := L0) (R2 := [(0, 8, [.ref (a + 1), .null, .null, .null, .int 0, .int 0, .int 0, .int 0], zF), (20, 38, [], zF)]) (a := a) (t := 0) (n := 8) tyX0 0 ha (Nat.le_of_ble_eq_true rfl) (Nat.le_of_ble_eq_true rfl) rfl dX0_init_9 rfl rfl (by decide) inX0 tyX0_ok nmX0 wg_133 rfl rfl rfl (ee_na_ref (Or.inr ⟨_, rfl⟩)) ?_
  refine ww_aload_n dX0_init_12 rfl rfl ?_
  refine ww_bipush (v := nI 38) dX0_init_13 (by decide) ?_
  refine wa_I (M := m_X0_init) (pc := 15) (bc := 2) (bs := 76) (L0 := L0) (R2 := [(0, 8, [.ref (a + 1), .null, .null, .null, .int 0, .int 0, .int 0, .int 0], zF), (20, 38, [], zF), (20, 38, [], zF)]) (a := a) (r := 2) (n := 38) ha rfl rfl (by omega) dX0_init_15 (by decide) (by decide) (by decide) ?_
  refine wa_putF (M := m_X0_init) (pc := 17) (L0 := L0) (R2 := [(0, 8, [.ref (a + 1), .ref (a + 2), .null, .null, .int 0, .int 0, .int 0, .int 0], zF), (20, 38, [], zF), (20, 38, [], zF)]) (a := a) (t := 0) (n := 8) tyX0 1 ha (Nat.le_of_ble_eq_true rfl) (Nat.le_of_ble_eq_true rfl) rfl dX0_init_17 rfl rfl (by decide) inX0 tyX0_ok nmX0 wg_134 rfl rfl rfl (ee_na_ref (Or.inr ⟨_, rfl⟩)) ?_
  refine ww_aload_n dX0_init_20 rfl rfl ?_
  refine ww_bipush (v := nI 38) dX0_init_21 (by decide) ?_
  refine wa_I (M := m_X0_init) (pc := 23) (bc := 1) (bs := 38) (L0 := L0) (R2 := [(0, 8, [.ref (a + 1), .ref (a + 2), .null, .null, .int 0, .int 0, .int 0, .int 0], zF), (20, 38, [], zF), (20, 38, [], zF), (20, 38, [], zF)]) (a := a) (r := 3) (n := 38) ha rfl rfl (by omega) dX0_init_23 (by decide) (by decide) (by decide) ?_
  refine wa_putF (M := m_X0_init) (pc := 25) (L0 := L0) (R2 := [(0, 8, [.ref (a + 1), .ref (a + 2), .ref (a + 3), .null, .int 0, .int 0, .int 0, .int 0], zF), (20, 38, [], zF), (20, 38, [], zF), (20, 38, [], zF)]) (a := a) (t := 0) (n := 8) tyX0 2 ha (Nat.le_of_ble_eq_true rfl) (Nat.le_of_ble_eq_true rfl) rfl dX0_init_25 rfl rfl (by decide) inX0 tyX0_ok nmX0 wg_135 rfl rfl rfl (ee_na_ref (Or.inr ⟨_, rfl⟩)) ?_
  refine ww_aload_n dX0_init_28 rfl rfl ?_
  refine ww_bipush (v := nI 38) dX0_init_29 (by decide) ?_
  refine wa_I (M := m_X0_init) (pc := 31) (bc := 0) (bs := 0) (L0 := L0) (R2 := [(0, 8, [.ref (a + 1), .ref (a + 2), .ref (a + 3), .null, .int 0, .int 0, .int 0, .int 0], zF), (20, 38, [], zF), (20, 38, [], zF), (20, 38, [], zF), (20, 38, [], zF)]) (a := a) (r := 4) (n := 38) ha rfl rfl (by omega) dX0_init_31 (by decide) (by decide) (by decide) ?_
  refine wa_putF (M := m_X0_init) (pc := 33) (L0 := L0) (R2 := [(0, 8, [.ref (a + 1), .ref (a + 2), .ref (a + 3), .ref (a + 4), .int 0, .int 0, .int 0, .int 0], zF), (20, 38, [], zF), (20, 38, [], zF), (20, 38, [], zF), (20, 38, [], zF)]) (a := a) (t := 0) (n := 8) tyX0 3 ha (Nat.le_of_ble_eq_true rfl) (Nat.le_of_ble_eq_true rfl) rfl dX0_init_33 rfl rfl (by decide) inX0 tyX0_ok nmX0 wg_136 rfl rfl rfl (ee_na_ref (Or.inr ⟨_, rfl⟩)) ?_
  exact ww_vret dX0_init_36 rfl ⟨rfl, rfl⟩
set_option maxHeartbeats 4000000 in
set_option maxRecDepth 100000 in
theorem c_X1_init {l : Launch} {Z : EE} (hst : l.stackTraces = false) (L0 : List Cel) {a : Nat} (ha : L0.length = a) (ha9 : a < 900000) : CC l Z m_X1_init 1 2 16 [.ref a] (AP (L0 ++ [(1, 3, [.null, .null, .int 0], zF)])) (RT none (AP (L0 ++ [(1, 3, [.ref (a + 1), .ref (a + 2), .int 0], zF), (20, 8, [], zF), (20, 8, [], zF)]))) := by
  refine ee_entry hst (by decide +kernel) rfl rfl (by simp [Value.category]) (Nat.le_of_ble_eq_true rfl) ?_
  refine ww_lv (lv2 := [.ref a]) rfl ?_
  refine ww_aload_n dX1_init_0 rfl rfl ?_
  refine ww_objInit dX1_init_1 (by decide) (Nat.le_of_ble_eq_true rfl) wg_115 wg_30 wg_31 ?_
  refine ww_aload_n dX1_init_4 rfl rfl ?_
  refine ww_bipush (v := nI 8) dX1_init_5 (by decide) ?_
  refine wa_I (M := m_X1_init) (pc := 7) (bc := 1) (bs := 8) (L0 := L0) (R2 := [(1, 3, [.null, .null, .int 0], zF), (20, 8, [], zF)]) (a := a) (r := 1) (n := 8) ha rfl rfl (by omega) dX1_init_7 (by decide) (by decide) (by decide) ?_
  refine wa_putF (M := m_X1_init) (pc := 9) (L0 := L0) (R2 := [(1, 3, [.ref (a + 1), .null, .int 0], zF), (20, 8, [], zF)]) (a := a) (t := 1) (n := 3) tyX1 0 ha (Nat.le_of_ble_eq_true rfl) (Nat.le_of_ble_eq_true rfl) rfl dX1_init_9 rfl rfl (by decide) inX1 tyX1_ok nmX1 wg_116 rfl rfl rfl (ee_na_ref (Or.inr ⟨_, rfl⟩)) ?_
  refine ww_aload_n dX1_init_12 rfl rfl ?_
  refine ww_bipush (v := nI 8) dX1_init_13 (by decide) ?_
  refine wa_I (M := m_X1_init) (pc := 15) (bc := 0) (bs := 0) (L0 := L0) (R2 := [(1, 3, [.ref (a + 1), .null, .int 0], zF), (20, 8, [], zF), (20, 8, [], zF)]) (a := a) (r := 2) (n := 8) ha rfl rfl (by omega) dX1_init_15 (by decide) (by decide) (by decide) ?_
  refine wa_putF (M := m_X1_init) (pc := 17) (L0 := L0) (R2 := [(1, 3, [.ref (a + 1), .ref (a + 2), .int 0], zF), (20, 8, [], zF), (20, 8, [], zF)]) (a := a) (t := 1) (n := 3) tyX1 1 ha (Nat.le_of_ble_eq_true rfl) (Nat.le_of_ble_eq_true rfl) rfl dX1_init_17 rfl rfl (by decide) inX1 tyX1_ok nmX1 wg_117 rfl rfl rfl (ee_na_ref (Or.inr ⟨_, rfl⟩)) ?_
  exact ww_vret dX1_init_20 rfl ⟨rfl, rfl⟩
set_option maxHeartbeats 4000000 in
set_option maxRecDepth 100000 in
theorem c_X2_init {l : Launch} {Z : EE} (hst : l.stackTraces = false) (L0 : List Cel) {a : Nat} (ha : L0.length = a) (ha9 : a < 990000) : CC l Z m_X2_init 1 1 190 [.ref a] (AP (L0 ++ [(2, 3, [.null, .int 0, .int 0], zF)])) (RT none (AP (L0 ++ [(2, 3, [.ref (a + 1), .int (nI 0), .int (nI 2)], zF), (20, 190, [], emF)]))) := by
  refine ee_entry hst (by decide +kernel) rfl rfl (by simp [Value.category]) (Nat.le_of_ble_eq_true rfl) ?_
  refine ww_lv (lv2 := [.ref a]) rfl ?_
  refine ww_aload_n dX2_init_0 rfl rfl ?_
  refine ww_objInit dX2_init_1 (by decide) (Nat.le_of_ble_eq_true rfl) wg_69 wg_30 wg_31 ?_
  refine ww_aload_n dX2_init_4 rfl rfl ?_
  refine ww_sipush (v := nI 190) dX2_init_5 (by decide) ?_
  refine wa_I (M := m_X2_init) (pc := 8) (bc := 0) (bs := 0) (L0 := L0) (R2 := [(2, 3, [.null, .int 0, .int 0], zF), (20, 190, [], zF)]) (a := a) (r := 1) (n := 190) ha rfl rfl (by omega) dX2_init_8 (by decide) (by decide) (by decide) ?_
  refine wa_putF (M := m_X2_init) (pc := 10) (L0 := L0) (R2 := [(2, 3, [.ref (a + 1), .int 0, .int 0], zF), (20, 190, [], zF)]) (a := a) (t := 2) (n := 3) tyX2 0 ha (Nat.le_of_ble_eq_true rfl) (Nat.le_of_ble_eq_true rfl) rfl dX2_init_10 rfl rfl (by decide) inX2 tyX2_ok nmX2 wg_74 rfl rfl rfl (ee_na_ref (Or.inr ⟨_, rfl⟩)) ?_
  refine ww_aload_n dX2_init_13 rfl rfl ?_
  refine ww_cV0 (M := m_X2_init) (pc := 14) (h1 := AP (L0 ++ [(2, 3, [.ref (a + 1), .int (nI 0), .int (nI 2)], zF), (20, 190, [], emF)])) (st := []) (d := 1) (bc := 0) (bs := 0) (c_Ap_empty hst L0 ha) vv_X2_empty dX2_init_14 wg_70 (ap_K2 ha 0 rfl) rfl rfl rfl rfl (Nat.le_of_ble_eq_true rfl) (Nat.le_of_ble_eq_true rfl) (Nat.le_of_ble_eq_true rfl) (Nat.le_of_ble_eq_true rfl) ?_
  exact ww_vret dX2_init_17 rfl ⟨rfl, rfl⟩
set_option maxHeartbeats 4000000 in
set_option maxRecDepth 100000 in
theorem c_X3_init {l : Launch} {Z : EE} (hst : l.stackTraces = false) (L0 : List Cel) {a : Nat} (ha : L0.length = a) (ha9 : a < 900000) : CC l Z m_X3_init 1 4 339 [.ref a] (AP (L0 ++ [(3, 5, [.null, .null, .null, .null, .int 0], zF)])) (RT none (AP (L0 ++ [(3, 5, [.ref (a + 1), .ref (a + 2), .ref (a + 3), .ref (a + 4), .int 0], zF), (20, 150, [], zF), (20, 150, [], zF), (20, 32, [], zF), (20, 7, [], zF)]))) := by
  refine ee_entry hst (by decide +kernel) rfl rfl (by simp [Value.category]) (Nat.le_of_ble_eq_true rfl) ?_
  refine ww_lv (lv2 := [.ref a]) rfl ?_
  refine ww_aload_n dX3_init_0 rfl rfl ?_
  refine ww_objInit dX3_init_1 (by decide) (Nat.le_of_ble_eq_true rfl) wg_93 wg_30 wg_31 ?_
  refine ww_aload_n dX3_init_4 rfl rfl ?_
  refine ww_sipush (v := nI 150) dX3_init_5 (by decide) ?_
  refine wa_I (M := m_X3_init) (pc := 8) (bc := 3) (bs := 189) (L0 := L0) (R2 := [(3, 5, [.null, .null, .null, .null, .int 0], zF), (20, 150, [], zF)]) (a := a) (r := 1) (n := 150) ha rfl rfl (by omega) dX3_init_8 (by decide) (by decide) (by decide) ?_
  refine wa_putF (M := m_X3_init) (pc := 10) (L0 := L0) (R2 := [(3, 5, [.ref (a + 1), .null, .null, .null, .int 0], zF), (20, 150, [], zF)]) (a := a) (t := 3) (n := 5) tyX3 0 ha (Nat.le_of_ble_eq_true rfl) (Nat.le_of_ble_eq_true rfl) rfl dX3_init_10 rfl rfl (by decide) inX3 tyX3_ok nmX3 wg_94 rfl rfl rfl (ee_na_ref (Or.inr ⟨_, rfl⟩)) ?_
  refine ww_aload_n dX3_init_13 rfl rfl ?_
  refine ww_sipush (v := nI 150) dX3_init_14 (by decide) ?_
  refine wa_I (M := m_X3_init) (pc := 17) (bc := 2) (bs := 39) (L0 := L0) (R2 := [(3, 5, [.ref (a + 1), .null, .null, .null, .int 0], zF), (20, 150, [], zF), (20, 150, [], zF)]) (a := a) (r := 2) (n := 150) ha rfl rfl (by omega) dX3_init_17 (by decide) (by decide) (by decide) ?_
  refine wa_putF (M := m_X3_init) (pc := 19) (L0 := L0) (R2 := [(3, 5, [.ref (a + 1), .ref (a + 2), .null, .null, .int 0], zF), (20, 150, [], zF), (20, 150, [], zF)]) (a := a) (t := 3) (n := 5) tyX3 1 ha (Nat.le_of_ble_eq_true rfl) (Nat.le_of_ble_eq_true rfl) rfl dX3_init_19 rfl rfl (by decide) inX3 tyX3_ok nmX3 wg_95 rfl rfl rfl (ee_na_ref (Or.inr ⟨_, rfl⟩)) ?_
  refine ww_aload_n dX3_init_22 rfl rfl ?_
  refine ww_bipush (v := nI 32) dX3_init_23 (by decide) ?_
  refine wa_I (M := m_X3_init) (pc := 25) (bc := 1) (bs := 7) (L0 := L0) (R2 := [(3, 5, [.ref (a + 1), .ref (a + 2), .null, .null, .int 0], zF), (20, 150, [], zF), (20, 150, [], zF), (20, 32, [], zF)]) (a := a) (r := 3) (n := 32) ha rfl rfl (by omega) dX3_init_25 (by decide) (by decide) (by decide) ?_
  refine wa_putF (M := m_X3_init) (pc := 27) (L0 := L0) (R2 := [(3, 5, [.ref (a + 1), .ref (a + 2), .ref (a + 3), .null, .int 0], zF), (20, 150, [], zF), (20, 150, [], zF), (20, 32, [], zF)]) (a := a) (t := 3) (n := 5) tyX3 2 ha (Nat.le_of_ble_eq_true rfl) (Nat.le_of_ble_eq_true rfl) rfl dX3_init_27 rfl rfl (by decide) inX3 tyX3_ok nmX3 wg_96 rfl rfl rfl (ee_na_ref (Or.inr ⟨_, rfl⟩)) ?_
  refine ww_aload_n dX3_init_30 rfl rfl ?_
  refine ww_bipush (v := nI 7) dX3_init_31 (by decide) ?_
  refine wa_I (M := m_X3_init) (pc := 33) (bc := 0) (bs := 0) (L0 := L0) (R2 := [(3, 5, [.ref (a + 1), .ref (a + 2), .ref (a + 3), .null, .int 0], zF), (20, 150, [], zF), (20, 150, [], zF), (20, 32, [], zF), (20, 7, [], zF)]) (a := a) (r := 4) (n := 7) ha rfl rfl (by omega) dX3_init_33 (by decide) (by decide) (by decide) ?_
  refine wa_putF (M := m_X3_init) (pc := 35) (L0 := L0) (R2 := [(3, 5, [.ref (a + 1), .ref (a + 2), .ref (a + 3), .ref (a + 4), .int 0], zF), (20, 150, [], zF), (20, 150, [], zF), (20, 32, [], zF), (20, 7, [], zF)]) (a := a) (t := 3) (n := 5) tyX3 3 ha (Nat.le_of_ble_eq_true rfl) (Nat.le_of_ble_eq_true rfl) rfl dX3_init_35 rfl rfl (by decide) inX3 tyX3_ok nmX3 wg_97 rfl rfl rfl (ee_na_ref (Or.inr ⟨_, rfl⟩)) ?_
  exact ww_vret dX3_init_38 rfl ⟨rfl, rfl⟩
set_option maxHeartbeats 4000000 in
set_option maxRecDepth 100000 in
theorem c_X5_init {l : Launch} {Z : EE} (hst : l.stackTraces = false) (L0 : List Cel) {a : Nat} (ha : L0.length = a) (ha9 : a < 900000) : CC l Z m_X5_init 1 1 600 [.ref a] (AP (L0 ++ [(5, 6, [.null, .int 0, .int 0, .int 0, .int 0, .int 0], zF)])) (RT none (AP (L0 ++ [(5, 6, [.ref (a + 1), .int 0, .int 0, .int 0, .int 0, .int (-1)], zF), (20, 600, [], zF)]))) := by
  refine ee_entry hst (by decide +kernel) rfl rfl (by simp [Value.category]) (Nat.le_of_ble_eq_true rfl) ?_
  refine ww_lv (lv2 := [.ref a]) rfl ?_
  refine ww_aload_n dX5_init_0 rfl rfl ?_
  refine ww_objInit dX5_init_1 (by decide) (Nat.le_of_ble_eq_true rfl) wg_37 wg_30 wg_31 ?_
  refine ww_aload_n dX5_init_4 rfl rfl ?_
  refine ww_sipush (v := nI 600) dX5_init_5 (by decide) ?_
  refine wa_I (M := m_X5_init) (pc := 8) (bc := 0) (bs := 0) (L0 := L0) (R2 := [(5, 6, [.null, .int 0, .int 0, .int 0, .int 0, .int 0], zF), (20, 600, [], zF)]) (a := a) (r := 1) (n := 600) ha rfl rfl (by omega) dX5_init_8 (by decide) (by decide) (by decide) ?_
  refine wa_putF (M := m_X5_init) (pc := 10) (L0 := L0) (R2 := [(5, 6, [.ref (a + 1), .int 0, .int 0, .int 0, .int 0, .int 0], zF), (20, 600, [], zF)]) (a := a) (t := 5) (n := 6) tyX5 0 ha (Nat.le_of_ble_eq_true rfl) (Nat.le_of_ble_eq_true rfl) rfl dX5_init_10 rfl rfl (by decide) inX5 tyX5_ok nmX5 wg_38 rfl rfl rfl (ee_na_ref (Or.inr ⟨_, rfl⟩)) ?_
  refine ww_aload_n dX5_init_13 rfl rfl ?_
  refine ww_iconst (v := -1) dX5_init_14 (by decide) ?_
  refine wa_put (M := m_X5_init) (pc := 15) (L0 := L0) (R2 := [(5, 6, [.ref (a + 1), .int 0, .int 0, .int 0, .int 0, .int (-1)], zF), (20, 600, [], zF)]) (a := a) (t := 5) (n := 6) tyX5 5 ha (Nat.le_of_ble_eq_true rfl) (Nat.le_of_ble_eq_true rfl) rfl dX5_init_15 rfl rfl (by decide) inX5 tyX5_ok nmX5 wg_48 rfl (by exact ee_na_int) ?_
  exact ww_vret dX5_init_18 rfl ⟨rfl, rfl⟩
set_option maxHeartbeats 4000000 in
set_option maxRecDepth 100000 in
theorem c_X6_init {l : Launch} {Z : EE} (hst : l.stackTraces = false) (L0 : List Cel) {a : Nat} (ha : L0.length = a) (ha9 : a < 900000) : CC l Z m_X6_init 1 2 61 [.ref a] (AP (L0 ++ [(6, 4, [.null, .null, .int 0, .int 0], zF)])) (RT none (AP (L0 ++ [(6, 4, [.ref (a + 1), .ref (a + 2), .int 0, .int 0], zF), (20, 61, [], zF), (20, 0, [], zF)]))) := by
  refine ee_entry hst (by decide +kernel) rfl rfl (by simp [Value.category]) (Nat.le_of_ble_eq_true rfl) ?_
  refine ww_lv (lv2 := [.ref a]) rfl ?_
  refine ww_aload_n dX6_init_0 rfl rfl ?_
  refine ww_objInit dX6_init_1 (by decide) (Nat.le_of_ble_eq_true rfl) wg_221 wg_30 wg_31 ?_
  refine ww_aload_n dX6_init_4 rfl rfl ?_
  refine ww_bipush (v := nI 61) dX6_init_5 (by decide) ?_
  refine wa_I (M := m_X6_init) (pc := 7) (bc := 1) (bs := 0) (L0 := L0) (R2 := [(6, 4, [.null, .null, .int 0, .int 0], zF), (20, 61, [], zF)]) (a := a) (r := 1) (n := 61) ha rfl rfl (by omega) dX6_init_7 (by decide) (by decide) (by decide) ?_
  refine wa_putF (M := m_X6_init) (pc := 9) (L0 := L0) (R2 := [(6, 4, [.ref (a + 1), .null, .int 0, .int 0], zF), (20, 61, [], zF)]) (a := a) (t := 6) (n := 4) tyX6 0 ha (Nat.le_of_ble_eq_true rfl) (Nat.le_of_ble_eq_true rfl) rfl dX6_init_9 rfl rfl (by decide) inX6 tyX6_ok nmX6 wg_222 rfl rfl rfl (ee_na_ref (Or.inr ⟨_, rfl⟩)) ?_
  refine ww_aload_n dX6_init_12 rfl rfl ?_
  refine ww_iconst (v := nI 0) dX6_init_13 (by decide) ?_
  refine wa_I (M := m_X6_init) (pc := 14) (bc := 0) (bs := 0) (L0 := L0) (R2 := [(6, 4, [.ref (a + 1), .null, .int 0, .int 0], zF), (20, 61, [], zF), (20, 0, [], zF)]) (a := a) (r := 2) (n := 0) ha rfl rfl (by omega) dX6_init_14 (by decide) (by decide) (by decide) ?_
  refine wa_put (M := m_X6_init) (pc := 16) (L0 := L0) (R2 := [(6, 4, [.ref (a + 1), .ref (a + 2), .int 0, .int 0], zF), (20, 61, [], zF), (20, 0, [], zF)]) (a := a) (t := 6) (n := 4) tyX6 1 ha (Nat.le_of_ble_eq_true rfl) (Nat.le_of_ble_eq_true rfl) rfl dX6_init_16 rfl rfl (by decide) inX6 tyX6_ok nmX6 wg_223 rfl (ee_na_ref (Or.inr ⟨_, rfl⟩)) ?_
  exact ww_vret dX6_init_19 rfl ⟨rfl, rfl⟩
set_option maxHeartbeats 4000000 in
set_option maxRecDepth 100000 in
theorem c_X7_init {l : Launch} {Z : EE} (hst : l.stackTraces = false) (L0 : List Cel) {a : Nat} (ha : L0.length = a) (ha9 : a < 900000) : CC l Z m_X7_init 1 5 305 [.ref a] (AP (L0 ++ [(7, 9, [.null, .null, .null, .null, .null, .int 0, .int 0, .int 0, .int 0], zF)])) (RT none (AP (L0 ++ [(7, 9, [.ref (a + 1), .ref (a + 2), .ref (a + 3), .ref (a + 4), .ref (a + 5), .int 0, .int 0, .int 0, .int 0], zF), (20, 61, [], zF), (20, 61, [], zF), (20, 61, [], zF), (20, 61, [], zF), (22, 61, [], zF)]))) := by
  refine ee_entry hst (by decide +kernel) rfl rfl (by simp [Value.category]) (Nat.le_of_ble_eq_true rfl) ?_
  refine ww_lv (lv2 := [.ref a]) rfl ?_
  refine ww_aload_n dX7_init_0 rfl rfl ?_
  refine ww_objInit dX7_init_1 (by decide) (Nat.le_of_ble_eq_true rfl) wg_167 wg_30 wg_31 ?_
  refine ww_aload_n dX7_init_4 rfl rfl ?_
  refine ww_bipush (v := nI 61) dX7_init_5 (by decide) ?_
  refine wa_I (M := m_X7_init) (pc := 7) (bc := 4) (bs := 244) (L0 := L0) (R2 := [(7, 9, [.null, .null, .null, .null, .null, .int 0, .int 0, .int 0, .int 0], zF), (20, 61, [], zF)]) (a := a) (r := 1) (n := 61) ha rfl rfl (by omega) dX7_init_7 (by decide) (by decide) (by decide) ?_
  refine wa_putF (M := m_X7_init) (pc := 9) (L0 := L0) (R2 := [(7, 9, [.ref (a + 1), .null, .null, .null, .null, .int 0, .int 0, .int 0, .int 0], zF), (20, 61, [], zF)]) (a := a) (t := 7) (n := 9) tyX7 0 ha (Nat.le_of_ble_eq_true rfl) (Nat.le_of_ble_eq_true rfl) rfl dX7_init_9 rfl rfl (by decide) inX7 tyX7_ok nmX7 wg_168 rfl rfl rfl (ee_na_ref (Or.inr ⟨_, rfl⟩)) ?_
  refine ww_aload_n dX7_init_12 rfl rfl ?_
  refine ww_bipush (v := nI 61) dX7_init_13 (by decide) ?_
  refine wa_I (M := m_X7_init) (pc := 15) (bc := 3) (bs := 183) (L0 := L0) (R2 := [(7, 9, [.ref (a + 1), .null, .null, .null, .null, .int 0, .int 0, .int 0, .int 0], zF), (20, 61, [], zF), (20, 61, [], zF)]) (a := a) (r := 2) (n := 61) ha rfl rfl (by omega) dX7_init_15 (by decide) (by decide) (by decide) ?_
  refine wa_putF (M := m_X7_init) (pc := 17) (L0 := L0) (R2 := [(7, 9, [.ref (a + 1), .ref (a + 2), .null, .null, .null, .int 0, .int 0, .int 0, .int 0], zF), (20, 61, [], zF), (20, 61, [], zF)]) (a := a) (t := 7) (n := 9) tyX7 1 ha (Nat.le_of_ble_eq_true rfl) (Nat.le_of_ble_eq_true rfl) rfl dX7_init_17 rfl rfl (by decide) inX7 tyX7_ok nmX7 wg_170 rfl rfl rfl (ee_na_ref (Or.inr ⟨_, rfl⟩)) ?_
  refine ww_aload_n dX7_init_20 rfl rfl ?_
  refine ww_bipush (v := nI 61) dX7_init_21 (by decide) ?_
  refine wa_I (M := m_X7_init) (pc := 23) (bc := 2) (bs := 122) (L0 := L0) (R2 := [(7, 9, [.ref (a + 1), .ref (a + 2), .null, .null, .null, .int 0, .int 0, .int 0, .int 0], zF), (20, 61, [], zF), (20, 61, [], zF), (20, 61, [], zF)]) (a := a) (r := 3) (n := 61) ha rfl rfl (by omega) dX7_init_23 (by decide) (by decide) (by decide) ?_
  refine wa_putF (M := m_X7_init) (pc := 25) (L0 := L0) (R2 := [(7, 9, [.ref (a + 1), .ref (a + 2), .ref (a + 3), .null, .null, .int 0, .int 0, .int 0, .int 0], zF), (20, 61, [], zF), (20, 61, [], zF), (20, 61, [], zF)]) (a := a) (t := 7) (n := 9) tyX7 2 ha (Nat.le_of_ble_eq_true rfl) (Nat.le_of_ble_eq_true rfl) rfl dX7_init_25 rfl rfl (by decide) inX7 tyX7_ok nmX7 wg_172 rfl rfl rfl (ee_na_ref (Or.inr ⟨_, rfl⟩)) ?_
  refine ww_aload_n dX7_init_28 rfl rfl ?_
  refine ww_bipush (v := nI 61) dX7_init_29 (by decide) ?_
  refine wa_I (M := m_X7_init) (pc := 31) (bc := 1) (bs := 61) (L0 := L0) (R2 := [(7, 9, [.ref (a + 1), .ref (a + 2), .ref (a + 3), .null, .null, .int 0, .int 0, .int 0, .int 0], zF), (20, 61, [], zF), (20, 61, [], zF), (20, 61, [], zF), (20, 61, [], zF)]) (a := a) (r := 4) (n := 61) ha rfl rfl (by omega) dX7_init_31 (by decide) (by decide) (by decide) ?_
  refine wa_putF (M := m_X7_init) (pc := 33) (L0 := L0) (R2 := [(7, 9, [.ref (a + 1), .ref (a + 2), .ref (a + 3), .ref (a + 4), .null, .int 0, .int 0, .int 0, .int 0], zF), (20, 61, [], zF), (20, 61, [], zF), (20, 61, [], zF), (20, 61, [], zF)]) (a := a) (t := 7) (n := 9) tyX7 3 ha (Nat.le_of_ble_eq_true rfl) (Nat.le_of_ble_eq_true rfl) rfl dX7_init_33 rfl rfl (by decide) inX7 tyX7_ok nmX7 wg_174 rfl rfl rfl (ee_na_ref (Or.inr ⟨_, rfl⟩)) ?_
  refine ww_aload_n dX7_init_36 rfl rfl ?_
  refine ww_bipush (v := nI 61) dX7_init_37 (by decide) ?_
  refine wa_Z (M := m_X7_init) (pc := 39) (bc := 0) (bs := 0) (L0 := L0) (R2 := [(7, 9, [.ref (a + 1), .ref (a + 2), .ref (a + 3), .ref (a + 4), .null, .int 0, .int 0, .int 0, .int 0], zF), (20, 61, [], zF), (20, 61, [], zF), (20, 61, [], zF), (20, 61, [], zF), (22, 61, [], zF)]) (a := a) (r := 5) (n := 61) ha rfl rfl (by omega) dX7_init_39 (by decide) (by decide) (by decide) ?_
  refine wa_putF (M := m_X7_init) (pc := 41) (L0 := L0) (R2 := [(7, 9, [.ref (a + 1), .ref (a + 2), .ref (a + 3), .ref (a + 4), .ref (a + 5), .int 0, .int 0, .int 0, .int 0], zF), (20, 61, [], zF), (20, 61, [], zF), (20, 61, [], zF), (20, 61, [], zF), (22, 61, [], zF)]) (a := a) (t := 7) (n := 9) tyX7 4 ha (Nat.le_of_ble_eq_true rfl) (Nat.le_of_ble_eq_true rfl) rfl dX7_init_41 rfl rfl (by decide) inX7 tyX7_ok nmX7 wg_175 rfl rfl rfl (ee_na_ref (Or.inr ⟨_, rfl⟩)) ?_
  exact ww_vret dX7_init_44 rfl ⟨rfl, rfl⟩
set_option maxHeartbeats 4000000 in
set_option maxRecDepth 100000 in
theorem c_X8_init {l : Launch} {Z : EE} (hst : l.stackTraces = false) (L0 : List Cel) {a : Nat} (ha : L0.length = a) (ha9 : a < 900000) : CC l Z m_X8_init 1 2 122 [.ref a] (AP (L0 ++ [(8, 2, [.null, .null], zF)])) (RT none (AP (L0 ++ [(8, 2, [.ref (a + 1), .ref (a + 2)], zF), (20, 61, [], zF), (20, 61, [], zF)]))) := by
  refine ee_entry hst (by decide +kernel) rfl rfl (by simp [Value.category]) (Nat.le_of_ble_eq_true rfl) ?_
  refine ww_lv (lv2 := [.ref a]) rfl ?_
  refine ww_aload_n dX8_init_0 rfl rfl ?_
  refine ww_objInit dX8_init_1 (by decide) (Nat.le_of_ble_eq_true rfl) wg_208 wg_30 wg_31 ?_
  refine ww_aload_n dX8_init_4 rfl rfl ?_
  refine ww_bipush (v := nI 61) dX8_init_5 (by decide) ?_
  refine wa_I (M := m_X8_init) (pc := 7) (bc := 1) (bs := 61) (L0 := L0) (R2 := [(8, 2, [.null, .null], zF), (20, 61, [], zF)]) (a := a) (r := 1) (n := 61) ha rfl rfl (by omega) dX8_init_7 (by decide) (by decide) (by decide) ?_
  refine wa_putF (M := m_X8_init) (pc := 9) (L0 := L0) (R2 := [(8, 2, [.ref (a + 1), .null], zF), (20, 61, [], zF)]) (a := a) (t := 8) (n := 2) tyX8 0 ha (Nat.le_of_ble_eq_true rfl) (Nat.le_of_ble_eq_true rfl) rfl dX8_init_9 rfl rfl (by decide) inX8 tyX8_ok nmX8 wg_209 rfl rfl rfl (ee_na_ref (Or.inr ⟨_, rfl⟩)) ?_
  refine ww_aload_n dX8_init_12 rfl rfl ?_
  refine ww_bipush (v := nI 61) dX8_init_13 (by decide) ?_
  refine wa_I (M := m_X8_init) (pc := 15) (bc := 0) (bs := 0) (L0 := L0) (R2 := [(8, 2, [.ref (a + 1), .null], zF), (20, 61, [], zF), (20, 61, [], zF)]) (a := a) (r := 2) (n := 61) ha rfl rfl (by omega) dX8_init_15 (by decide) (by decide) (by decide) ?_
  refine wa_putF (M := m_X8_init) (pc := 17) (L0 := L0) (R2 := [(8, 2, [.ref (a + 1), .ref (a + 2)], zF), (20, 61, [], zF), (20, 61, [], zF)]) (a := a) (t := 8) (n := 2) tyX8 1 ha (Nat.le_of_ble_eq_true rfl) (Nat.le_of_ble_eq_true rfl) rfl dX8_init_17 rfl rfl (by decide) inX8 tyX8_ok nmX8 wg_210 rfl rfl rfl (ee_na_ref (Or.inr ⟨_, rfl⟩)) ?_
  exact ww_vret dX8_init_20 rfl ⟨rfl, rfl⟩
set_option maxHeartbeats 4000000 in
set_option maxRecDepth 100000 in
theorem c_X9_init {l : Launch} {Z : EE} (hst : l.stackTraces = false) (L0 : List Cel) {a : Nat} (ha : L0.length = a) (ha9 : a < 900000) : CC l Z m_X9_init 2 3 254 [.ref a] (AP (L0 ++ [(9, 5, [.null, .null, .int 0, .int 0, .int 0], zF)])) (RT none (AP (L0 ++ [(9, 5, [.ref (a + 1), .ref (a + 3), .int 0, .int 0, .int 0], zF), (2, 3, [.ref (a + 2), .int (nI 0), .int (nI 2)], zF), (20, 190, [], emF), (22, 61, [], zF)]))) := by
  refine ee_entry hst (by decide +kernel) rfl rfl (by simp [Value.category]) (Nat.le_of_ble_eq_true rfl) ?_
  refine ww_lv (lv2 := [.ref a]) rfl ?_
  refine ww_aload_n dX9_init_0 rfl rfl ?_
  refine ww_objInit dX9_init_1 (by decide) (Nat.le_of_ble_eq_true rfl) wg_242 wg_30 wg_31 ?_
  refine ww_aload_n dX9_init_4 rfl rfl ?_
  refine wa_O (M := m_X9_init) (pc := 5) (bc := 2) (bs := 251) (L0 := L0) (R2 := [(9, 5, [.null, .null, .int 0, .int 0, .int 0], zF), (2, 3, [.null, .int 0, .int 0], zF)]) (a := a) (r := 1) (t := 2) tyX2 [.null, .int 0, .int 0] ha rfl rfl (by omega) dX9_init_5 rfl inX2 tyX2_ok wg_243 wg_65 wg_3 rfl (by decide) ?_
  refine ww_dup dX9_init_8 rfl ?_
  refine ww_hp (h2 := AP ((L0 ++ [(9, 5, [.null, .null, .int 0, .int 0, .int 0], zF)]) ++ [(2, 3, [.null, .int 0, .int 0], zF)])) (by rw [List.append_assoc]; rfl) ?_
  refine ww_cI0 (M := m_X9_init) (pc := 9) (a := (a + 1)) (h1 := AP ((L0 ++ [(9, 5, [.null, .null, .int 0, .int 0, .int 0], zF)]) ++ [(2, 3, [.ref (a + 2), .int (nI 0), .int (nI 2)], zF), (20, 190, [], emF)])) (st := [.ref (a + 1), .ref a]) (d := 2) (bc := 1) (bs := 61) (bc0 := 2) (bs0 := 251) (c_X2_init hst (L0 ++ [(9, 5, [.null, .null, .int 0, .int 0, .int 0], zF)]) (a := a + 1) (by rw [List.length_append, ha]; rfl) (by omega)) vv_X2_init dX9_init_9 wg_244 (by rw [show hp_K (AP ((L0 ++ [(9, 5, [.null, .null, .int 0, .int 0, .int 0], zF)]) ++ [(2, 3, [.null, .int 0, .int 0], zF)])) (a + 1) = (2, 3) from ap_K (by rw [List.length_append, ha]; rfl) 0]; decide) rfl rfl rfl (Nat.le_of_ble_eq_true rfl) (Nat.le_of_ble_eq_true rfl) (Nat.le_of_ble_eq_true rfl) (Nat.le_of_ble_eq_true rfl) ?_
  refine ww_hp (h2 := AP (L0 ++ [(9, 5, [.null, .null, .int 0, .int 0, .int 0], zF), (2, 3, [.ref (a + 2), .int (nI 0), .int (nI 2)], zF), (20, 190, [], emF)])) (by rw [List.append_assoc]; rfl) ?_
  refine wa_putF (M := m_X9_init) (pc := 12) (L0 := L0) (R2 := [(9, 5, [.ref (a + 1), .null, .int 0, .int 0, .int 0], zF), (2, 3, [.ref (a + 2), .int (nI 0), .int (nI 2)], zF), (20, 190, [], emF)]) (a := a) (t := 9) (n := 5) tyX9 0 ha (Nat.le_of_ble_eq_true rfl) (Nat.le_of_ble_eq_true rfl) rfl dX9_init_12 rfl rfl (by decide) inX9 tyX9_ok nmX9 wg_245 rfl rfl rfl (ee_na_ref (Or.inl ⟨_, rfl⟩)) ?_
  refine ww_aload_n dX9_init_15 rfl rfl ?_
  refine ww_bipush (v := nI 61) dX9_init_16 (by decide) ?_
  refine wa_Z (M := m_X9_init) (pc := 18) (bc := 0) (bs := 0) (L0 := L0) (R2 := [(9, 5, [.ref (a + 1), .null, .int 0, .int 0, .int 0], zF), (2, 3, [.ref (a + 2), .int (nI 0), .int (nI 2)], zF), (20, 190, [], emF), (22, 61, [], zF)]) (a := a) (r := 3) (n := 61) ha rfl rfl (by omega) dX9_init_18 (by decide) (by decide) (by decide) ?_
  refine wa_putF (M := m_X9_init) (pc := 20) (L0 := L0) (R2 := [(9, 5, [.ref (a + 1), .ref (a + 3), .int 0, .int 0, .int 0], zF), (2, 3, [.ref (a + 2), .int (nI 0), .int (nI 2)], zF), (20, 190, [], emF), (22, 61, [], zF)]) (a := a) (t := 9) (n := 5) tyX9 1 ha (Nat.le_of_ble_eq_true rfl) (Nat.le_of_ble_eq_true rfl) rfl dX9_init_20 rfl rfl (by decide) inX9 tyX9_ok nmX9 wg_247 rfl rfl rfl (ee_na_ref (Or.inr ⟨_, rfl⟩)) ?_
  exact ww_vret dX9_init_23 rfl ⟨rfl, rfl⟩
