section WWA
variable {l : Launch} {Z : EE} {M : MM} {d bc bs pc : Nat} {lv st : List Value} {h : PH} {Post : Res → PH → Prop}
theorem ee_arrU {Z : EE} {s : State} {cA : ClassId} {ty : FieldType} (i : Nat) (hi : (ee_tys Z)[i]? = some (Z.2.1 i, ty)) (hr : ∀ C, ty ≠ .object C) (hK : va_K Z.1 vwCl (ee_tys Z) s) (hK1 : va_K Z.1 vwCl (ee_tys Z ++ [(cA, ty)]) s) : cA = Z.2.1 i := by
  have h1 := (hK.2 i _ hi).2
  have h2 := (hK1.2 (ee_tys Z).length (cA, ty) List.getElem?_concat_length).2
  cases ty with
  | object C => exact absurd rfl (hr C)
  | _ => exact Option.some.inj (h2.symm.trans h1)
theorem ww_zast {a n : Nat} {i x : Int32} (hd : decode (mm_c M) pc = .ok (.bastore, 1)) (hk : hp_K h a = (22, n)) (hi : vp_in i n) (k : WW l Z M d bc bs (pc + 1) lv st (hp_sI h a (upd (hp_I h a) i.toNatClampNeg (vp_nar .boolean x))) Post) : WW l Z M d bc bs pc lv ((.int x) :: (.int i) :: (.ref a) :: st) h Post := by
  intro p e s m args below meth c ws0 mc ms ws H locs cells slots rls rst C' S h1 h2
  have C'' := C'
  obtain ⟨hx, hb, hr, hml, hown, hts, hlocks, htab, hK, hZ, hst, hnm⟩ := C''
  obtain ⟨hHR, hP, hD, hS, hL, hF, hE⟩ := S
  obtain ⟨w', r0, e0, qw, F1⟩ := hF.c
  subst e0
  cases (show w' = Value.int x from qw)
  obtain ⟨v', r1, e1, qv, F2⟩ := F1.c
  subst e1
  cases (show v' = Value.int i from qv)
  obtain ⟨b0, r2, e2, q0, F3⟩ := F2.c
  subst e2
  obtain ⟨q, g1, g4⟩ := hHR.arrZ hk
  cases g4 _ q0
  refine va_zast hx hb hK hP hD hS a 2 g1 rfl hi hd (fun H1 locs1 hP1 hD1 hS1 => ?_)
  exact k p e s m args below meth c ws0 mc ms _ H1 locs1 cells slots rls _ C' ⟨ee_sZR hHR hk g1, hP1, hD1, hS1, hL.ext (ee_Ext.set g1), F3.ext (ee_Ext.set g1), hE.tr (ee_Ext.set g1)⟩ h1 h2
theorem ww_alenI {a n : Nat} (hd : decode (mm_c M) pc = .ok (.arraylength, 1)) (hk : hp_K h a = (20, n)) (k : WW l Z M d bc bs (pc + 1) lv ((.int (Int32.ofNat n)) :: st) h Post) : WW l Z M d bc bs pc lv ((.ref a) :: st) h Post := by
  intro p e s m args below meth c ws0 mc ms ws H locs cells slots rls rst C' S h1 h2
  have C'' := C'
  obtain ⟨hx, hb, hr, hml, hown, hts, hlocks, htab, hK, hZ, hst, hnm⟩ := C''
  obtain ⟨hHR, hP, hD, hS, hL, hF, hE⟩ := S
  obtain ⟨b0, r0, e0, q0, F1⟩ := hF.c
  subst e0
  obtain ⟨q, g1, g4⟩ := hHR.arrI hk
  cases g4 _ q0
  refine va_alen hx hb hK hP a 0 g1 (ty := .int) rfl rfl hd ?_
  exact k p e s m args below meth c ws0 mc ms ws H locs cells slots rls _ C' ⟨hHR, hP, hD, hS, hL, ⟨rfl, F1⟩, hE⟩ h1 h2
theorem ww_aald {a n : Nat} {i : Int32} {v : Value} (hd : decode (mm_c M) pc = .ok (.aaload, 1)) (hk : hp_K h a = (23, n)) (hi : vp_in i n) (hv : hp_F h a i.toNatClampNeg = v) (k : WW l Z M d bc bs (pc + 1) lv (v :: st) h Post) : WW l Z M d bc bs pc lv ((.int i) :: (.ref a) :: st) h Post := by
  intro p e s m args below meth c ws0 mc ms ws H locs cells slots rls rst C' S h1 h2
  have C'' := C'
  obtain ⟨hx, hb, hr, hml, hown, hts, hlocks, htab, hK, hZ, hst, hnm⟩ := C''
  obtain ⟨hHR, hP, hD, hS, hL, hF, hE⟩ := S
  obtain ⟨v', r0, e0, qv, F1⟩ := hF.c
  subst e0
  cases (show v' = Value.int i from qv)
  obtain ⟨b0, r1, e1, q0, F2⟩ := F1.c
  subst e1
  obtain ⟨q, g, g1, g2, g4⟩ := hHR.arrP hk
  cases g4 _ q0
  have hlt : i.toNatClampNeg < n := Nat.not_le.mp fun q => hi (Or.inr q)
  have p2 := g2 _ hlt
  rw [hv] at p2
  refine va_aldq (C := "WidowSeven$Past") hx hb hK hP a 3 g1 rfl hi hd ?_
  exact k p e s m args below meth c ws0 mc ms ws H locs cells slots rls _ C' ⟨hHR, hP, hD, hS, hL, ⟨p2, F2⟩, hE⟩ h1 h2
theorem ee_sPR {Z : EE} {ws : va_W} {h : PH} {a n j q : Nat} {g : Nat → Option Nat} {v : Value} {o : Option Nat} (hHR : ee_HR Z ws h) (hk : hp_K h a = (23, n)) (g1 : ws[a]? = some (q, .inl (Z.2.1 3, n, .inr (.inr (.inr (.inr g)))))) (g2 : ∀ j, j < n → ee_VR Z ws (hp_F h a j) (va_rf (g j))) (hv : ee_VR Z ws v (va_rf o)) : ee_HR Z (ws.set a (q, .inl (Z.2.1 3, n, .inr (.inr (.inr (.inr (va_up g j o))))))) (hp_sF h a j v) := by
  have hK9 : hp_K (hp_sF h a j v) a = (23, n) := hk
  refine hHR.set g1 rfl rfl (fun k hka => ⟨?_, rfl, rfl⟩) (Or.inr (Or.inr (Or.inr (Or.inr ⟨by rw [hK9], va_up g j o, by rw [hK9], fun i hi => ?_⟩))))
  · funext i
    show (if k = a ∧ i = j then v else hp_F h k i) = _
    rw [if_neg (fun z => hka z.1)]
  · rw [hK9] at hi
    have hi : i < n := hi
    show ee_VR Z _ (if a = a ∧ i = j then v else hp_F h a i) (va_rf (if i = j then o else g i))
    by_cases hij : i = j
    · rw [if_pos ⟨rfl, hij⟩, if_pos hij]
      exact hv.ext (ee_Ext.set g1)
    · rw [if_neg (fun z => hij z.2), if_neg hij]
      exact (g2 i hi).ext (ee_Ext.set g1)
theorem ww_aastN {a n : Nat} {i : Int32} (hd : decode (mm_c M) pc = .ok (.aastore, 1)) (hk : hp_K h a = (23, n)) (hi : vp_in i n) (k : WW l Z M d bc bs (pc + 1) lv st (hp_sF h a i.toNatClampNeg .null) Post) : WW l Z M d bc bs pc lv (.null :: (.int i) :: (.ref a) :: st) h Post := by
  intro p e s m args below meth c ws0 mc ms ws H locs cells slots rls rst C' S h1 h2
  have C'' := C'
  obtain ⟨hx, hb, hr, hml, hown, hts, hlocks, htab, hK, hZ, hst, hnm⟩ := C''
  obtain ⟨hHR, hP, hD, hS, hL, hF, hE⟩ := S
  obtain ⟨w', r0, e0, qw, F1⟩ := hF.c
  subst e0
  cases (show w' = Value.null from qw)
  obtain ⟨v', r1, e1, qv, F2⟩ := F1.c
  subst e1
  cases (show v' = Value.int i from qv)
  obtain ⟨b0, r2, e2, q0, F3⟩ := F2.c
  subst e2
  obtain ⟨q, g, g1, g2, g4⟩ := hHR.arrP hk
  cases g4 _ q0
  refine va_astqN (C := "WidowSeven$Past") hx hb hK hP hD hS a 3 g1 rfl hi hd (fun H1 locs1 hP1 hD1 hS1 => ?_)
  exact k p e s m args below meth c ws0 mc ms _ H1 locs1 cells slots rls _ C' ⟨ee_sPR (o := none) hHR hk g1 g2 rfl, hP1, hD1, hS1, hL.ext (ee_Ext.set g1), F3.ext (ee_Ext.set g1), hE.tr (ee_Ext.set g1)⟩ h1 h2
theorem ww_aast {a n x : Nat} {i : Int32} (hd : decode (mm_c M) pc = .ok (.aastore, 1)) (hk : hp_K h a = (23, n)) (hi : vp_in i n) (hkx : hp_K h x = (4, 3)) (k : WW l Z M d bc bs (pc + 1) lv st (hp_sF h a i.toNatClampNeg (.ref x)) Post) : WW l Z M d bc bs pc lv ((.ref x) :: (.int i) :: (.ref a) :: st) h Post := by
  intro p e s m args below meth c ws0 mc ms ws H locs cells slots rls rst C' S h1 h2
  have C'' := C'
  obtain ⟨hx, hb, hr, hml, hown, hts, hlocks, htab, hK, hZ, hst, hnm⟩ := C''
  obtain ⟨hHR, hP, hD, hS, hL, hF, hE⟩ := S
  obtain ⟨w', r0, e0, qw, F1⟩ := hF.c
  subst e0
  obtain ⟨qx, fx, x1, x2, x3, x4⟩ := hHR.obj hkx (by omega)
  have qw' := qw
  cases x4 _ qw
  obtain ⟨v', r1, e1, qv, F2⟩ := F1.c
  subst e1
  cases (show v' = Value.int i from qv)
  obtain ⟨b0, r2, e2, q0, F3⟩ := F2.c
  subst e2
  obtain ⟨q, g, g1, g2, g4⟩ := hHR.arrP hk
  cases g4 _ q0
  refine va_astq hx hb hK hP hD hS a 3 x 4 g1 (r := (RX4, TX4, 3)) rfl x1 rfl hi hd (fun H1 locs1 hP1 hD1 hS1 => ?_)
  exact k p e s m args below meth c ws0 mc ms _ H1 locs1 cells slots rls _ C' ⟨ee_sPR (o := some qx) hHR hk g1 g2 qw', hP1, hD1, hS1, hL.ext (ee_Ext.set g1), F3.ext (ee_Ext.set g1), hE.tr (ee_Ext.set g1)⟩ h1 h2
theorem ww_new {t n idx : Nat} {C : String} {T : u_T} (ty0 : Nat → FieldType) (fs : List Value) (hd : decode (mm_c M) pc = .ok (.new idx, 3)) (hc : vwCl[t]? = some (C, T, n)) (hin : ∀ w ∈ u_ws C T n, w ∈ TG) (hty : ∀ k, k < n → parseFieldDescriptor (T k).2.2.1 = some (ty0 k))
    (w1 : Cond.classLink (mm_own M) idx C ∈ TG) (w2 : Cond.instantiable C n ∈ TG) (w3 : Cond.initialized C ∈ TG) (hlen : fs.length = n) (hfs : ∀ j, j < n → defaultValue (ty0 j) = vp_V fs j) (hN : hp_N h < 1000000)
    (k : WW l Z M d bc bs (pc + 3) lv ((.ref (hp_N h)) :: st) (hp_new h t n (vp_V fs) (fun _ => 0) (fun _ => 0)) Post) : WW l Z M d (bc + 1) (bs + n) pc lv st h Post := by
  intro p e s m args below meth c ws0 mc ms ws H locs cells slots rls rst C' S h1 h2
  have C'' := C'
  obtain ⟨hx, hb, hr, hml, hown, hts, hlocks, htab, hK, hZ, hst, hnm⟩ := C''
  obtain ⟨hHR, hP, hD, hS, hL, hF, hE⟩ := S
  have z1 : (ee_rm d mc ms).cells = mc := rfl
  have z2 : (ee_rm d mc ms).slots = ms := rfl
  refine va_new (ci := t) (fs := fs) (C := C) (T := T) (N := n) hx hb hts hin ty0 hty hown (hts _ w1) (hts _ w2) (hts _ w3) hK hP hD hS (fun q hq => Or.inr hq) hc hfs (by rw [z1]; omega) (by rw [z2]; omega) hd (fun q H1 hP1 hD1 hS1 => ?_)
  have hx9 : ee_Ext ws (ws ++ [(q, Sum.inr (t, fs))]) := ee_Ext.push ws _
  refine k p e s m args below meth c ws0 mc ms _ H1 locs (cells + 1) (slots + n) rls _ C' ⟨hHR.push hN (Or.inl ?_), hP1, hD1, hS1, hL.ext hx9, ⟨Or.inl ⟨q, _, by rw [← hHR.1]; exact List.getElem?_concat_length, rfl⟩, hF.ext hx9⟩, hE.tr hx9⟩ (by omega) (by omega)
  have e1 : hp_K (hp_new h t n (vp_V fs) (fun _ => 0) (fun _ => 0)) (hp_N h) = (t, n) := by
    show (if hp_N h = hp_N h then (t, n) else hp_K h (hp_N h)) = _
    rw [if_pos rfl]
  have e2 : hp_F (hp_new h t n (vp_V fs) (fun _ => 0) (fun _ => 0)) (hp_N h) = vp_V fs := by
    show (if hp_N h = hp_N h then vp_V fs else hp_F h (hp_N h)) = _
    rw [if_pos rfl]
  rw [e1, e2]
  refine ⟨ee_cl hc, fs, rfl, hlen, fun j hj => ⟨vp_V fs j, ?_, by rw [← hfs j hj]; exact ee_dv Z _ _⟩⟩
  show fs[j]? = some (fs.getD j .null)
  rw [List.getD_eq_getElem?_getD]
  have hj2 : j < fs.length := by have hj3 : j < n := hj; omega
  rw [List.getElem?_eq_getElem hj2]
  rfl
theorem ww_newI {n : Nat} {x : Int32} (hd : decode (mm_c M) pc = .ok (.newarray .int, 2)) (w : Cond.arrayClass .int ∈ TG) (hn : ¬ x < 0) (hx9 : x.toNatClampNeg = n) (hb9 : n * 4 ≤ 536870912) (hN : hp_N h < 1000000)
    (k : WW l Z M d bc bs (pc + 2) lv ((.ref (hp_N h)) :: st) (hp_new h 20 n (fun _ => .null) (fun _ => 0) (fun _ => 0)) Post) : WW l Z M d (bc + 1) (bs + n) pc lv ((.int x) :: st) h Post := by
  intro p e s m args below meth c ws0 mc ms ws H locs cells slots rls rst C' S h1 h2
  have C'' := C'
  obtain ⟨hx, hb, hr, hml, hown, hts, hlocks, htab, hK, hZ, hst, hnm⟩ := C''
  obtain ⟨hHR, hP, hD, hS, hL, hF, hE⟩ := S
  obtain ⟨v', r0, e0, qv, F1⟩ := hF.c
  subst e0
  cases (show v' = Value.int x from qv)
  have z1 : (ee_rm d mc ms).cells = mc := rfl
  have z2 : (ee_rm d mc ms).slots = ms := rfl
  refine va_newa (atype := .int) (ty := .int) (a0 := (n, .inl (fun _ => 0))) hx hb (hts _ w) rfl hK hP hD hS (fun q hq => Or.inr hq) (fun _ => rfl) hn hx9 hb9 (by rw [z1]; omega) (by rw [z2]; omega) hd (fun q cA H1 hK1 hP1 hD1 hS1 => ?_)
  cases ee_arrU (Z := Z) 0 rfl (fun _ z => by cases z) hK hK1
  have hx8 : ee_Ext ws (ws ++ [(q, Sum.inl (Z.2.1 0, n, Sum.inl (fun _ => 0)))]) := ee_Ext.push ws _
  refine k p e s m args below meth c ws0 mc ms _ H1 locs (cells + 1) (slots + n) rls _ C' ⟨hHR.push hN (Or.inr (Or.inl ?_)), hP1, hD1, hS1, hL.ext hx8, ⟨Or.inl ⟨q, _, by rw [← hHR.1]; exact List.getElem?_concat_length, rfl⟩, F1.ext hx8⟩, hE.tr hx8⟩ (by omega) (by omega)
  have e1 : hp_K (hp_new h 20 n (fun _ => .null) (fun _ => 0) (fun _ => 0)) (hp_N h) = (20, n) := by
    show (if hp_N h = hp_N h then (20, n) else hp_K h (hp_N h)) = _
    rw [if_pos rfl]
  have e2 : hp_I (hp_new h 20 n (fun _ => .null) (fun _ => 0) (fun _ => 0)) (hp_N h) = (fun _ => 0) := by
    show (if hp_N h = hp_N h then (fun _ => 0) else hp_I h (hp_N h)) = _
    rw [if_pos rfl]
  rw [e1, e2]
  exact ⟨rfl, rfl⟩
theorem ww_newZ {n : Nat} {x : Int32} (hd : decode (mm_c M) pc = .ok (.newarray .boolean, 2)) (w : Cond.arrayClass .boolean ∈ TG) (hn : ¬ x < 0) (hx9 : x.toNatClampNeg = n) (hb9 : n * 1 ≤ 536870912) (hN : hp_N h < 1000000)
    (k : WW l Z M d bc bs (pc + 2) lv ((.ref (hp_N h)) :: st) (hp_new h 22 n (fun _ => .null) (fun _ => 0) (fun _ => 0)) Post) : WW l Z M d (bc + 1) (bs + n) pc lv ((.int x) :: st) h Post := by
  intro p e s m args below meth c ws0 mc ms ws H locs cells slots rls rst C' S h1 h2
  have C'' := C'
  obtain ⟨hx, hb, hr, hml, hown, hts, hlocks, htab, hK, hZ, hst, hnm⟩ := C''
  obtain ⟨hHR, hP, hD, hS, hL, hF, hE⟩ := S
  obtain ⟨v', r0, e0, qv, F1⟩ := hF.c
  subst e0
  cases (show v' = Value.int x from qv)
  have z1 : (ee_rm d mc ms).cells = mc := rfl
  have z2 : (ee_rm d mc ms).slots = ms := rfl
  refine va_newa (atype := .boolean) (ty := .boolean) (a0 := (n, .inl (fun _ => 0))) hx hb (hts _ w) rfl hK hP hD hS (fun q hq => Or.inr hq) (fun _ => rfl) hn hx9 hb9 (by rw [z1]; omega) (by rw [z2]; omega) hd (fun q cA H1 hK1 hP1 hD1 hS1 => ?_)
  cases ee_arrU (Z := Z) 2 rfl (fun _ z => by cases z) hK hK1
  have hx8 : ee_Ext ws (ws ++ [(q, Sum.inl (Z.2.1 2, n, Sum.inl (fun _ => 0)))]) := ee_Ext.push ws _
  refine k p e s m args below meth c ws0 mc ms _ H1 locs (cells + 1) (slots + n) rls _ C' ⟨hHR.push hN (Or.inr (Or.inr (Or.inr (Or.inl ?_)))), hP1, hD1, hS1, hL.ext hx8, ⟨Or.inl ⟨q, _, by rw [← hHR.1]; exact List.getElem?_concat_length, rfl⟩, F1.ext hx8⟩, hE.tr hx8⟩ (by omega) (by omega)
  have e1 : hp_K (hp_new h 22 n (fun _ => .null) (fun _ => 0) (fun _ => 0)) (hp_N h) = (22, n) := by
    show (if hp_N h = hp_N h then (22, n) else hp_K h (hp_N h)) = _
    rw [if_pos rfl]
  have e2 : hp_I (hp_new h 22 n (fun _ => .null) (fun _ => 0) (fun _ => 0)) (hp_N h) = (fun _ => 0) := by
    show (if hp_N h = hp_N h then (fun _ => 0) else hp_I h (hp_N h)) = _
    rw [if_pos rfl]
  rw [e1, e2]
  exact ⟨rfl, rfl⟩
theorem ww_newL {n : Nat} {x : Int32} (hd : decode (mm_c M) pc = .ok (.newarray .long, 2)) (w : Cond.arrayClass .long ∈ TG) (hn : ¬ x < 0) (hx9 : x.toNatClampNeg = n) (hb9 : n * 8 ≤ 536870912) (hN : hp_N h < 1000000)
    (k : WW l Z M d bc bs (pc + 2) lv ((.ref (hp_N h)) :: st) (hp_new h 21 n (fun _ => .null) (fun _ => 0) (fun _ => 0)) Post) : WW l Z M d (bc + 1) (bs + n) pc lv ((.int x) :: st) h Post := by
  intro p e s m args below meth c ws0 mc ms ws H locs cells slots rls rst C' S h1 h2
  have C'' := C'
  obtain ⟨hx, hb, hr, hml, hown, hts, hlocks, htab, hK, hZ, hst, hnm⟩ := C''
  obtain ⟨hHR, hP, hD, hS, hL, hF, hE⟩ := S
  obtain ⟨v', r0, e0, qv, F1⟩ := hF.c
  subst e0
  cases (show v' = Value.int x from qv)
  have z1 : (ee_rm d mc ms).cells = mc := rfl
  have z2 : (ee_rm d mc ms).slots = ms := rfl
  refine va_newa (atype := .long) (ty := .long) (a0 := (n, .inr (.inl (fun _ => 0)))) hx hb (hts _ w) rfl hK hP hD hS (fun q hq => Or.inr hq) (fun _ => rfl) hn hx9 hb9 (by rw [z1]; omega) (by rw [z2]; omega) hd (fun q cA H1 hK1 hP1 hD1 hS1 => ?_)
  cases ee_arrU (Z := Z) 1 rfl (fun _ z => by cases z) hK hK1
  have hx8 : ee_Ext ws (ws ++ [(q, Sum.inl (Z.2.1 1, n, Sum.inr (Sum.inl (fun _ => 0))))]) := ee_Ext.push ws _
  refine k p e s m args below meth c ws0 mc ms _ H1 locs (cells + 1) (slots + n) rls _ C' ⟨hHR.push hN (Or.inr (Or.inr (Or.inl ?_))), hP1, hD1, hS1, hL.ext hx8, ⟨Or.inl ⟨q, _, by rw [← hHR.1]; exact List.getElem?_concat_length, rfl⟩, F1.ext hx8⟩, hE.tr hx8⟩ (by omega) (by omega)
  have e1 : hp_K (hp_new h 21 n (fun _ => .null) (fun _ => 0) (fun _ => 0)) (hp_N h) = (21, n) := by
    show (if hp_N h = hp_N h then (21, n) else hp_K h (hp_N h)) = _
    rw [if_pos rfl]
  have e2 : hp_L (hp_new h 21 n (fun _ => .null) (fun _ => 0) (fun _ => 0)) (hp_N h) = (fun _ => 0) := by
    show (if hp_N h = hp_N h then (fun _ => 0) else hp_L h (hp_N h)) = _
    rw [if_pos rfl]
  rw [e1, e2]
  exact ⟨rfl, rfl⟩
end WWA
