/-! ===== what was meant in the reference ===== -/
def MtM (m : Nat) (fr : Nat → Nat) (s : MT) (h : PH) : Prop := ModS h m ∧ hp_F h m 44 = .int (nI s.1) ∧ hp_F h m 45 = .int (ftV s) ∧ (∀ i, i < 61 → hp_I h (m + 22) i = nI (s.2.2 i)) ∧ ∀ i, i < 61 → hp_I h (m + 23) i = nI (fr i)
def mmX (m : Nat) : Nat → Prop := fun c => c = m + 22
def mmY (m : Nat) : Nat → Nat → Prop := fun a j => a = m ∧ (j = 44 ∨ j = 45)
def dgV : List Nat → Nat
  | [] => 0
  | d :: t => 100 * dgV t + d
def inG (w : Nat → Nat) (z : Int32) : List Nat → Nat → Nat
  | [] => w
  | d :: t => inG (if nI d = z then w else hld w d) (nI d) t
theorem inG_1 {w : Nat → Nat} {a : Nat} (ha : a ≤ 60) : inG w (-1) [a] = hld w a := by
  show (if nI a = -1 then w else hld w a) = _
  rw [if_neg (nI_m1 (by omega))]
theorem inG_2 {w : Nat → Nat} {a b : Nat} (ha : a ≤ 60) (hb : b ≤ 60) : inG w (-1) [b, a] = hB2 w a b := by
  show (if nI a = nI b then (if nI b = -1 then w else hld w b) else hld (if nI b = -1 then w else hld w b) a) = _
  rw [if_neg (nI_m1 (by omega))]
  unfold hB2
  by_cases e : a = b
  · rw [if_pos (by rw [e]), if_pos e.symm, e]
  · rw [if_neg (nI_ne e (by omega) (by omega)), if_neg (fun q => e q.symm), hld_c]
theorem inG_3 {w : Nat → Nat} {a b c : Nat} (ha : a ≤ 60) (hb : b ≤ 60) (hc : c ≤ 60) : inG w (-1) [c, b, a] = hB3 w a b c := by
  show (if nI a = nI b then (if nI b = nI c then (if nI c = -1 then w else hld w c) else hld (if nI c = -1 then w else hld w c) b) else hld (if nI b = nI c then (if nI c = -1 then w else hld w c) else hld (if nI c = -1 then w else hld w c) b) a) = _
  rw [if_neg (nI_m1 (by omega))]
  unfold hB3 hB2
  by_cases e : a = b
  · subst e
    rw [if_pos rfl, if_pos rfl]
    by_cases e2 : a = c
    · rw [if_pos (by rw [e2]), if_pos e2.symm, e2]
    · rw [if_neg (nI_ne e2 (by omega) (by omega)), if_neg (fun q => e2 q.symm), hld_c]
  · rw [if_neg (nI_ne e (by omega) (by omega)), if_neg (show ¬ b = a from fun q => e q.symm)]
    by_cases e2 : b = c
    · subst e2
      rw [if_pos rfl, if_pos rfl, hld_c]
    · rw [if_neg (nI_ne e2 (by omega) (by omega)), if_neg (fun q => e2 q.symm), hld_c w c b, hld_c (hld w b) c a, hld_c w b a]
theorem MtM.hold {m : Nat} {fr : Nat → Nat} {s : MT} {h : PH} (hA : MtM m fr s h) {n : Nat} {F : Nat → Int32} (hF : F = upd (hp_I h (m + 22)) n (hp_I h (m + 22) n + nI 1)) (hn : n < 61) : MtM m fr (s.1, s.2.1, hld s.2.2 n) (hp_sI h (m + 22) F) :=
  ⟨hA.1, hA.2.1, hA.2.2.1, fun i hi => by
    rw [hp_I_eq, hF]
    by_cases e : i = n
    · subst e
      rw [pk_us, hA.2.2.2.1 i hi, nI_add]
      show _ = nI (if i = i then _ else _)
      rw [if_pos rfl]
    · rw [pk_un e, hA.2.2.2.1 i hi]
      show _ = nI (if i = n then _ else _)
      rw [if_neg e], fun i hi => by rw [hp_I_ne (by omega)]; exact hA.2.2.2.2 i hi⟩
theorem dgV_le : ∀ ds : List Nat, ds.length ≤ 3 → (∀ x ∈ ds, 1 ≤ x ∧ x ≤ 60) → dgV ds ≤ 606060
  | [], _, _ => Nat.zero_le _
  | [a], _, h => by have := h a List.mem_cons_self; show 100 * 0 + a ≤ _; omega
  | [a, b], _, h => by have := h a List.mem_cons_self; have := h b (List.mem_cons_of_mem _ List.mem_cons_self); show 100 * (100 * 0 + b) + a ≤ _; omega
  | [a, b, c], _, h => by have := h a List.mem_cons_self; have := h b (List.mem_cons_of_mem _ List.mem_cons_self); have := h c (List.mem_cons_of_mem _ (List.mem_cons_of_mem _ List.mem_cons_self)); show 100 * (100 * (100 * 0 + c) + b) + a ≤ _; omega
  | _ :: _ :: _ :: _ :: _, h, _ => by simp only [List.length_cons] at h; omega
set_option maxHeartbeats 4000000 in
set_option maxRecDepth 100000 in
theorem l_M_dig {l : Launch} {Z : EE} (hst : l.stackTraces = false) {h : PH} {m : Nat} {fr : Nat → Nat} (fm D0 : Nat) : ∀ (ds : List Nat) (z : Int32) (s : MT) (hq : PH), ds.length ≤ 3 → (∀ x ∈ ds, 1 ≤ x ∧ x ≤ 60) → MtM m fr s hq → Same (mmX m) (mmY m) h hq → WW l Z m_X11_meetsOn 0 0 0 47 [.ref m, .int (nI fm), .int (nI 0), .int (nI 0), .int (nI D0), .int z, .int (nI (dgV ds))] [] hq (RQ none (fun h9 => MtM m fr (s.1, s.2.1, inG s.2.2 z ds) h9 ∧ Same (mmX m) (mmY m) h h9)) := by
  intro ds
  induction ds with
  | nil =>
    intro z s hq hl hd hA hS
    refine ww_lv (lv2 := [.ref m, .int (nI fm), .int (nI 0), .int (nI 0), .int (nI D0), .int z, .int (nI 0)]) rfl ?_
    refine ww_iload dX11_meetsOn_47 rfl ?_
    refine ww_if_leN (tgt := 93) dX11_meetsOn_49 (by decide) (by omega) (fun c49 => ?_) (fun c49 => ?_)
    · exact ww_vret dX11_meetsOn_93 rfl ⟨rfl, hA, hS⟩
    · exact absurd c49 (by decide)
  | cons d t ih =>
    intro z s hq hl hd hA hS
    have hd0 := hd d List.mem_cons_self
    have ht0 := dgV_le t (by simp only [List.length_cons] at hl; omega) (fun x hx => hd x (List.mem_cons_of_mem _ hx))
    have hv9 : dgV (d :: t) = 100 * dgV t + d := rfl
    generalize hV : dgV (d :: t) = V at hv9 ⊢
    refine ww_iload dX11_meetsOn_47 rfl ?_
    refine ww_if_leN (tgt := 93) dX11_meetsOn_49 (by decide) (by omega) (fun c49 => ?_) (fun c49 => ?_)
    · exfalso; omega
    · refine ww_iload dX11_meetsOn_52 rfl ?_
      refine ww_bipush (v := nI 100) dX11_meetsOn_54 (by decide) ?_
      refine ww_iremN dX11_meetsOn_56 (by omega) (by omega) (by omega) ?_
      refine ww_sk (st2 := [.int (nI d)]) (by rw [show V % 100 = d by omega]) ?_
      refine ww_iload dX11_meetsOn_57 rfl ?_
      refine ww_icmp_eq (tgt := 76) dX11_meetsOn_59 (by decide) (fun c59 => ?_) (fun c59 => ?_)
      · refine ww_iload dX11_meetsOn_76 rfl ?_
        refine ww_bipush (v := nI 100) dX11_meetsOn_78 (by decide) ?_
        refine ww_iremN dX11_meetsOn_80 (by omega) (by omega) (by omega) ?_
        refine ww_sk (st2 := [.int (nI d)]) (by rw [show V % 100 = d by omega]) ?_
        refine ww_sti (lv2 := [.ref m, .int (nI fm), .int (nI 0), .int (nI 0), .int (nI D0), .int (nI d), .int (nI V)]) dX11_meetsOn_81 rfl (by decide) rfl ?_
        refine ww_iload dX11_meetsOn_83 rfl ?_
        refine ww_bipush (v := nI 100) dX11_meetsOn_85 (by decide) ?_
        refine ww_idivN dX11_meetsOn_87 (by omega) (by omega) (by omega) ?_
        refine ww_sti (lv2 := [.ref m, .int (nI fm), .int (nI 0), .int (nI 0), .int (nI D0), .int (nI d), .int (nI (V / 100))]) dX11_meetsOn_88 rfl (by decide) rfl ?_
        refine ww_goto (tgt := 47) dX11_meetsOn_90 (by decide) ?_
        refine ww_lv (lv2 := [.ref m, .int (nI fm), .int (nI 0), .int (nI 0), .int (nI D0), .int (nI d), .int (nI (dgV t))]) (by rw [show V / 100 = dgV t by omega]) ?_
        rw [show inG s.2.2 z (d :: t) = inG s.2.2 (nI d) t from by show inG (if nI d = z then _ else _) _ _ = _; rw [if_pos c59]]
        exact ih (nI d) s hq (by simp only [List.length_cons] at hl; omega) (fun x hx => hd x (List.mem_cons_of_mem _ hx)) hA hS
      · refine ww_aload_n dX11_meetsOn_62 rfl rfl ?_
        refine ww_get 46 dX11_meetsOn_63 hA.1.K0 rfl (by decide) inX11 wg_1286 hA.1.F22 ?_
        refine ww_iload dX11_meetsOn_66 rfl ?_
        refine ww_bipush (v := nI 100) dX11_meetsOn_68 (by decide) ?_
        refine ww_iremN dX11_meetsOn_70 (by omega) (by omega) (by omega) ?_
        refine ww_sk (st2 := [.int (nI d), .ref (m + 22)]) (by rw [show V % 100 = d by omega]) ?_
        refine ww_dup2 dX11_meetsOn_71 rfl rfl ?_
        refine ww_ialdF dX11_meetsOn_72 hA.1.K22 rfl (by omega) (by omega) ?_
        refine ww_iconst (v := nI 1) dX11_meetsOn_73 (by decide) ?_
        refine ww_iadd dX11_meetsOn_74 ?_
        refine ww_iastF dX11_meetsOn_75 hA.1.K22 rfl (by omega) (by omega) ?_
        refine ww_iload dX11_meetsOn_76 rfl ?_
        refine ww_bipush (v := nI 100) dX11_meetsOn_78 (by decide) ?_
        refine ww_iremN dX11_meetsOn_80 (by omega) (by omega) (by omega) ?_
        refine ww_sk (st2 := [.int (nI d)]) (by rw [show V % 100 = d by omega]) ?_
        refine ww_sti (lv2 := [.ref m, .int (nI fm), .int (nI 0), .int (nI 0), .int (nI D0), .int (nI d), .int (nI V)]) dX11_meetsOn_81 rfl (by decide) rfl ?_
        refine ww_iload dX11_meetsOn_83 rfl ?_
        refine ww_bipush (v := nI 100) dX11_meetsOn_85 (by decide) ?_
        refine ww_idivN dX11_meetsOn_87 (by omega) (by omega) (by omega) ?_
        refine ww_sti (lv2 := [.ref m, .int (nI fm), .int (nI 0), .int (nI 0), .int (nI D0), .int (nI d), .int (nI (V / 100))]) dX11_meetsOn_88 rfl (by decide) rfl ?_
        refine ww_goto (tgt := 47) dX11_meetsOn_90 (by decide) ?_
        refine ww_lv (lv2 := [.ref m, .int (nI fm), .int (nI 0), .int (nI 0), .int (nI D0), .int (nI d), .int (nI (dgV t))]) (by rw [show V / 100 = dgV t by omega]) ?_
        rw [show inG s.2.2 z (d :: t) = inG (hld s.2.2 d) (nI d) t from by show inG (if nI d = z then _ else _) _ _ = _; rw [if_neg c59]]
        exact ih (nI d) (s.1, s.2.1, hld s.2.2 d) _ (by simp only [List.length_cons] at hl; omega) (fun x hx => hd x (List.mem_cons_of_mem _ hx)) (hA.hold rfl (by omega)) (hS.sI rfl)
set_option maxHeartbeats 4000000 in
set_option maxRecDepth 100000 in
theorem c_M_leaf0 {l : Launch} {Z : EE} (hst : l.stackTraces = false) {h : PH} {m : Nat} {fr : Nat → Nat} {s : MT} (hA : MtM m fr s h) (fm v D : Nat) (hv : v ≤ 297) (h0 : ¬ v = 0) : CC l Z m_X11_meetsOn 0 0 0 [.ref m, .int (nI fm), .int (nI 0), .int (nI v), .int (nI D)] h (RQ none (fun h9 => MtM m fr (s) h9 ∧ Same (mmX m) (mmY m) h h9)) := by
  refine ee_entry hst (by decide +kernel) rfl rfl (by simp [Value.category]) (Nat.le_of_ble_eq_true rfl) ?_
  refine ww_lv (lv2 := [.ref m, .int (nI fm), .int (nI 0), .int (nI v), .int (nI D), UU, UU]) rfl ?_
  refine ww_iload_n dX11_meetsOn_0 rfl rfl ?_
  refine ww_if_neN (tgt := 94) dX11_meetsOn_1 (by decide) (by omega) (fun c1 => ?_) (fun c1 => ?_)
  · exact absurd c1 (by decide)
  · refine ww_iload_n dX11_meetsOn_4 rfl rfl ?_
    refine ww_if_eqN (tgt := 9) dX11_meetsOn_5 (by decide) (by omega) (fun c5 => ?_) (fun c5 => ?_)
    · exfalso; omega
    · exact ww_vret dX11_meetsOn_8 rfl ⟨rfl, hA, Same.rf⟩
set_option maxHeartbeats 4000000 in
set_option maxRecDepth 100000 in
theorem c_M_leafD {l : Launch} {Z : EE} (hst : l.stackTraces = false) {h : PH} {m : Nat} {fr : Nat → Nat} {s : MT} (hA : MtM m fr s h) (hg : MtG s) (fm : Nat) (ds : List Nat) (hl : ds.length ≤ 3) (hds : ∀ x ∈ ds, 1 ≤ x ∧ x ≤ 60) {D : Nat} (hD : D = dgV ds) : CC l Z m_X11_meetsOn 0 0 0 [.ref m, .int (nI fm), .int (nI 0), .int (nI 0), .int (nI D)] h (RQ none (fun h9 => MtM m fr (s.1 + 1, (if s.1 = 0 then D else s.2.1), inG s.2.2 (-1) ds) h9 ∧ Same (mmX m) (mmY m) h h9)) := by
  refine ee_entry hst (by decide +kernel) rfl rfl (by simp [Value.category]) (Nat.le_of_ble_eq_true rfl) ?_
  refine ww_lv (lv2 := [.ref m, .int (nI fm), .int (nI 0), .int (nI 0), .int (nI D), UU, UU]) rfl ?_
  by_cases hz : s.1 = 0
  · refine ww_iload_n dX11_meetsOn_0 rfl rfl ?_
    refine ww_if_neN (tgt := 94) dX11_meetsOn_1 (by decide) (by omega) (fun c1 => ?_) (fun c1 => ?_)
    · exact absurd c1 (by decide)
    · refine ww_iload_n dX11_meetsOn_4 rfl rfl ?_
      refine ww_if_eqN (tgt := 9) dX11_meetsOn_5 (by decide) (by omega) (fun c5 => ?_) (fun c5 => ?_)
      · refine ww_aload_n dX11_meetsOn_9 rfl rfl ?_
        refine ww_dup dX11_meetsOn_10 rfl ?_
        refine ww_get 44 dX11_meetsOn_11 hA.1.K0 rfl (by decide) inX11 wg_1284 hA.2.1 ?_
        refine ww_iconst (v := nI 1) dX11_meetsOn_14 (by decide) ?_
        refine ww_iaddN dX11_meetsOn_15 ?_
        refine ww_pfI tyX11 44 dX11_meetsOn_16 hA.1.K0 rfl (by decide) inX11 tyX11_ok nmX11 wg_1284 rfl rfl ?_
        refine ww_aload_n dX11_meetsOn_19 rfl rfl ?_
        refine ww_aload_n dX11_meetsOn_20 rfl rfl ?_
        refine ww_get 45 dX11_meetsOn_21 hA.1.K0 rfl (by decide) inX11 wg_1285 (hp_F_nj (by decide) (hA.2.2.1.trans (by rw [show ftV s = -1 from if_pos hz]))) ?_
        refine ww_iconst (v := -1) dX11_meetsOn_24 (by decide) ?_
        refine ww_icmp_ne (tgt := 33) dX11_meetsOn_25 (by decide) (fun c25 => ?_) (fun c25 => ?_)
        · exact absurd c25 (by decide)
        · refine ww_iload dX11_meetsOn_28 rfl ?_
          refine ww_goto (tgt := 37) dX11_meetsOn_30 (by decide) ?_
          refine ww_pfI tyX11 45 dX11_meetsOn_37 hA.1.K0 rfl (by decide) inX11 tyX11_ok nmX11 wg_1285 rfl rfl ?_
          refine ww_iconst (v := -1) dX11_meetsOn_40 (by decide) ?_
          refine ww_sti (lv2 := [.ref m, .int (nI fm), .int (nI 0), .int (nI 0), .int (nI D), .int (-1), UU]) dX11_meetsOn_41 rfl (by decide) rfl ?_
          refine ww_iload dX11_meetsOn_43 rfl ?_
          refine ww_sti (lv2 := [.ref m, .int (nI fm), .int (nI 0), .int (nI 0), .int (nI D), .int (-1), .int (nI D)]) dX11_meetsOn_45 rfl (by decide) rfl ?_
          have hA1 : MtM m fr (s.1 + 1, (if s.1 = 0 then D else s.2.1), s.2.2) (hp_sF (hp_sF h m 44 (.int (nI (s.1 + 1)))) m 45 (.int (nI D))) := ⟨ModS.sF (ModS.sF hA.1 (by decide)) (by decide), hp_F_nj (by decide) (hp_F_eq _ _ _ _), (by rw [ftV_f hz]; exact hp_F_eq _ _ _ _), hA.2.2.2.1, hA.2.2.2.2⟩
          have hS1 : Same (mmX m) (mmY m) h (hp_sF (hp_sF h m 44 (.int (nI (s.1 + 1)))) m 45 (.int (nI D))) := (Same.rf.sF (show mmY m m 44 from ⟨rfl, Or.inl rfl⟩)).sF (show mmY m m 45 from ⟨rfl, Or.inr rfl⟩)
          refine ww_lv (lv2 := [.ref m, .int (nI fm), .int (nI 0), .int (nI 0), .int (nI D), .int (-1), .int (nI (dgV ds))]) (by rw [hD]) ?_
          refine ww_post (fun r h9 hp => hp) (l_M_dig hst fm D ds (-1) (s.1 + 1, (if s.1 = 0 then D else s.2.1), s.2.2) _ hl hds hA1 hS1)
      · exfalso; omega
  · refine ww_iload_n dX11_meetsOn_0 rfl rfl ?_
    refine ww_if_neN (tgt := 94) dX11_meetsOn_1 (by decide) (by omega) (fun c1 => ?_) (fun c1 => ?_)
    · exact absurd c1 (by decide)
    · refine ww_iload_n dX11_meetsOn_4 rfl rfl ?_
      refine ww_if_eqN (tgt := 9) dX11_meetsOn_5 (by decide) (by omega) (fun c5 => ?_) (fun c5 => ?_)
      · refine ww_aload_n dX11_meetsOn_9 rfl rfl ?_
        refine ww_dup dX11_meetsOn_10 rfl ?_
        refine ww_get 44 dX11_meetsOn_11 hA.1.K0 rfl (by decide) inX11 wg_1284 hA.2.1 ?_
        refine ww_iconst (v := nI 1) dX11_meetsOn_14 (by decide) ?_
        refine ww_iaddN dX11_meetsOn_15 ?_
        refine ww_pfI tyX11 44 dX11_meetsOn_16 hA.1.K0 rfl (by decide) inX11 tyX11_ok nmX11 wg_1284 rfl rfl ?_
        refine ww_aload_n dX11_meetsOn_19 rfl rfl ?_
        refine ww_aload_n dX11_meetsOn_20 rfl rfl ?_
        refine ww_get 45 dX11_meetsOn_21 hA.1.K0 rfl (by decide) inX11 wg_1285 (hp_F_nj (by decide) hA.2.2.1) ?_
        refine ww_iconst (v := -1) dX11_meetsOn_24 (by decide) ?_
        refine ww_icmp_ne (tgt := 33) dX11_meetsOn_25 (by decide) (fun c25 => ?_) (fun c25 => ?_)
        · refine ww_aload_n dX11_meetsOn_33 rfl rfl ?_
          refine ww_get 45 dX11_meetsOn_34 hA.1.K0 rfl (by decide) inX11 wg_1285 (hp_F_nj (by decide) hA.2.2.1) ?_
          refine ww_pfI tyX11 45 dX11_meetsOn_37 hA.1.K0 rfl (by decide) inX11 tyX11_ok nmX11 wg_1285 rfl rfl ?_
          refine ww_iconst (v := -1) dX11_meetsOn_40 (by decide) ?_
          refine ww_sti (lv2 := [.ref m, .int (nI fm), .int (nI 0), .int (nI 0), .int (nI D), .int (-1), UU]) dX11_meetsOn_41 rfl (by decide) rfl ?_
          refine ww_iload dX11_meetsOn_43 rfl ?_
          refine ww_sti (lv2 := [.ref m, .int (nI fm), .int (nI 0), .int (nI 0), .int (nI D), .int (-1), .int (nI D)]) dX11_meetsOn_45 rfl (by decide) rfl ?_
          have hA1 : MtM m fr (s.1 + 1, (if s.1 = 0 then D else s.2.1), s.2.2) (hp_sF (hp_sF h m 44 (.int (nI (s.1 + 1)))) m 45 (.int (ftV s))) := ⟨ModS.sF (ModS.sF hA.1 (by decide)) (by decide), hp_F_nj (by decide) (hp_F_eq _ _ _ _), (by rw [ftV_n hz]; exact hp_F_eq _ _ _ _), hA.2.2.2.1, hA.2.2.2.2⟩
          have hS1 : Same (mmX m) (mmY m) h (hp_sF (hp_sF h m 44 (.int (nI (s.1 + 1)))) m 45 (.int (ftV s))) := (Same.rf.sF (show mmY m m 44 from ⟨rfl, Or.inl rfl⟩)).sF (show mmY m m 45 from ⟨rfl, Or.inr rfl⟩)
          refine ww_lv (lv2 := [.ref m, .int (nI fm), .int (nI 0), .int (nI 0), .int (nI D), .int (-1), .int (nI (dgV ds))]) (by rw [hD]) ?_
          refine ww_post (fun r h9 hp => hp) (l_M_dig hst fm D ds (-1) (s.1 + 1, (if s.1 = 0 then D else s.2.1), s.2.2) _ hl hds hA1 hS1)
        · exact absurd c25 (by rw [show ftV s = nI s.2.1 from if_neg hz]; exact nI_m1 (by have := hg.2; omega))
      · exfalso; omega
/-- a leaf, whatever is left -/
theorem c_M_leaf {l : Launch} {Z : EE} (hst : l.stackTraces = false) {h : PH} {m : Nat} {fr : Nat → Nat} {s : MT} (hA : MtM m fr s h) (hg : MtG s) (fm v : Nat) (hv : v ≤ 297) (ds : List Nat) (hl : ds.length ≤ 3) (hds : ∀ x ∈ ds, 1 ≤ x ∧ x ≤ 60) {D : Nat} (hD : D = dgV ds) {S2 : MT} (hS : S2 = if v = 0 then (s.1 + 1, (if s.1 = 0 then D else s.2.1), inG s.2.2 (-1) ds) else s) : CC l Z m_X11_meetsOn 0 0 0 [.ref m, .int (nI fm), .int (nI 0), .int (nI v), .int (nI D)] h (RQ none (fun h9 => MtM m fr (S2) h9 ∧ Same (mmX m) (mmY m) h h9)) := by
  rw [hS]
  by_cases e : v = 0
  · rw [if_pos e, e]; exact c_M_leafD hst hA hg fm ds hl hds hD
  · rw [if_neg e]; exact c_M_leaf0 hst hA fm v D hv e
set_option maxHeartbeats 4000000 in
set_option maxRecDepth 100000 in
theorem l_M_lev {l : Launch} {Z : EE} (hst : l.stackTraces = false) {h : PH} {m : Nat} {fr : Nat → Nat} (hfr : ∀ n, n ≤ 60 → fr n ≤ 99) (d fm L v D : Nat) (hL2 : L ≤ 2) (hv : v ≤ 297) {G : Nat → MT → MT} (hG : ∀ (n : Nat) (s : MT) (hq : PH), fm ≤ n → n ≤ 60 → fr n ≤ v → MtM m fr s hq → MtG s → CC l Z m_X11_meetsOn d 0 0 [.ref m, .int (nI n), .int (nI L), .int (nI (v - fr n)), .int (nI (100 * D + n))] hq (RQ none (fun h9 => MtM m fr (G n s) h9 ∧ Same (mmX m) (mmY m) hq h9))) (hI : ∀ (n : Nat) (s : MT), n ≤ 60 → v < fr n → G n s = s) (hGg : ∀ (n : Nat) (s : MT), fm ≤ n → n ≤ 60 → MtG s → MtG (G n s)) : ∀ (j n : Nat) (s : MT) (hq : PH), n + j = 61 → fm ≤ n → MtM m fr s hq → MtG s → Same (mmX m) (mmY m) h hq → WW l Z m_X11_meetsOn (d + 1) 0 0 97 [.ref m, .int (nI fm), .int (nI (L + 1)), .int (nI v), .int (nI D), .int (nI n), UU] [] hq (RQ none (fun h9 => MtM m fr (lp G n j s) h9 ∧ Same (mmX m) (mmY m) h h9)) := by
  intro j
  induction j with
  | zero =>
    intro n s hq hj hfn hA hg hS
    have hb9 : n = 61 := by omega
    subst hb9
    refine ww_iload dX11_meetsOn_97 rfl ?_
    refine ww_bipush (v := nI 61) dX11_meetsOn_99 (by decide) ?_
    refine ww_icmp_geN (tgt := 147) dX11_meetsOn_101 (by decide) (by omega) (by omega) (fun c101 => ?_) (fun c101 => ?_)
    · exact ww_vret dX11_meetsOn_147 rfl ⟨rfl, hA, hS⟩
    · exfalso; omega
  | succ j ih =>
    intro n s hq hj hfn hA hg hS
    have hf9 := hfr n (by omega)
    refine ww_iload dX11_meetsOn_97 rfl ?_
    refine ww_bipush (v := nI 61) dX11_meetsOn_99 (by decide) ?_
    refine ww_icmp_geN (tgt := 147) dX11_meetsOn_101 (by decide) (by omega) (by omega) (fun c101 => ?_) (fun c101 => ?_)
    · exfalso; omega
    · refine ww_aload_n dX11_meetsOn_104 rfl rfl ?_
      refine ww_get 47 dX11_meetsOn_105 hA.1.K0 rfl (by decide) inX11 wg_1287 hA.1.F23 ?_
      refine ww_iload dX11_meetsOn_108 rfl ?_
      refine ww_ialdF dX11_meetsOn_110 hA.1.K23 rfl (by omega) (by omega) ?_
      refine ww_sk (st2 := [.int (nI (fr n))]) (by rw [hA.2.2.2.2 n (by omega)]) ?_
      refine ww_iload_n dX11_meetsOn_111 rfl rfl ?_
      refine ww_icmp_gtN (tgt := 141) dX11_meetsOn_112 (by decide) (by omega) (by omega) (fun c112 => ?_) (fun c112 => ?_)
      · refine ww_incN (c := 1) (lv2 := [.ref m, .int (nI fm), .int (nI (L + 1)), .int (nI v), .int (nI D), .int (nI (n + 1)), UU]) dX11_meetsOn_141 rfl rfl rfl (by decide) rfl ?_
        refine ww_goto (tgt := 97) dX11_meetsOn_144 (by decide) ?_
        rw [show lp G n (j + 1) s = lp G (n + 1) j s from by show lp G (n + 1) j (G n s) = _; rw [hI n s (by omega) (by omega)]]
        exact ih (n + 1) s hq (by omega) (by omega) hA hg hS
      · refine ww_aload_n dX11_meetsOn_115 rfl rfl ?_
        refine ww_iload dX11_meetsOn_116 rfl ?_
        refine ww_iload_n dX11_meetsOn_118 rfl rfl ?_
        refine ww_iconst (v := nI 1) dX11_meetsOn_119 (by decide) ?_
        refine ww_isubN dX11_meetsOn_120 (by omega) ?_
        refine ww_sk (st2 := [.int (nI L), .int (nI n), .ref m]) (by rw [show L + 1 - 1 = L by omega]) ?_
        refine ww_iload_n dX11_meetsOn_121 rfl rfl ?_
        refine ww_aload_n dX11_meetsOn_122 rfl rfl ?_
        refine ww_get 47 dX11_meetsOn_123 hA.1.K0 rfl (by decide) inX11 wg_1287 hA.1.F23 ?_
        refine ww_iload dX11_meetsOn_126 rfl ?_
        refine ww_ialdF dX11_meetsOn_128 hA.1.K23 rfl (by omega) (by omega) ?_
        refine ww_sk (st2 := [.int (nI (fr n)), .int (nI v), .int (nI L), .int (nI n), .ref m]) (by rw [hA.2.2.2.2 n (by omega)]) ?_
        refine ww_isubN dX11_meetsOn_129 (by omega) ?_
        refine ww_bipush (v := nI 100) dX11_meetsOn_130 (by decide) ?_
        refine ww_iload dX11_meetsOn_132 rfl ?_
        refine ww_imulN dX11_meetsOn_134 ?_
        refine ww_iload dX11_meetsOn_135 rfl ?_
        refine ww_iaddN dX11_meetsOn_137 ?_
        refine ww_cVq0 (M := m_X11_meetsOn) (pc := 138) (st := []) (d := d + 1) (bc := 0) (bs := 0) (hG n s hq (by omega) (by omega) (by omega) hA hg) vv_X11_meetsOn dX11_meetsOn_138 wg_1689 hA.1.K0 rfl rfl rfl rfl (Nat.le_refl _) (Nat.le_of_ble_eq_true rfl) (Nat.le_of_ble_eq_true rfl) (Nat.le_of_ble_eq_true rfl) (fun hr1 q1 => ?_)
        refine ww_incN (c := 1) (lv2 := [.ref m, .int (nI fm), .int (nI (L + 1)), .int (nI v), .int (nI D), .int (nI (n + 1)), UU]) dX11_meetsOn_141 rfl rfl rfl (by decide) rfl ?_
        refine ww_goto (tgt := 97) dX11_meetsOn_144 (by decide) ?_
        exact ih (n + 1) (G n s) hr1 (by omega) (by omega) q1.1 (hGg n s (by omega) (by omega) hg) (hS.tr q1.2)
set_option maxHeartbeats 4000000 in
set_option maxRecDepth 100000 in
theorem c_M_lev {l : Launch} {Z : EE} (hst : l.stackTraces = false) {h : PH} {m : Nat} {fr : Nat → Nat} (hfr : ∀ n, n ≤ 60 → fr n ≤ 99) (d fm L v D : Nat) (hL2 : L ≤ 2) (hv : v ≤ 297) {G : Nat → MT → MT} (hG : ∀ (n : Nat) (s : MT) (hq : PH), fm ≤ n → n ≤ 60 → fr n ≤ v → MtM m fr s hq → MtG s → CC l Z m_X11_meetsOn d 0 0 [.ref m, .int (nI n), .int (nI L), .int (nI (v - fr n)), .int (nI (100 * D + n))] hq (RQ none (fun h9 => MtM m fr (G n s) h9 ∧ Same (mmX m) (mmY m) hq h9))) (hI : ∀ (n : Nat) (s : MT), n ≤ 60 → v < fr n → G n s = s) (hGg : ∀ (n : Nat) (s : MT), fm ≤ n → n ≤ 60 → MtG s → MtG (G n s)) (hfm : fm ≤ 61) {s : MT} (hA : MtM m fr s h) (hg : MtG s) : CC l Z m_X11_meetsOn (d + 1) 0 0 [.ref m, .int (nI fm), .int (nI (L + 1)), .int (nI v), .int (nI D)] h (RQ none (fun h9 => MtM m fr (lp G fm (61 - fm) s) h9 ∧ Same (mmX m) (mmY m) h h9)) := by
  refine ee_entry hst (by decide +kernel) rfl rfl (by simp [Value.category]) (Nat.le_of_ble_eq_true rfl) ?_
  refine ww_lv (lv2 := [.ref m, .int (nI fm), .int (nI (L + 1)), .int (nI v), .int (nI D), UU, UU]) rfl ?_
  refine ww_iload_n dX11_meetsOn_0 rfl rfl ?_
  refine ww_if_neN (tgt := 94) dX11_meetsOn_1 (by decide) (by omega) (fun c1 => ?_) (fun c1 => ?_)
  · refine ww_iload_n dX11_meetsOn_94 rfl rfl ?_
    refine ww_sti (lv2 := [.ref m, .int (nI fm), .int (nI (L + 1)), .int (nI v), .int (nI D), .int (nI fm), UU]) dX11_meetsOn_95 rfl (by decide) rfl ?_
    exact l_M_lev hst hfr d fm L v D hL2 hv hG hI hGg (61 - fm) fm s h (by omega) (Nat.le_refl _) hA hg Same.rf
  · exfalso; omega
theorem mg_if {c : Prop} [Decidable c] {a b : MT} (ha : MtG a) (hb : MtG b) : MtG (if c then a else b) := by split <;> assumption
theorem d1 {a x : Nat} (ha : 1 ≤ a ∧ a ≤ 60) (h : x ∈ [a]) : 1 ≤ x ∧ x ≤ 60 := by
  simp only [List.mem_cons, List.not_mem_nil, or_false] at h; rw [h]; exact ha
theorem d2 {a b x : Nat} (ha : 1 ≤ a ∧ a ≤ 60) (hb : 1 ≤ b ∧ b ≤ 60) (h : x ∈ [a, b]) : 1 ≤ x ∧ x ≤ 60 := by
  simp only [List.mem_cons, List.not_mem_nil, or_false] at h; rcases h with h | h <;> rw [h] <;> assumption
theorem d3 {a b c x : Nat} (ha : 1 ≤ a ∧ a ≤ 60) (hb : 1 ≤ b ∧ b ≤ 60) (hc : 1 ≤ c ∧ c ≤ 60) (h : x ∈ [a, b, c]) : 1 ≤ x ∧ x ≤ 60 := by
  simp only [List.mem_cons, List.not_mem_nil, or_false] at h; rcases h with h | h | h <;> rw [h] <;> assumption
theorem c_M_m1 {l : Launch} {Z : EE} (hst : l.stackTraces = false) {m : Nat} {fr : Nat → Nat} (hfr : ∀ n, n ≤ 60 → fr n ≤ 99) (v : Nat) (hv : v ≤ 297) {h : PH} {s : MT} (hA : MtM m fr s h) (hg : MtG s) : CC l Z m_X11_meetsOn 1 0 0 [.ref m, .int (nI 1), .int (nI (0 + 1)), .int (nI v), .int (nI 0)] h (RQ none (fun h9 => MtM m fr (lp (fun a s => if fr a = v then lf1 a s else s) 1 (61 - 1) s) h9 ∧ Same (mmX m) (mmY m) h h9)) := by
  refine c_M_lev hst hfr 0 1 0 v 0 (by omega) hv (G := fun a s => if fr a = v then lf1 a s else s) (fun n s hq h1 h2 h3 hA hg => ?_) (fun n s h1 h2 => if_neg (by omega)) (fun n s h1 h2 h3 => mg_if (lf1_g h2 h3) h3) (by omega) hA hg
  refine c_M_leaf hst hA hg n (v - fr n) (by omega) [n] (by simp) (fun x hx => d1 ⟨h1, h2⟩ hx) (by show _ = 100 * 0 + n; rfl) ?_
  rw [inG_1 h2]
  by_cases e : fr n = v
  · rw [if_pos e, if_pos (by omega)]; unfold lf1; rw [show 100 * 0 + n = n by omega]
  · rw [if_neg e, if_neg (by omega)]
theorem c_M_p2 {l : Launch} {Z : EE} (hst : l.stackTraces = false) {m : Nat} {fr : Nat → Nat} (hfr : ∀ n, n ≤ 60 → fr n ≤ 99) (v : Nat) (hv : v ≤ 297) {h : PH} {s : MT} (hA : MtM m fr s h) (hg : MtG s) (a : Nat) (h1 : 1 ≤ a) (h2 : a ≤ 60) (A : Nat) (h3 : A ≤ v) : CC l Z m_X11_meetsOn 1 0 0 [.ref m, .int (nI a), .int (nI (0 + 1)), .int (nI (v - A)), .int (nI (100 * 0 + a))] h (RQ none (fun h9 => MtM m fr (P2 fr v A a s) h9 ∧ Same (mmX m) (mmY m) h h9)) := by
  refine c_M_lev hst hfr 0 a 0 (v - A) (100 * 0 + a) (by omega) (by omega) (G := fun b s => if A + fr b = v then lf2 a b s else s) (fun n s hq k1 k2 k3 hA hg => ?_) (fun n s k1 k2 => if_neg (by omega)) (fun n s k1 k2 k3 => mg_if (lf2_g h2 k2 k3) k3) (by omega) hA hg
  refine c_M_leaf hst hA hg n (v - A - fr n) (by omega) [n, a] (by simp) (fun x hx => d2 ⟨by omega, k2⟩ ⟨h1, h2⟩ hx) (by show _ = 100 * (100 * 0 + a) + n; rfl) ?_
  rw [inG_2 h2 k2]
  by_cases e : A + fr n = v
  · rw [if_pos e, if_pos (by omega)]; unfold lf2; rw [show 100 * (100 * 0 + a) + n = 100 * a + n by omega]
  · rw [if_neg e, if_neg (by omega)]
theorem c_M_t3 {l : Launch} {Z : EE} (hst : l.stackTraces = false) {m : Nat} {fr : Nat → Nat} (hfr : ∀ n, n ≤ 60 → fr n ≤ 99) (v : Nat) (hv : v ≤ 297) {h : PH} {s : MT} (hA : MtM m fr s h) (hg : MtG s) (a b : Nat) (h1 : 1 ≤ a) (hab : a ≤ b) (h2 : b ≤ 60) (A : Nat) (h3 : A ≤ v) : CC l Z m_X11_meetsOn 1 0 0 [.ref m, .int (nI b), .int (nI (0 + 1)), .int (nI (v - A)), .int (nI (100 * (100 * 0 + a) + b))] h (RQ none (fun h9 => MtM m fr (T3 fr v A a b s) h9 ∧ Same (mmX m) (mmY m) h h9)) := by
  refine c_M_lev hst hfr 0 b 0 (v - A) (100 * (100 * 0 + a) + b) (by omega) (by omega) (G := fun c s => if A + fr c = v then lf3 a b c s else s) (fun n s hq k1 k2 k3 hA hg => ?_) (fun n s k1 k2 => if_neg (by omega)) (fun n s k1 k2 k3 => mg_if (lf3_g hab k1 k2 k3) k3) (by omega) hA hg
  refine c_M_leaf hst hA hg n (v - A - fr n) (by omega) [n, b, a] (by simp) (fun x hx => d3 ⟨by omega, k2⟩ ⟨by omega, h2⟩ ⟨h1, by omega⟩ hx) (by show _ = 100 * (100 * (100 * 0 + a) + b) + n; rfl) ?_
  rw [inG_3 (by omega) h2 k2]
  by_cases e : A + fr n = v
  · rw [if_pos e, if_pos (by omega)]; unfold lf3; rw [show 100 * (100 * (100 * 0 + a) + b) + n = 10000 * a + 100 * b + n by omega]
  · rw [if_neg e, if_neg (by omega)]
theorem c_M_p3 {l : Launch} {Z : EE} (hst : l.stackTraces = false) {m : Nat} {fr : Nat → Nat} (hfr : ∀ n, n ≤ 60 → fr n ≤ 99) (v : Nat) (hv : v ≤ 297) {h : PH} {s : MT} (hA : MtM m fr s h) (hg : MtG s) (a : Nat) (h1 : 1 ≤ a) (h2 : a ≤ 60) (A : Nat) (h3 : A ≤ v) : CC l Z m_X11_meetsOn 2 0 0 [.ref m, .int (nI a), .int (nI (1 + 1)), .int (nI (v - A)), .int (nI (100 * 0 + a))] h (RQ none (fun h9 => MtM m fr (P3 fr v A a s) h9 ∧ Same (mmX m) (mmY m) h h9)) := by
  refine c_M_lev hst hfr 1 a 1 (v - A) (100 * 0 + a) (by omega) (by omega) (G := fun b s => T3 fr v (A + fr b) a b s) (fun n s hq k1 k2 k3 hA hg => ?_) (fun n s k1 k2 => T3_id (fun c _ => by omega) k1) (fun n s k1 k2 k3 => (T3_g k1 k2 k3).1) (by omega) hA hg
  rw [show v - A - fr n = v - (A + fr n) by omega]
  exact c_M_t3 hst hfr v hv hA hg a n h1 k1 k2 (A + fr n) (by omega)
theorem c_M_m2 {l : Launch} {Z : EE} (hst : l.stackTraces = false) {m : Nat} {fr : Nat → Nat} (hfr : ∀ n, n ≤ 60 → fr n ≤ 99) (v : Nat) (hv : v ≤ 297) {h : PH} {s : MT} (hA : MtM m fr s h) (hg : MtG s) : CC l Z m_X11_meetsOn 2 0 0 [.ref m, .int (nI 1), .int (nI (1 + 1)), .int (nI v), .int (nI 0)] h (RQ none (fun h9 => MtM m fr (lp (fun a s => P2 fr v (fr a) a s) 1 (61 - 1) s) h9 ∧ Same (mmX m) (mmY m) h h9)) := by
  refine c_M_lev hst hfr 1 1 1 v 0 (by omega) hv (G := fun a s => P2 fr v (fr a) a s) (fun n s hq k1 k2 k3 hA hg => c_M_p2 hst hfr v hv hA hg n k1 k2 (fr n) k3) (fun n s k1 k2 => P2_id k2 k1) (fun n s k1 k2 k3 => (P2_g k2 k3).1) (by omega) hA hg
theorem c_M_m3 {l : Launch} {Z : EE} (hst : l.stackTraces = false) {m : Nat} {fr : Nat → Nat} (hfr : ∀ n, n ≤ 60 → fr n ≤ 99) (v : Nat) (hv : v ≤ 297) {h : PH} {s : MT} (hA : MtM m fr s h) (hg : MtG s) : CC l Z m_X11_meetsOn 3 0 0 [.ref m, .int (nI 1), .int (nI (2 + 1)), .int (nI v), .int (nI 0)] h (RQ none (fun h9 => MtM m fr (lp (fun a s => P3 fr v (fr a) a s) 1 (61 - 1) s) h9 ∧ Same (mmX m) (mmY m) h h9)) := by
  refine c_M_lev hst hfr 2 1 2 v 0 (by omega) hv (G := fun a s => P3 fr v (fr a) a s) (fun n s hq k1 k2 k3 hA hg => c_M_p3 hst hfr v hv hA hg n k1 k2 (fr n) k3) (fun n s k1 k2 => P3_id k2 k1) (fun n s k1 k2 k3 => (P3_g k2 k3).1) (by omega) hA hg
theorem MI.meet {m sz : Nat} {kf vf g : Nat → Int32} {h h2 h3 : PH} (hi : MI m sz kf vf g h h2) (hM : ModS h3 m) (hS : Same (mmX m) (mmY m) h2 h3) : MI m sz kf vf g h h3 :=
  ⟨hM, hi.2.1.same hS (by unfold mmX; omega) (by unfold mmX; omega) (fun e => by unfold mmY at e; omega), (hS.2.2.2.1 _ (by unfold mmX; omega)).trans hi.2.2.1, hi.2.2.2.1.tr (hS.mono (fun c hc => hc ▸ SX22 m) (fun a j e => by obtain ⟨rfl, rfl | rfl⟩ := e; exact SY44 _; exact SY45 _)), (hS.2.2.1 _ _ (fun e => by unfold mmY at e; omega)).trans hi.2.2.2.2⟩
set_option maxHeartbeats 4000000 in
set_option maxRecDepth 100000 in
theorem l_M_fm1 {l : Launch} {Z : EE} (hst : l.stackTraces = false) {h : PH} {m : Nat} {sz : Nat} {kf vf : Nat → Int32} (hok : LawOK kf vf sz) {f g9 : Nat → Int32} (hg9 : ∀ i, i < 190 → g9 i = f i) (v : Nat) (hv : v ≤ 297) : ∀ (j n : Nat) (hq : PH), n + j = 61 → MI m sz kf vf g9 h hq → hp_F hq m 44 = .int (nI 0) → hp_F hq m 45 = .int (-1) → (∀ i, i < n → hp_I hq (m + 22) i = nI 0) → (∀ i, i < n → hp_I hq (m + 23) i = nI (frN f sz kf vf i)) → WW l Z m_X11_findMeant 5 0 0 16 [.ref m, .int (nI v), .int (nI 1), .int (nI n)] [] hq (RQ none (fun h9 => MI m sz kf vf g9 h h9 ∧ MtM m (frN f sz kf vf) (GM (frN f sz kf vf) v 1 mt0) h9)) := by
  intro j
  induction j with
  | zero =>
    intro n hq hj hi f1 f2 r1 r2
    have hb9 : n = 61 := by omega
    subst hb9
    have hA0 : MtM m (frN f sz kf vf) mt0 hq := ⟨hi.1, f1, f2, r1, r2⟩
    refine ww_iload_n dX11_findMeant_16 rfl rfl ?_
    refine ww_bipush (v := nI 61) dX11_findMeant_17 (by decide) ?_
    refine ww_icmp_geN (tgt := 47) dX11_findMeant_19 (by decide) (by omega) (by omega) (fun c19 => ?_) (fun c19 => ?_)
    · refine ww_aload_n dX11_findMeant_47 rfl rfl ?_
      refine ww_iconst (v := nI 1) dX11_findMeant_48 (by decide) ?_
      refine ww_iload_n dX11_findMeant_49 rfl rfl ?_
      refine ww_iload_n dX11_findMeant_50 rfl rfl ?_
      refine ww_iconst (v := nI 0) dX11_findMeant_51 (by decide) ?_
      refine ww_cVq0 (M := m_X11_findMeant) (pc := 52) (st := []) (d := 5) (bc := 0) (bs := 0) (c_M_m1 hst (frN_le f sz kf vf) v hv hA0 mt0_g) vv_X11_meetsOn dX11_findMeant_52 wg_1689 hi.1.K0 rfl rfl rfl rfl (Nat.le_of_ble_eq_true rfl) (Nat.le_of_ble_eq_true rfl) (Nat.le_of_ble_eq_true rfl) (Nat.le_of_ble_eq_true rfl) (fun hq1 q1 => ?_)
      have hi1 := hi.meet q1.1.1 q1.2
      exact ww_vret dX11_findMeant_55 rfl ⟨rfl, hi1, (by rw [show GM (frN f sz kf vf) v 1 mt0 = _ from if_pos rfl]; exact q1.1)⟩
    · exfalso; omega
  | succ j ih =>
    intro n hq hj hi f1 f2 r1 r2
    refine ww_iload_n dX11_findMeant_16 rfl rfl ?_
    refine ww_bipush (v := nI 61) dX11_findMeant_17 (by decide) ?_
    refine ww_icmp_geN (tgt := 47) dX11_findMeant_19 (by decide) (by omega) (by omega) (fun c19 => ?_) (fun c19 => ?_)
    · exfalso; omega
    · refine ww_aload_n dX11_findMeant_22 rfl rfl ?_
      refine ww_get 46 dX11_findMeant_23 hi.1.K0 rfl (by decide) inX11 wg_1286 hi.1.F22 ?_
      refine ww_iload_n dX11_findMeant_26 rfl rfl ?_
      refine ww_iconst (v := nI 0) dX11_findMeant_27 (by decide) ?_
      refine ww_iastF dX11_findMeant_28 hi.1.K22 rfl (by omega) (by omega) ?_
      have hi0 := hi.sI (gx := upd (hp_I hq (m + 22)) n (nI 0)) (SX22 m) (by omega) (by omega) (by omega)
      have r10 : ∀ i, i < n + 1 → hp_I (hp_sI hq (m + 22) (upd (hp_I hq (m + 22)) n (nI 0))) (m + 22) i = nI 0 := fun i hi => by
        rw [hp_I_eq]
        by_cases e : i = n
        · rw [e, pk_us]
        · rw [pk_un e]; exact r1 i (by omega)
      have r20 : ∀ i, i < n → hp_I (hp_sI hq (m + 22) (upd (hp_I hq (m + 22)) n (nI 0))) (m + 23) i = nI (frN f sz kf vf i) := fun i hi => by rw [hp_I_ne (by omega)]; exact r2 i hi
      have f10 : hp_F (hp_sI hq (m + 22) (upd (hp_I hq (m + 22)) n (nI 0))) m 44 = .int (nI 0) := f1
      have f20 : hp_F (hp_sI hq (m + 22) (upd (hp_I hq (m + 22)) n (nI 0))) m 45 = .int (-1) := f2
      generalize hp_sI hq (m + 22) (upd (hp_I hq (m + 22)) n (nI 0)) = hq0 at hi0 r10 r20 f10 f20 ⊢
      refine ww_aload_n dX11_findMeant_29 rfl rfl ?_
      refine ww_get 47 dX11_findMeant_30 hi0.1.K0 rfl (by decide) inX11 wg_1287 hi0.1.F23 ?_
      refine ww_iload_n dX11_findMeant_33 rfl rfl ?_
      refine ww_aload_n dX11_findMeant_34 rfl rfl ?_
      refine ww_iload_n dX11_findMeant_35 rfl rfl ?_
      refine ww_iconst (v := nI 1) dX11_findMeant_36 (by decide) ?_
      refine ww_cVq (M := m_X11_findMeant) (pc := 37) (v := .int (fareC g9 sz kf vf n 1)) (st := [.int (nI n), .ref (m + 23)]) (d := 5) (bc := 0) (bs := 0) (c_M_fareBy hst hi0.1 hi0.2.1 hok hi0.2.2.1 n (by omega) 1 (by omega)) vv_X11_fareBy dX11_findMeant_37 wg_1555 hi0.1.K0 rfl rfl rfl rfl (Nat.le_of_ble_eq_true rfl) (Nat.le_of_ble_eq_true rfl) (Nat.le_of_ble_eq_true rfl) (Nat.le_of_ble_eq_true rfl) (fun hq1 qq1 => ?_)
      have hi1 := hi0.step qq1
      refine ww_sk (st2 := [.int (nI (frN f sz kf vf n)), .int (nI n), .ref (m + 23)]) (by rw [fareC_tn hg9 (by omega)]; rfl) ?_
      refine ww_iastF dX11_findMeant_40 hi1.1.K23 rfl (by omega) (by omega) ?_
      refine ww_incN (c := 1) (lv2 := [.ref m, .int (nI v), .int (nI 1), .int (nI (n + 1))]) dX11_findMeant_41 rfl rfl rfl (by decide) rfl ?_
      refine ww_goto (tgt := 16) dX11_findMeant_44 (by decide) ?_
      refine ih (n + 1) _ (by omega) (hi1.sI (SX23 m) (by omega) (by omega) (by omega)) ((qq1.2.2.1 _ _ (fun e => e)).trans f10) ((qq1.2.2.1 _ _ (fun e => e)).trans f20) (fun i hi9 => ?_) (fun i hi9 => ?_)
      · rw [hp_I_ne (by omega), qq1.2.2.2.1 _ (by omega)]; exact r10 i hi9
      · rw [hp_I_eq]
        by_cases e : i = n
        · rw [e, pk_us]
        · rw [pk_un e, qq1.2.2.2.1 _ (by omega)]; exact r20 i (by omega)
set_option maxHeartbeats 4000000 in
set_option maxRecDepth 100000 in
theorem c_M_fmean1 {l : Launch} {Z : EE} (hst : l.stackTraces = false) {h : PH} {m : Nat} (hM : ModS h m) {f : Nat → Int32} (hf : hp_I h (m + 14) = f) {g : Nat → Int32} (hs : hp_I h (m + 15) = g) {sz : Nat} {kf vf : Nat → Int32} (hQ : LawM h m sz kf vf) (hok : LawOK kf vf sz) (v : Nat) (hv : v ≤ 297) (ht : hp_F h m 0 = .int (nI 0)) : CC l Z m_X11_findMeant 5 0 0 [.ref m, .int (nI v), .int (nI 1)] h (RQ none (fun h9 => MI m sz kf vf (cpF f g 190) h h9 ∧ MtM m (frN f sz kf vf) (GM (frN f sz kf vf) v 1 mt0) h9)) := by
  refine ee_entry hst (by decide +kernel) rfl rfl (by simp [Value.category]) (Nat.le_of_ble_eq_true rfl) ?_
  refine ww_lv (lv2 := [.ref m, .int (nI v), .int (nI 1), UU]) rfl ?_
  refine ww_aload_n dX11_findMeant_0 rfl rfl ?_
  refine ww_cV0 (M := m_X11_findMeant) (pc := 1) (h1 := hp_sI (h) (m + 15) (cpF f g 190)) (st := []) (d := 5) (bc := 0) (bs := 0) (c_M_take hst (h := h) hM hf hs) vv_X11_take dX11_findMeant_1 wg_1539 hM.K0 rfl rfl rfl rfl (Nat.le_of_ble_eq_true rfl) (Nat.le_of_ble_eq_true rfl) (Nat.le_of_ble_eq_true rfl) (Nat.le_of_ble_eq_true rfl) ?_
  refine ww_aload_n dX11_findMeant_4 rfl rfl ?_
  refine ww_iconst (v := nI 0) dX11_findMeant_5 (by decide) ?_
  refine ww_pfI tyX11 44 dX11_findMeant_6 hM.K0 rfl (by decide) inX11 tyX11_ok nmX11 wg_1284 rfl rfl ?_
  refine ww_aload_n dX11_findMeant_9 rfl rfl ?_
  refine ww_iconst (v := -1) dX11_findMeant_10 (by decide) ?_
  refine ww_pfI tyX11 45 dX11_findMeant_11 hM.K0 rfl (by decide) inX11 tyX11_ok nmX11 wg_1285 rfl rfl ?_
  refine ww_iconst (v := nI 0) dX11_findMeant_14 (by decide) ?_
  refine ww_sti_n (lv2 := [.ref m, .int (nI v), .int (nI 1), .int (nI 0)]) dX11_findMeant_15 rfl rfl (by decide) rfl ?_
  exact l_M_fm1 hst hok (fun i hi => cpF_in hi) v hv 61 0 _ rfl (((MI.start2 hM hQ ht).sF (SY44 m) (by decide) (by decide) (by decide)).sF (SY45 m) (by decide) (by decide) (by decide)) (hp_F_nj (by decide) (hp_F_eq _ _ _ _)) (hp_F_eq _ _ _ _) (fun i hi => absurd hi (Nat.not_lt_zero i)) (fun i hi => absurd hi (Nat.not_lt_zero i))
set_option maxHeartbeats 4000000 in
set_option maxRecDepth 100000 in
theorem l_M_fm2 {l : Launch} {Z : EE} (hst : l.stackTraces = false) {h : PH} {m : Nat} {sz : Nat} {kf vf : Nat → Int32} (hok : LawOK kf vf sz) {f g9 : Nat → Int32} (hg9 : ∀ i, i < 190 → g9 i = f i) (v : Nat) (hv : v ≤ 297) : ∀ (j n : Nat) (hq : PH), n + j = 61 → MI m sz kf vf g9 h hq → hp_F hq m 44 = .int (nI 0) → hp_F hq m 45 = .int (-1) → (∀ i, i < n → hp_I hq (m + 22) i = nI 0) → (∀ i, i < n → hp_I hq (m + 23) i = nI (frN f sz kf vf i)) → WW l Z m_X11_findMeant 5 0 0 16 [.ref m, .int (nI v), .int (nI 2), .int (nI n)] [] hq (RQ none (fun h9 => MI m sz kf vf g9 h h9 ∧ MtM m (frN f sz kf vf) (GM (frN f sz kf vf) v 2 mt0) h9)) := by
  intro j
  induction j with
  | zero =>
    intro n hq hj hi f1 f2 r1 r2
    have hb9 : n = 61 := by omega
    subst hb9
    have hA0 : MtM m (frN f sz kf vf) mt0 hq := ⟨hi.1, f1, f2, r1, r2⟩
    refine ww_iload_n dX11_findMeant_16 rfl rfl ?_
    refine ww_bipush (v := nI 61) dX11_findMeant_17 (by decide) ?_
    refine ww_icmp_geN (tgt := 47) dX11_findMeant_19 (by decide) (by omega) (by omega) (fun c19 => ?_) (fun c19 => ?_)
    · refine ww_aload_n dX11_findMeant_47 rfl rfl ?_
      refine ww_iconst (v := nI 1) dX11_findMeant_48 (by decide) ?_
      refine ww_iload_n dX11_findMeant_49 rfl rfl ?_
      refine ww_iload_n dX11_findMeant_50 rfl rfl ?_
      refine ww_iconst (v := nI 0) dX11_findMeant_51 (by decide) ?_
      refine ww_cVq0 (M := m_X11_findMeant) (pc := 52) (st := []) (d := 5) (bc := 0) (bs := 0) (c_M_m2 hst (frN_le f sz kf vf) v hv hA0 mt0_g) vv_X11_meetsOn dX11_findMeant_52 wg_1689 hi.1.K0 rfl rfl rfl rfl (Nat.le_of_ble_eq_true rfl) (Nat.le_of_ble_eq_true rfl) (Nat.le_of_ble_eq_true rfl) (Nat.le_of_ble_eq_true rfl) (fun hq1 q1 => ?_)
      have hi1 := hi.meet q1.1.1 q1.2
      exact ww_vret dX11_findMeant_55 rfl ⟨rfl, hi1, (by rw [show GM (frN f sz kf vf) v 2 mt0 = _ from (if_neg (by decide)).trans (if_pos rfl)]; exact q1.1)⟩
    · exfalso; omega
  | succ j ih =>
    intro n hq hj hi f1 f2 r1 r2
    refine ww_iload_n dX11_findMeant_16 rfl rfl ?_
    refine ww_bipush (v := nI 61) dX11_findMeant_17 (by decide) ?_
    refine ww_icmp_geN (tgt := 47) dX11_findMeant_19 (by decide) (by omega) (by omega) (fun c19 => ?_) (fun c19 => ?_)
    · exfalso; omega
    · refine ww_aload_n dX11_findMeant_22 rfl rfl ?_
      refine ww_get 46 dX11_findMeant_23 hi.1.K0 rfl (by decide) inX11 wg_1286 hi.1.F22 ?_
      refine ww_iload_n dX11_findMeant_26 rfl rfl ?_
      refine ww_iconst (v := nI 0) dX11_findMeant_27 (by decide) ?_
      refine ww_iastF dX11_findMeant_28 hi.1.K22 rfl (by omega) (by omega) ?_
      have hi0 := hi.sI (gx := upd (hp_I hq (m + 22)) n (nI 0)) (SX22 m) (by omega) (by omega) (by omega)
      have r10 : ∀ i, i < n + 1 → hp_I (hp_sI hq (m + 22) (upd (hp_I hq (m + 22)) n (nI 0))) (m + 22) i = nI 0 := fun i hi => by
        rw [hp_I_eq]
        by_cases e : i = n
        · rw [e, pk_us]
        · rw [pk_un e]; exact r1 i (by omega)
      have r20 : ∀ i, i < n → hp_I (hp_sI hq (m + 22) (upd (hp_I hq (m + 22)) n (nI 0))) (m + 23) i = nI (frN f sz kf vf i) := fun i hi => by rw [hp_I_ne (by omega)]; exact r2 i hi
      have f10 : hp_F (hp_sI hq (m + 22) (upd (hp_I hq (m + 22)) n (nI 0))) m 44 = .int (nI 0) := f1
      have f20 : hp_F (hp_sI hq (m + 22) (upd (hp_I hq (m + 22)) n (nI 0))) m 45 = .int (-1) := f2
      generalize hp_sI hq (m + 22) (upd (hp_I hq (m + 22)) n (nI 0)) = hq0 at hi0 r10 r20 f10 f20 ⊢
      refine ww_aload_n dX11_findMeant_29 rfl rfl ?_
      refine ww_get 47 dX11_findMeant_30 hi0.1.K0 rfl (by decide) inX11 wg_1287 hi0.1.F23 ?_
      refine ww_iload_n dX11_findMeant_33 rfl rfl ?_
      refine ww_aload_n dX11_findMeant_34 rfl rfl ?_
      refine ww_iload_n dX11_findMeant_35 rfl rfl ?_
      refine ww_iconst (v := nI 1) dX11_findMeant_36 (by decide) ?_
      refine ww_cVq (M := m_X11_findMeant) (pc := 37) (v := .int (fareC g9 sz kf vf n 1)) (st := [.int (nI n), .ref (m + 23)]) (d := 5) (bc := 0) (bs := 0) (c_M_fareBy hst hi0.1 hi0.2.1 hok hi0.2.2.1 n (by omega) 1 (by omega)) vv_X11_fareBy dX11_findMeant_37 wg_1555 hi0.1.K0 rfl rfl rfl rfl (Nat.le_of_ble_eq_true rfl) (Nat.le_of_ble_eq_true rfl) (Nat.le_of_ble_eq_true rfl) (Nat.le_of_ble_eq_true rfl) (fun hq1 qq1 => ?_)
      have hi1 := hi0.step qq1
      refine ww_sk (st2 := [.int (nI (frN f sz kf vf n)), .int (nI n), .ref (m + 23)]) (by rw [fareC_tn hg9 (by omega)]; rfl) ?_
      refine ww_iastF dX11_findMeant_40 hi1.1.K23 rfl (by omega) (by omega) ?_
      refine ww_incN (c := 1) (lv2 := [.ref m, .int (nI v), .int (nI 2), .int (nI (n + 1))]) dX11_findMeant_41 rfl rfl rfl (by decide) rfl ?_
      refine ww_goto (tgt := 16) dX11_findMeant_44 (by decide) ?_
      refine ih (n + 1) _ (by omega) (hi1.sI (SX23 m) (by omega) (by omega) (by omega)) ((qq1.2.2.1 _ _ (fun e => e)).trans f10) ((qq1.2.2.1 _ _ (fun e => e)).trans f20) (fun i hi9 => ?_) (fun i hi9 => ?_)
      · rw [hp_I_ne (by omega), qq1.2.2.2.1 _ (by omega)]; exact r10 i hi9
      · rw [hp_I_eq]
        by_cases e : i = n
        · rw [e, pk_us]
        · rw [pk_un e, qq1.2.2.2.1 _ (by omega)]; exact r20 i (by omega)
set_option maxHeartbeats 4000000 in
set_option maxRecDepth 100000 in
theorem c_M_fmean2 {l : Launch} {Z : EE} (hst : l.stackTraces = false) {h : PH} {m : Nat} (hM : ModS h m) {f : Nat → Int32} (hf : hp_I h (m + 14) = f) {g : Nat → Int32} (hs : hp_I h (m + 15) = g) {sz : Nat} {kf vf : Nat → Int32} (hQ : LawM h m sz kf vf) (hok : LawOK kf vf sz) (v : Nat) (hv : v ≤ 297) (ht : hp_F h m 0 = .int (nI 0)) : CC l Z m_X11_findMeant 5 0 0 [.ref m, .int (nI v), .int (nI 2)] h (RQ none (fun h9 => MI m sz kf vf (cpF f g 190) h h9 ∧ MtM m (frN f sz kf vf) (GM (frN f sz kf vf) v 2 mt0) h9)) := by
  refine ee_entry hst (by decide +kernel) rfl rfl (by simp [Value.category]) (Nat.le_of_ble_eq_true rfl) ?_
  refine ww_lv (lv2 := [.ref m, .int (nI v), .int (nI 2), UU]) rfl ?_
  refine ww_aload_n dX11_findMeant_0 rfl rfl ?_
  refine ww_cV0 (M := m_X11_findMeant) (pc := 1) (h1 := hp_sI (h) (m + 15) (cpF f g 190)) (st := []) (d := 5) (bc := 0) (bs := 0) (c_M_take hst (h := h) hM hf hs) vv_X11_take dX11_findMeant_1 wg_1539 hM.K0 rfl rfl rfl rfl (Nat.le_of_ble_eq_true rfl) (Nat.le_of_ble_eq_true rfl) (Nat.le_of_ble_eq_true rfl) (Nat.le_of_ble_eq_true rfl) ?_
  refine ww_aload_n dX11_findMeant_4 rfl rfl ?_
  refine ww_iconst (v := nI 0) dX11_findMeant_5 (by decide) ?_
  refine ww_pfI tyX11 44 dX11_findMeant_6 hM.K0 rfl (by decide) inX11 tyX11_ok nmX11 wg_1284 rfl rfl ?_
  refine ww_aload_n dX11_findMeant_9 rfl rfl ?_
  refine ww_iconst (v := -1) dX11_findMeant_10 (by decide) ?_
  refine ww_pfI tyX11 45 dX11_findMeant_11 hM.K0 rfl (by decide) inX11 tyX11_ok nmX11 wg_1285 rfl rfl ?_
  refine ww_iconst (v := nI 0) dX11_findMeant_14 (by decide) ?_
  refine ww_sti_n (lv2 := [.ref m, .int (nI v), .int (nI 2), .int (nI 0)]) dX11_findMeant_15 rfl rfl (by decide) rfl ?_
  exact l_M_fm2 hst hok (fun i hi => cpF_in hi) v hv 61 0 _ rfl (((MI.start2 hM hQ ht).sF (SY44 m) (by decide) (by decide) (by decide)).sF (SY45 m) (by decide) (by decide) (by decide)) (hp_F_nj (by decide) (hp_F_eq _ _ _ _)) (hp_F_eq _ _ _ _) (fun i hi => absurd hi (Nat.not_lt_zero i)) (fun i hi => absurd hi (Nat.not_lt_zero i))
set_option maxHeartbeats 4000000 in
set_option maxRecDepth 100000 in
theorem l_M_fm3 {l : Launch} {Z : EE} (hst : l.stackTraces = false) {h : PH} {m : Nat} {sz : Nat} {kf vf : Nat → Int32} (hok : LawOK kf vf sz) {f g9 : Nat → Int32} (hg9 : ∀ i, i < 190 → g9 i = f i) (v : Nat) (hv : v ≤ 297) : ∀ (j n : Nat) (hq : PH), n + j = 61 → MI m sz kf vf g9 h hq → hp_F hq m 44 = .int (nI 0) → hp_F hq m 45 = .int (-1) → (∀ i, i < n → hp_I hq (m + 22) i = nI 0) → (∀ i, i < n → hp_I hq (m + 23) i = nI (frN f sz kf vf i)) → WW l Z m_X11_findMeant 5 0 0 16 [.ref m, .int (nI v), .int (nI 3), .int (nI n)] [] hq (RQ none (fun h9 => MI m sz kf vf g9 h h9 ∧ MtM m (frN f sz kf vf) (GM (frN f sz kf vf) v 3 mt0) h9)) := by
  intro j
  induction j with
  | zero =>
    intro n hq hj hi f1 f2 r1 r2
    have hb9 : n = 61 := by omega
    subst hb9
    have hA0 : MtM m (frN f sz kf vf) mt0 hq := ⟨hi.1, f1, f2, r1, r2⟩
    refine ww_iload_n dX11_findMeant_16 rfl rfl ?_
    refine ww_bipush (v := nI 61) dX11_findMeant_17 (by decide) ?_
    refine ww_icmp_geN (tgt := 47) dX11_findMeant_19 (by decide) (by omega) (by omega) (fun c19 => ?_) (fun c19 => ?_)
    · refine ww_aload_n dX11_findMeant_47 rfl rfl ?_
      refine ww_iconst (v := nI 1) dX11_findMeant_48 (by decide) ?_
      refine ww_iload_n dX11_findMeant_49 rfl rfl ?_
      refine ww_iload_n dX11_findMeant_50 rfl rfl ?_
      refine ww_iconst (v := nI 0) dX11_findMeant_51 (by decide) ?_
      refine ww_cVq0 (M := m_X11_findMeant) (pc := 52) (st := []) (d := 5) (bc := 0) (bs := 0) (c_M_m3 hst (frN_le f sz kf vf) v hv hA0 mt0_g) vv_X11_meetsOn dX11_findMeant_52 wg_1689 hi.1.K0 rfl rfl rfl rfl (Nat.le_of_ble_eq_true rfl) (Nat.le_of_ble_eq_true rfl) (Nat.le_of_ble_eq_true rfl) (Nat.le_of_ble_eq_true rfl) (fun hq1 q1 => ?_)
      have hi1 := hi.meet q1.1.1 q1.2
      exact ww_vret dX11_findMeant_55 rfl ⟨rfl, hi1, (by rw [show GM (frN f sz kf vf) v 3 mt0 = _ from (if_neg (by decide)).trans (if_neg (by decide))]; exact q1.1)⟩
    · exfalso; omega
  | succ j ih =>
    intro n hq hj hi f1 f2 r1 r2
    refine ww_iload_n dX11_findMeant_16 rfl rfl ?_
    refine ww_bipush (v := nI 61) dX11_findMeant_17 (by decide) ?_
    refine ww_icmp_geN (tgt := 47) dX11_findMeant_19 (by decide) (by omega) (by omega) (fun c19 => ?_) (fun c19 => ?_)
    · exfalso; omega
    · refine ww_aload_n dX11_findMeant_22 rfl rfl ?_
      refine ww_get 46 dX11_findMeant_23 hi.1.K0 rfl (by decide) inX11 wg_1286 hi.1.F22 ?_
      refine ww_iload_n dX11_findMeant_26 rfl rfl ?_
      refine ww_iconst (v := nI 0) dX11_findMeant_27 (by decide) ?_
      refine ww_iastF dX11_findMeant_28 hi.1.K22 rfl (by omega) (by omega) ?_
      have hi0 := hi.sI (gx := upd (hp_I hq (m + 22)) n (nI 0)) (SX22 m) (by omega) (by omega) (by omega)
      have r10 : ∀ i, i < n + 1 → hp_I (hp_sI hq (m + 22) (upd (hp_I hq (m + 22)) n (nI 0))) (m + 22) i = nI 0 := fun i hi => by
        rw [hp_I_eq]
        by_cases e : i = n
        · rw [e, pk_us]
        · rw [pk_un e]; exact r1 i (by omega)
      have r20 : ∀ i, i < n → hp_I (hp_sI hq (m + 22) (upd (hp_I hq (m + 22)) n (nI 0))) (m + 23) i = nI (frN f sz kf vf i) := fun i hi => by rw [hp_I_ne (by omega)]; exact r2 i hi
      have f10 : hp_F (hp_sI hq (m + 22) (upd (hp_I hq (m + 22)) n (nI 0))) m 44 = .int (nI 0) := f1
      have f20 : hp_F (hp_sI hq (m + 22) (upd (hp_I hq (m + 22)) n (nI 0))) m 45 = .int (-1) := f2
      generalize hp_sI hq (m + 22) (upd (hp_I hq (m + 22)) n (nI 0)) = hq0 at hi0 r10 r20 f10 f20 ⊢
      refine ww_aload_n dX11_findMeant_29 rfl rfl ?_
      refine ww_get 47 dX11_findMeant_30 hi0.1.K0 rfl (by decide) inX11 wg_1287 hi0.1.F23 ?_
      refine ww_iload_n dX11_findMeant_33 rfl rfl ?_
      refine ww_aload_n dX11_findMeant_34 rfl rfl ?_
      refine ww_iload_n dX11_findMeant_35 rfl rfl ?_
      refine ww_iconst (v := nI 1) dX11_findMeant_36 (by decide) ?_
      refine ww_cVq (M := m_X11_findMeant) (pc := 37) (v := .int (fareC g9 sz kf vf n 1)) (st := [.int (nI n), .ref (m + 23)]) (d := 5) (bc := 0) (bs := 0) (c_M_fareBy hst hi0.1 hi0.2.1 hok hi0.2.2.1 n (by omega) 1 (by omega)) vv_X11_fareBy dX11_findMeant_37 wg_1555 hi0.1.K0 rfl rfl rfl rfl (Nat.le_of_ble_eq_true rfl) (Nat.le_of_ble_eq_true rfl) (Nat.le_of_ble_eq_true rfl) (Nat.le_of_ble_eq_true rfl) (fun hq1 qq1 => ?_)
      have hi1 := hi0.step qq1
      refine ww_sk (st2 := [.int (nI (frN f sz kf vf n)), .int (nI n), .ref (m + 23)]) (by rw [fareC_tn hg9 (by omega)]; rfl) ?_
      refine ww_iastF dX11_findMeant_40 hi1.1.K23 rfl (by omega) (by omega) ?_
      refine ww_incN (c := 1) (lv2 := [.ref m, .int (nI v), .int (nI 3), .int (nI (n + 1))]) dX11_findMeant_41 rfl rfl rfl (by decide) rfl ?_
      refine ww_goto (tgt := 16) dX11_findMeant_44 (by decide) ?_
      refine ih (n + 1) _ (by omega) (hi1.sI (SX23 m) (by omega) (by omega) (by omega)) ((qq1.2.2.1 _ _ (fun e => e)).trans f10) ((qq1.2.2.1 _ _ (fun e => e)).trans f20) (fun i hi9 => ?_) (fun i hi9 => ?_)
      · rw [hp_I_ne (by omega), qq1.2.2.2.1 _ (by omega)]; exact r10 i hi9
      · rw [hp_I_eq]
        by_cases e : i = n
        · rw [e, pk_us]
        · rw [pk_un e, qq1.2.2.2.1 _ (by omega)]; exact r20 i (by omega)
set_option maxHeartbeats 4000000 in
set_option maxRecDepth 100000 in
theorem c_M_fmean3 {l : Launch} {Z : EE} (hst : l.stackTraces = false) {h : PH} {m : Nat} (hM : ModS h m) {f : Nat → Int32} (hf : hp_I h (m + 14) = f) {g : Nat → Int32} (hs : hp_I h (m + 15) = g) {sz : Nat} {kf vf : Nat → Int32} (hQ : LawM h m sz kf vf) (hok : LawOK kf vf sz) (v : Nat) (hv : v ≤ 297) (ht : hp_F h m 0 = .int (nI 0)) : CC l Z m_X11_findMeant 5 0 0 [.ref m, .int (nI v), .int (nI 3)] h (RQ none (fun h9 => MI m sz kf vf (cpF f g 190) h h9 ∧ MtM m (frN f sz kf vf) (GM (frN f sz kf vf) v 3 mt0) h9)) := by
  refine ee_entry hst (by decide +kernel) rfl rfl (by simp [Value.category]) (Nat.le_of_ble_eq_true rfl) ?_
  refine ww_lv (lv2 := [.ref m, .int (nI v), .int (nI 3), UU]) rfl ?_
  refine ww_aload_n dX11_findMeant_0 rfl rfl ?_
  refine ww_cV0 (M := m_X11_findMeant) (pc := 1) (h1 := hp_sI (h) (m + 15) (cpF f g 190)) (st := []) (d := 5) (bc := 0) (bs := 0) (c_M_take hst (h := h) hM hf hs) vv_X11_take dX11_findMeant_1 wg_1539 hM.K0 rfl rfl rfl rfl (Nat.le_of_ble_eq_true rfl) (Nat.le_of_ble_eq_true rfl) (Nat.le_of_ble_eq_true rfl) (Nat.le_of_ble_eq_true rfl) ?_
  refine ww_aload_n dX11_findMeant_4 rfl rfl ?_
  refine ww_iconst (v := nI 0) dX11_findMeant_5 (by decide) ?_
  refine ww_pfI tyX11 44 dX11_findMeant_6 hM.K0 rfl (by decide) inX11 tyX11_ok nmX11 wg_1284 rfl rfl ?_
  refine ww_aload_n dX11_findMeant_9 rfl rfl ?_
  refine ww_iconst (v := -1) dX11_findMeant_10 (by decide) ?_
  refine ww_pfI tyX11 45 dX11_findMeant_11 hM.K0 rfl (by decide) inX11 tyX11_ok nmX11 wg_1285 rfl rfl ?_
  refine ww_iconst (v := nI 0) dX11_findMeant_14 (by decide) ?_
  refine ww_sti_n (lv2 := [.ref m, .int (nI v), .int (nI 3), .int (nI 0)]) dX11_findMeant_15 rfl rfl (by decide) rfl ?_
  exact l_M_fm3 hst hok (fun i hi => cpF_in hi) v hv 61 0 _ rfl (((MI.start2 hM hQ ht).sF (SY44 m) (by decide) (by decide) (by decide)).sF (SY45 m) (by decide) (by decide) (by decide)) (hp_F_nj (by decide) (hp_F_eq _ _ _ _)) (hp_F_eq _ _ _ _) (fun i hi => absurd hi (Nat.not_lt_zero i)) (fun i hi => absurd hi (Nat.not_lt_zero i))
theorem c_M_fmean {l : Launch} {Z : EE} (hst : l.stackTraces = false) {h : PH} {m : Nat} (hM : ModS h m) {f : Nat → Int32} (hf : hp_I h (m + 14) = f) {g : Nat → Int32} (hs : hp_I h (m + 15) = g) {sz : Nat} {kf vf : Nat → Int32} (hQ : LawM h m sz kf vf) (hok : LawOK kf vf sz) (v : Nat) (hv : v ≤ 297) (k : Nat) (lk : 1 ≤ k) (hk : k ≤ 3) (ht : hp_F h m 0 = .int (nI 0)) : CC l Z m_X11_findMeant 5 0 0 [.ref m, .int (nI v), .int (nI k)] h (RQ none (fun h9 => MI m sz kf vf (cpF f g 190) h h9 ∧ MtM m (frN f sz kf vf) (GM (frN f sz kf vf) v k mt0) h9)) := by
  rcases (show k = 1 ∨ k = 2 ∨ k = 3 by omega) with rfl | rfl | rfl
  · exact c_M_fmean1 hst hM hf hs hQ hok v hv ht
  · exact c_M_fmean2 hst hM hf hs hQ hok v hv ht
  · exact c_M_fmean3 hst hM hf hs hQ hok v hv ht
set_option maxHeartbeats 4000000 in
set_option maxRecDepth 100000 in
theorem c_M_asked {l : Launch} {Z : EE} (hst : l.stackTraces = false) {h : PH} (v : Nat) (hv : v ≤ 297) (k : Nat) (lk : 1 ≤ k) (hk : k ≤ 3) : CC l Z m_X11_isAsked 0 0 0 [.int (nI v), .int (nI k)] h (RT (some (.int (nI 1))) h) := by
  refine ee_entry hst (by decide +kernel) rfl rfl (by simp [Value.category]) (Nat.le_of_ble_eq_true rfl) ?_
  refine ww_lv (lv2 := [.int (nI v), .int (nI k)]) rfl ?_
  refine ww_iload_n dX11_isAsked_0 rfl rfl ?_
  refine ww_if_ltN (tgt := 25) dX11_isAsked_1 (by decide) (by omega) ?_
  refine ww_iload_n dX11_isAsked_4 rfl rfl ?_
  refine ww_sipush (v := nI 297) dX11_isAsked_5 (by decide) ?_
  refine ww_icmp_gtN (tgt := 25) dX11_isAsked_8 (by decide) (by omega) (by omega) (fun c8 => ?_) (fun c8 => ?_)
  · exfalso; omega
  · refine ww_iload_n dX11_isAsked_11 rfl rfl ?_
    refine ww_iconst (v := nI 1) dX11_isAsked_12 (by decide) ?_
    refine ww_icmp_ltN (tgt := 25) dX11_isAsked_13 (by decide) (by omega) (by omega) (fun c13 => ?_) (fun c13 => ?_)
    · exfalso; omega
    · refine ww_iload_n dX11_isAsked_16 rfl rfl ?_
      refine ww_iconst (v := nI 3) dX11_isAsked_17 (by decide) ?_
      refine ww_icmp_gtN (tgt := 25) dX11_isAsked_18 (by decide) (by omega) (by omega) (fun c18 => ?_) (fun c18 => ?_)
      · exfalso; omega
      · refine ww_iconst (v := nI 1) dX11_isAsked_21 (by decide) ?_
        refine ww_goto (tgt := 26) dX11_isAsked_22 (by decide) ?_
        exact ww_zret dX11_isAsked_26 rfl (by first | rfl | exact nar_bI _) ⟨rfl, rfl⟩
set_option maxHeartbeats 4000000 in
set_option maxRecDepth 100000 in
theorem c_M_asked0 {l : Launch} {Z : EE} (hst : l.stackTraces = false) {h : PH} (v k : Int32) (hout : outR 0 297 v) : CC l Z m_X11_isAsked 0 0 0 [.int v, .int k] h (RT (some (.int (nI 0))) h) := by
  refine ee_entry hst (by decide +kernel) rfl rfl (by simp [Value.category]) (Nat.le_of_ble_eq_true rfl) ?_
  refine ww_lv (lv2 := [.int v, .int k]) rfl ?_
  refine ww_iload_n dX11_isAsked_0 rfl rfl ?_
  refine ww_if_lt (tgt := 25) dX11_isAsked_1 (by decide) (fun c1 => ?_) (fun c1 => ?_)
  · refine ww_iconst (v := nI 0) dX11_isAsked_25 (by decide) ?_
    exact ww_zret dX11_isAsked_26 rfl (by first | rfl | exact nar_bI _) ⟨rfl, rfl⟩
  · refine ww_iload_n dX11_isAsked_4 rfl rfl ?_
    refine ww_sipush (v := nI 297) dX11_isAsked_5 (by decide) ?_
    refine ww_icmp_gt (tgt := 25) dX11_isAsked_8 (by decide) (fun c8 => ?_) (fun c8 => ?_)
    · refine ww_iconst (v := nI 0) dX11_isAsked_25 (by decide) ?_
      exact ww_zret dX11_isAsked_26 rfl (by first | rfl | exact nar_bI _) ⟨rfl, rfl⟩
    · exact absurd ⟨(by rw [nI_0]; exact Int32.not_lt.mp c1), Int32.not_lt.mp c8⟩ hout
set_option maxHeartbeats 4000000 in
set_option maxRecDepth 100000 in
theorem c_M_asked1 {l : Launch} {Z : EE} (hst : l.stackTraces = false) {h : PH} (v : Nat) (hv : v ≤ 297) (k : Int32) (hout : outR 1 3 k) : CC l Z m_X11_isAsked 0 0 0 [.int (nI v), .int k] h (RT (some (.int (nI 0))) h) := by
  refine ee_entry hst (by decide +kernel) rfl rfl (by simp [Value.category]) (Nat.le_of_ble_eq_true rfl) ?_
  refine ww_lv (lv2 := [.int (nI v), .int k]) rfl ?_
  refine ww_iload_n dX11_isAsked_0 rfl rfl ?_
  refine ww_if_ltN (tgt := 25) dX11_isAsked_1 (by decide) (by omega) ?_
  refine ww_iload_n dX11_isAsked_4 rfl rfl ?_
  refine ww_sipush (v := nI 297) dX11_isAsked_5 (by decide) ?_
  refine ww_icmp_gtN (tgt := 25) dX11_isAsked_8 (by decide) (by omega) (by omega) (fun c8 => ?_) (fun c8 => ?_)
  · exfalso; omega
  · refine ww_iload_n dX11_isAsked_11 rfl rfl ?_
    refine ww_iconst (v := nI 1) dX11_isAsked_12 (by decide) ?_
    refine ww_icmp_lt (tgt := 25) dX11_isAsked_13 (by decide) (fun c13 => ?_) (fun c13 => ?_)
    · refine ww_iconst (v := nI 0) dX11_isAsked_25 (by decide) ?_
      exact ww_zret dX11_isAsked_26 rfl (by first | rfl | exact nar_bI _) ⟨rfl, rfl⟩
    · refine ww_iload_n dX11_isAsked_16 rfl rfl ?_
      refine ww_iconst (v := nI 3) dX11_isAsked_17 (by decide) ?_
      refine ww_icmp_gt (tgt := 25) dX11_isAsked_18 (by decide) (fun c18 => ?_) (fun c18 => ?_)
      · refine ww_iconst (v := nI 0) dX11_isAsked_25 (by decide) ?_
        exact ww_zret dX11_isAsked_26 rfl (by first | rfl | exact nar_bI _) ⟨rfl, rfl⟩
      · exact absurd ⟨Int32.not_lt.mp c13, Int32.not_lt.mp c18⟩ hout
set_option maxHeartbeats 4000000 in
set_option maxRecDepth 100000 in
theorem c_M_meant0 {l : Launch} {Z : EE} (hst : l.stackTraces = false) {h : PH} {m : Nat} (hM : ModS h m) {f : Nat → Int32} (hf : hp_I h (m + 14) = f) {g : Nat → Int32} (hs : hp_I h (m + 15) = g) {sz : Nat} {kf vf : Nat → Int32} (hQ : LawM h m sz kf vf) (hok : LawOK kf vf sz) (v : Nat) (hv : v ≤ 297) (k : Nat) (lk : 1 ≤ k) (hk : k ≤ 3) : CC l Z m_X11_meant 6 0 0 [.ref m, .int (nI v), .int (nI k), .int (nI 0)] h (MOk (nI (GM (frN f sz kf vf) v k mt0).1) m h) := by
  refine ee_entry hst (by decide +kernel) rfl rfl (by simp [Value.category]) (Nat.le_of_ble_eq_true rfl) ?_
  refine ww_lv (lv2 := [.ref m, .int (nI v), .int (nI k), .int (nI 0)]) rfl ?_
  refine ww_aload_n dX11_meant_0 rfl rfl ?_
  refine ww_iconst (v := nI 0) dX11_meant_1 (by decide) ?_
  refine ww_pfI tyX11 0 dX11_meant_2 hM.K0 rfl (by decide) inX11 tyX11_ok nmX11 wg_1240 rfl rfl ?_
  refine ww_aload_n dX11_meant_5 rfl rfl ?_
  refine ww_iload_n dX11_meant_6 rfl rfl ?_
  refine ww_iload_n dX11_meant_7 rfl rfl ?_
  refine ww_cSr (M := m_X11_meant) (pc := 8) (v := .int (nI 1)) (h1 := hp_sF h m 0 (.int (nI 0))) (st := [.ref m]) (d := 6) (bc := 0) (bs := 0) (c_M_asked hst v hv k lk hk) vv_X11_isAsked dX11_meant_8 wg_1682 rfl rfl rfl (Nat.le_of_ble_eq_true rfl) (Nat.le_of_ble_eq_true rfl) (Nat.le_of_ble_eq_true rfl) (Nat.le_of_ble_eq_true rfl) ?_
  refine ww_if_eqN (tgt := 27) dX11_meant_11 (by decide) (by omega) (fun c11 => ?_) (fun c11 => ?_)
  · exact absurd c11 (by decide)
  · refine ww_iload_n dX11_meant_14 rfl rfl ?_
    refine ww_iconst (v := nI 0) dX11_meant_15 (by decide) ?_
    refine ww_iconst (v := nI 1) dX11_meant_16 (by decide) ?_
    refine ww_cSr (M := m_X11_meant) (pc := 17) (v := .int (nI 1)) (h1 := hp_sF h m 0 (.int (nI 0))) (st := [.ref m]) (d := 6) (bc := 0) (bs := 0) (c_M_within_t hst (nI 0) (nI 0) (nI 1) (by decide) (by decide) _) vv_X11_within dX11_meant_17 wg_1601 rfl rfl rfl (Nat.le_of_ble_eq_true rfl) (Nat.le_of_ble_eq_true rfl) (Nat.le_of_ble_eq_true rfl) (Nat.le_of_ble_eq_true rfl) ?_
    refine ww_if_eqN (tgt := 27) dX11_meant_20 (by decide) (by omega) (fun c20 => ?_) (fun c20 => ?_)
    · exact absurd c20 (by decide)
    · refine ww_iconst (v := nI 1) dX11_meant_23 (by decide) ?_
      refine ww_goto (tgt := 28) dX11_meant_24 (by decide) ?_
      refine ww_iconst (v := nI 1) dX11_meant_28 (by decide) ?_
      refine ww_iconst (v := nI 1) dX11_meant_29 (by decide) ?_
      refine ww_cVr (M := m_X11_meant) (pc := 30) (v := .int (nI 1)) (h1 := hp_sF h m 0 (.int (nI 0))) (st := []) (d := 6) (bc := 0) (bs := 0) (c_M_may_t hst (h := hp_sF h m 0 (.int (nI 0))) (ModS.sF hM (by decide)) (hp_F_eq _ _ _ _) (nI 1) (nI 1)) vv_X11_may dX11_meant_30 wg_1413 hM.K0 rfl rfl rfl rfl (Nat.le_of_ble_eq_true rfl) (Nat.le_of_ble_eq_true rfl) (Nat.le_of_ble_eq_true rfl) (Nat.le_of_ble_eq_true rfl) ?_
      refine ww_if_neN (tgt := 38) dX11_meant_33 (by decide) (by omega) (fun c33 => ?_) (fun c33 => ?_)
      · refine ww_aload_n dX11_meant_38 rfl rfl ?_
        refine ww_iload_n dX11_meant_39 rfl rfl ?_
        refine ww_iload_n dX11_meant_40 rfl rfl ?_
        have hQ0 : LawM (hp_sF h m 0 (.int (nI 0))) m sz kf vf := hQ.same (Same.rf.sF (SY0 m)) (SX_no (by decide)) (SX_no (by decide)) (SY_no (by decide))
        refine ww_cVq0 (M := m_X11_meant) (pc := 41) (st := []) (d := 6) (bc := 0) (bs := 0) (c_M_fmean hst (h := hp_sF h m 0 (.int (nI 0))) (ModS.sF hM (by decide)) hf hs hQ0 hok v hv k lk hk (hp_F_eq _ _ _ _)) vv_X11_findMeant dX11_meant_41 wg_1685 hM.K0 rfl rfl rfl rfl (Nat.le_of_ble_eq_true rfl) (Nat.le_of_ble_eq_true rfl) (Nat.le_of_ble_eq_true rfl) (Nat.le_of_ble_eq_true rfl) (fun hq0 qq0 => ?_)
        have hI0 : MI m sz kf vf (cpF f g 190) h hq0 := ⟨qq0.1.1, qq0.1.2.1, qq0.1.2.2.1, (Same.rf.sF (SY0 m)).tr qq0.1.2.2.2.1, qq0.1.2.2.2.2⟩
        have hA := qq0.2
        have hG := GM_g (frN f sz kf vf) v k
        generalize hse : GM (frN f sz kf vf) v k mt0 = s at hA hG ⊢
        refine ww_iload_n dX11_meant_44 rfl rfl ?_
        refine ww_if_neN (tgt := 55) dX11_meant_45 (by decide) (by omega) (fun c45 => ?_) (fun c45 => ?_)
        · exact absurd c45 (by decide)
        · refine ww_aload_n dX11_meant_48 rfl rfl ?_
          refine ww_get 44 dX11_meant_49 hA.1.K0 rfl (by decide) inX11 wg_1284 hA.2.1 ?_
          refine ww_goto (tgt := 59) dX11_meant_52 (by decide) ?_
          exact ww_iret dX11_meant_59 rfl ⟨rfl, hI0.2.2.2.1, hI0.2.2.2.2⟩
      · exact absurd c33 (by decide)
set_option maxHeartbeats 4000000 in
set_option maxRecDepth 100000 in
theorem c_M_meant1 {l : Launch} {Z : EE} (hst : l.stackTraces = false) {h : PH} {m : Nat} (hM : ModS h m) {f : Nat → Int32} (hf : hp_I h (m + 14) = f) {g : Nat → Int32} (hs : hp_I h (m + 15) = g) {sz : Nat} {kf vf : Nat → Int32} (hQ : LawM h m sz kf vf) (hok : LawOK kf vf sz) (v : Nat) (hv : v ≤ 297) (k : Nat) (lk : 1 ≤ k) (hk : k ≤ 3) : CC l Z m_X11_meant 6 0 0 [.ref m, .int (nI v), .int (nI k), .int (nI 1)] h (MOk (ftV (GM (frN f sz kf vf) v k mt0)) m h) := by
  refine ee_entry hst (by decide +kernel) rfl rfl (by simp [Value.category]) (Nat.le_of_ble_eq_true rfl) ?_
  refine ww_lv (lv2 := [.ref m, .int (nI v), .int (nI k), .int (nI 1)]) rfl ?_
  refine ww_aload_n dX11_meant_0 rfl rfl ?_
  refine ww_iconst (v := nI 0) dX11_meant_1 (by decide) ?_
  refine ww_pfI tyX11 0 dX11_meant_2 hM.K0 rfl (by decide) inX11 tyX11_ok nmX11 wg_1240 rfl rfl ?_
  refine ww_aload_n dX11_meant_5 rfl rfl ?_
  refine ww_iload_n dX11_meant_6 rfl rfl ?_
  refine ww_iload_n dX11_meant_7 rfl rfl ?_
  refine ww_cSr (M := m_X11_meant) (pc := 8) (v := .int (nI 1)) (h1 := hp_sF h m 0 (.int (nI 0))) (st := [.ref m]) (d := 6) (bc := 0) (bs := 0) (c_M_asked hst v hv k lk hk) vv_X11_isAsked dX11_meant_8 wg_1682 rfl rfl rfl (Nat.le_of_ble_eq_true rfl) (Nat.le_of_ble_eq_true rfl) (Nat.le_of_ble_eq_true rfl) (Nat.le_of_ble_eq_true rfl) ?_
  refine ww_if_eqN (tgt := 27) dX11_meant_11 (by decide) (by omega) (fun c11 => ?_) (fun c11 => ?_)
  · exact absurd c11 (by decide)
  · refine ww_iload_n dX11_meant_14 rfl rfl ?_
    refine ww_iconst (v := nI 0) dX11_meant_15 (by decide) ?_
    refine ww_iconst (v := nI 1) dX11_meant_16 (by decide) ?_
    refine ww_cSr (M := m_X11_meant) (pc := 17) (v := .int (nI 1)) (h1 := hp_sF h m 0 (.int (nI 0))) (st := [.ref m]) (d := 6) (bc := 0) (bs := 0) (c_M_within_t hst (nI 1) (nI 0) (nI 1) (by decide) (by decide) _) vv_X11_within dX11_meant_17 wg_1601 rfl rfl rfl (Nat.le_of_ble_eq_true rfl) (Nat.le_of_ble_eq_true rfl) (Nat.le_of_ble_eq_true rfl) (Nat.le_of_ble_eq_true rfl) ?_
    refine ww_if_eqN (tgt := 27) dX11_meant_20 (by decide) (by omega) (fun c20 => ?_) (fun c20 => ?_)
    · exact absurd c20 (by decide)
    · refine ww_iconst (v := nI 1) dX11_meant_23 (by decide) ?_
      refine ww_goto (tgt := 28) dX11_meant_24 (by decide) ?_
      refine ww_iconst (v := nI 1) dX11_meant_28 (by decide) ?_
      refine ww_iconst (v := nI 1) dX11_meant_29 (by decide) ?_
      refine ww_cVr (M := m_X11_meant) (pc := 30) (v := .int (nI 1)) (h1 := hp_sF h m 0 (.int (nI 0))) (st := []) (d := 6) (bc := 0) (bs := 0) (c_M_may_t hst (h := hp_sF h m 0 (.int (nI 0))) (ModS.sF hM (by decide)) (hp_F_eq _ _ _ _) (nI 1) (nI 1)) vv_X11_may dX11_meant_30 wg_1413 hM.K0 rfl rfl rfl rfl (Nat.le_of_ble_eq_true rfl) (Nat.le_of_ble_eq_true rfl) (Nat.le_of_ble_eq_true rfl) (Nat.le_of_ble_eq_true rfl) ?_
      refine ww_if_neN (tgt := 38) dX11_meant_33 (by decide) (by omega) (fun c33 => ?_) (fun c33 => ?_)
      · refine ww_aload_n dX11_meant_38 rfl rfl ?_
        refine ww_iload_n dX11_meant_39 rfl rfl ?_
        refine ww_iload_n dX11_meant_40 rfl rfl ?_
        have hQ0 : LawM (hp_sF h m 0 (.int (nI 0))) m sz kf vf := hQ.same (Same.rf.sF (SY0 m)) (SX_no (by decide)) (SX_no (by decide)) (SY_no (by decide))
        refine ww_cVq0 (M := m_X11_meant) (pc := 41) (st := []) (d := 6) (bc := 0) (bs := 0) (c_M_fmean hst (h := hp_sF h m 0 (.int (nI 0))) (ModS.sF hM (by decide)) hf hs hQ0 hok v hv k lk hk (hp_F_eq _ _ _ _)) vv_X11_findMeant dX11_meant_41 wg_1685 hM.K0 rfl rfl rfl rfl (Nat.le_of_ble_eq_true rfl) (Nat.le_of_ble_eq_true rfl) (Nat.le_of_ble_eq_true rfl) (Nat.le_of_ble_eq_true rfl) (fun hq0 qq0 => ?_)
        have hI0 : MI m sz kf vf (cpF f g 190) h hq0 := ⟨qq0.1.1, qq0.1.2.1, qq0.1.2.2.1, (Same.rf.sF (SY0 m)).tr qq0.1.2.2.2.1, qq0.1.2.2.2.2⟩
        have hA := qq0.2
        have hG := GM_g (frN f sz kf vf) v k
        generalize hse : GM (frN f sz kf vf) v k mt0 = s at hA hG ⊢
        refine ww_iload_n dX11_meant_44 rfl rfl ?_
        refine ww_if_neN (tgt := 55) dX11_meant_45 (by decide) (by omega) (fun c45 => ?_) (fun c45 => ?_)
        · refine ww_aload_n dX11_meant_55 rfl rfl ?_
          refine ww_get 45 dX11_meant_56 hA.1.K0 rfl (by decide) inX11 wg_1285 hA.2.2.1 ?_
          exact ww_iret dX11_meant_59 rfl ⟨rfl, hI0.2.2.2.1, hI0.2.2.2.2⟩
        · exact absurd c45 (by decide)
      · exact absurd c33 (by decide)
set_option maxHeartbeats 4000000 in
set_option maxRecDepth 100000 in
theorem l_M_look {l : Launch} {Z : EE} (hst : l.stackTraces = false) {hq0 : PH} {m : Nat} {fr : Nat → Nat} {s : MT} (hA : MtM m fr s hq0) (hG : MtG s) (hs : s.1 ≤ 1000000) (v k : Nat) (w : Int32) {Post : Res → PH → Prop} : ∀ (j i : Nat), i + j = 59 → WW l Z m_X11_look 6 0 0 136 [.ref m, .int (nI v), .int (nI k), .int w, .int (nI (btF s 59)), .int (nI (wsN s (btF s 59))), .int (nI (59 + 2)), UU] [] hq0 Post → WW l Z m_X11_look 6 0 0 53 [.ref m, .int (nI v), .int (nI k), .int w, .int (nI (btF s i)), .int (nI (wsN s (btF s i))), .int (nI (i + 2)), UU] [] hq0 Post := by
  intro j
  induction j with
  | zero =>
    intro i hj hex
    have hb9 : i = 59 := by omega
    subst hb9
    refine ww_iload dX11_look_53 rfl ?_
    refine ww_bipush (v := nI 61) dX11_look_55 (by decide) ?_
    refine ww_icmp_geN (tgt := 136) dX11_look_57 (by decide) (by omega) (by omega) (fun c57 => ?_) (fun c57 => ?_)
    · exact hex
    · exfalso; omega
  | succ j ih =>
    intro i hj hex
    have hb9 := btF_le s i
    have hw0 := hG.1 (i + 2)
    have hw1 := wsN_le hG (i + 2)
    have hw2 := wsN_le hG (btF s i)
    refine ww_iload dX11_look_53 rfl ?_
    refine ww_bipush (v := nI 61) dX11_look_55 (by decide) ?_
    refine ww_icmp_geN (tgt := 136) dX11_look_57 (by decide) (by omega) (by omega) (fun c57 => ?_) (fun c57 => ?_)
    · exfalso; omega
    · refine ww_aload_n dX11_look_60 rfl rfl ?_
      refine ww_get 46 dX11_look_61 hA.1.K0 rfl (by decide) inX11 wg_1286 hA.1.F22 ?_
      refine ww_iload dX11_look_64 rfl ?_
      refine ww_ialdF dX11_look_66 hA.1.K22 rfl (by omega) (by omega) ?_
      refine ww_sk (st2 := [.int (nI (s.2.2 (i + 2)))]) (by rw [hA.2.2.2.1 (i + 2) (by omega)]) ?_
      refine ww_aload_n dX11_look_67 rfl rfl ?_
      refine ww_get 44 dX11_look_68 hA.1.K0 rfl (by decide) inX11 wg_1284 hA.2.1 ?_
      refine ww_aload_n dX11_look_71 rfl rfl ?_
      refine ww_get 46 dX11_look_72 hA.1.K0 rfl (by decide) inX11 wg_1286 hA.1.F22 ?_
      refine ww_iload dX11_look_75 rfl ?_
      refine ww_ialdF dX11_look_77 hA.1.K22 rfl (by omega) (by omega) ?_
      refine ww_sk (st2 := [.int (nI (s.2.2 (i + 2))), .int (nI s.1), .int (nI (s.2.2 (i + 2)))]) (by rw [hA.2.2.2.1 (i + 2) (by omega)]) ?_
      refine ww_isubN dX11_look_78 (by omega) ?_
      refine ww_icmp_leN (tgt := 92) dX11_look_79 (by decide) (by omega) (by omega) (fun c79 => ?_) (fun c79 => ?_)
      · refine ww_aload_n dX11_look_92 rfl rfl ?_
        refine ww_get 44 dX11_look_93 hA.1.K0 rfl (by decide) inX11 wg_1284 hA.2.1 ?_
        refine ww_aload_n dX11_look_96 rfl rfl ?_
        refine ww_get 46 dX11_look_97 hA.1.K0 rfl (by decide) inX11 wg_1286 hA.1.F22 ?_
        refine ww_iload dX11_look_100 rfl ?_
        refine ww_ialdF dX11_look_102 hA.1.K22 rfl (by omega) (by omega) ?_
        refine ww_sk (st2 := [.int (nI (s.2.2 (i + 2))), .int (nI s.1)]) (by rw [hA.2.2.2.1 (i + 2) (by omega)]) ?_
        refine ww_isubN dX11_look_103 (by omega) ?_
        refine ww_sk (st2 := [.int (nI (wsN s (i + 2)))]) (by rw [show s.1 - (s.2.2 (i + 2)) = wsN s (i + 2) by unfold wsN; omega]) ?_
        refine ww_sti (lv2 := [.ref m, .int (nI v), .int (nI k), .int w, .int (nI (btF s i)), .int (nI (wsN s (btF s i))), .int (nI (i + 2)), .int (nI (wsN s (i + 2)))]) dX11_look_104 rfl (by decide) rfl ?_
        refine ww_iload dX11_look_106 rfl ?_
        refine ww_iconst (v := -1) dX11_look_108 (by decide) ?_
        refine ww_icmp_eq (tgt := 122) dX11_look_109 (by decide) (fun c109 => ?_) (fun c109 => ?_)
        · exact absurd c109 (nI_m1 (by omega))
        · refine ww_iload dX11_look_112 rfl ?_
          refine ww_iload dX11_look_114 rfl ?_
          refine ww_icmp_ltN (tgt := 122) dX11_look_116 (by decide) (by omega) (by omega) (fun c116 => ?_) (fun c116 => ?_)
          · refine ww_iload dX11_look_122 rfl ?_
            refine ww_sti (lv2 := [.ref m, .int (nI v), .int (nI k), .int w, .int (nI (i + 2)), .int (nI (wsN s (btF s i))), .int (nI (i + 2)), .int (nI (wsN s (i + 2)))]) dX11_look_124 rfl (by decide) rfl ?_
            refine ww_iload dX11_look_126 rfl ?_
            refine ww_sti (lv2 := [.ref m, .int (nI v), .int (nI k), .int w, .int (nI (i + 2)), .int (nI (wsN s (i + 2))), .int (nI (i + 2)), .int (nI (wsN s (i + 2)))]) dX11_look_128 rfl (by decide) rfl ?_
            refine ww_incN (c := 1) (lv2 := [.ref m, .int (nI v), .int (nI k), .int w, .int (nI (i + 2)), .int (nI (wsN s (i + 2))), .int (nI (i + 2 + 1)), .int (nI (wsN s (i + 2)))]) dX11_look_130 rfl rfl rfl (by decide) rfl ?_
            refine ww_goto (tgt := 53) dX11_look_133 (by decide) ?_
            refine ww_fg (lv2 := [.ref m, .int (nI v), .int (nI k), .int w, .int (nI (i + 2)), .int (nI (wsN s (i + 2))), .int (nI (i + 2 + 1)), UU]) ⟨Or.inr rfl, Or.inr rfl, Or.inr rfl, Or.inr rfl, Or.inr rfl, Or.inr rfl, Or.inr rfl, Or.inl rfl, trivial⟩ ?_
            refine ww_lv (lv2 := [.ref m, .int (nI v), .int (nI k), .int w, .int (nI (btF s (i + 1))), .int (nI (wsN s (btF s (i + 1)))), .int (nI ((i + 1) + 2)), UU]) (by rw [show btF s (i + 1) = i + 2 from if_pos (by omega)]) ?_
            exact ih (i + 1) (by omega) hex
          · refine ww_goto (tgt := 130) dX11_look_119 (by decide) ?_
            refine ww_incN (c := 1) (lv2 := [.ref m, .int (nI v), .int (nI k), .int w, .int (nI (btF s i)), .int (nI (wsN s (btF s i))), .int (nI (i + 2 + 1)), .int (nI (wsN s (i + 2)))]) dX11_look_130 rfl rfl rfl (by decide) rfl ?_
            refine ww_goto (tgt := 53) dX11_look_133 (by decide) ?_
            refine ww_fg (lv2 := [.ref m, .int (nI v), .int (nI k), .int w, .int (nI (btF s i)), .int (nI (wsN s (btF s i))), .int (nI (i + 2 + 1)), UU]) ⟨Or.inr rfl, Or.inr rfl, Or.inr rfl, Or.inr rfl, Or.inr rfl, Or.inr rfl, Or.inr rfl, Or.inl rfl, trivial⟩ ?_
            refine ww_lv (lv2 := [.ref m, .int (nI v), .int (nI k), .int w, .int (nI (btF s (i + 1))), .int (nI (wsN s (btF s (i + 1)))), .int (nI ((i + 1) + 2)), UU]) (by rw [show btF s (i + 1) = btF s i from if_neg (by omega)]) ?_
            exact ih (i + 1) (by omega) hex
      · refine ww_aload_n dX11_look_82 rfl rfl ?_
        refine ww_get 46 dX11_look_83 hA.1.K0 rfl (by decide) inX11 wg_1286 hA.1.F22 ?_
        refine ww_iload dX11_look_86 rfl ?_
        refine ww_ialdF dX11_look_88 hA.1.K22 rfl (by omega) (by omega) ?_
        refine ww_sk (st2 := [.int (nI (s.2.2 (i + 2)))]) (by rw [hA.2.2.2.1 (i + 2) (by omega)]) ?_
        refine ww_goto (tgt := 104) dX11_look_89 (by decide) ?_
        refine ww_sk (st2 := [.int (nI (wsN s (i + 2)))]) (by rw [show s.2.2 (i + 2) = wsN s (i + 2) by unfold wsN; omega]) ?_
        refine ww_sti (lv2 := [.ref m, .int (nI v), .int (nI k), .int w, .int (nI (btF s i)), .int (nI (wsN s (btF s i))), .int (nI (i + 2)), .int (nI (wsN s (i + 2)))]) dX11_look_104 rfl (by decide) rfl ?_
        refine ww_iload dX11_look_106 rfl ?_
        refine ww_iconst (v := -1) dX11_look_108 (by decide) ?_
        refine ww_icmp_eq (tgt := 122) dX11_look_109 (by decide) (fun c109 => ?_) (fun c109 => ?_)
        · exact absurd c109 (nI_m1 (by omega))
        · refine ww_iload dX11_look_112 rfl ?_
          refine ww_iload dX11_look_114 rfl ?_
          refine ww_icmp_ltN (tgt := 122) dX11_look_116 (by decide) (by omega) (by omega) (fun c116 => ?_) (fun c116 => ?_)
          · refine ww_iload dX11_look_122 rfl ?_
            refine ww_sti (lv2 := [.ref m, .int (nI v), .int (nI k), .int w, .int (nI (i + 2)), .int (nI (wsN s (btF s i))), .int (nI (i + 2)), .int (nI (wsN s (i + 2)))]) dX11_look_124 rfl (by decide) rfl ?_
            refine ww_iload dX11_look_126 rfl ?_
            refine ww_sti (lv2 := [.ref m, .int (nI v), .int (nI k), .int w, .int (nI (i + 2)), .int (nI (wsN s (i + 2))), .int (nI (i + 2)), .int (nI (wsN s (i + 2)))]) dX11_look_128 rfl (by decide) rfl ?_
            refine ww_incN (c := 1) (lv2 := [.ref m, .int (nI v), .int (nI k), .int w, .int (nI (i + 2)), .int (nI (wsN s (i + 2))), .int (nI (i + 2 + 1)), .int (nI (wsN s (i + 2)))]) dX11_look_130 rfl rfl rfl (by decide) rfl ?_
            refine ww_goto (tgt := 53) dX11_look_133 (by decide) ?_
            refine ww_fg (lv2 := [.ref m, .int (nI v), .int (nI k), .int w, .int (nI (i + 2)), .int (nI (wsN s (i + 2))), .int (nI (i + 2 + 1)), UU]) ⟨Or.inr rfl, Or.inr rfl, Or.inr rfl, Or.inr rfl, Or.inr rfl, Or.inr rfl, Or.inr rfl, Or.inl rfl, trivial⟩ ?_
            refine ww_lv (lv2 := [.ref m, .int (nI v), .int (nI k), .int w, .int (nI (btF s (i + 1))), .int (nI (wsN s (btF s (i + 1)))), .int (nI ((i + 1) + 2)), UU]) (by rw [show btF s (i + 1) = i + 2 from if_pos (by omega)]) ?_
            exact ih (i + 1) (by omega) hex
          · refine ww_goto (tgt := 130) dX11_look_119 (by decide) ?_
            refine ww_incN (c := 1) (lv2 := [.ref m, .int (nI v), .int (nI k), .int w, .int (nI (btF s i)), .int (nI (wsN s (btF s i))), .int (nI (i + 2 + 1)), .int (nI (wsN s (i + 2)))]) dX11_look_130 rfl rfl rfl (by decide) rfl ?_
            refine ww_goto (tgt := 53) dX11_look_133 (by decide) ?_
            refine ww_fg (lv2 := [.ref m, .int (nI v), .int (nI k), .int w, .int (nI (btF s i)), .int (nI (wsN s (btF s i))), .int (nI (i + 2 + 1)), UU]) ⟨Or.inr rfl, Or.inr rfl, Or.inr rfl, Or.inr rfl, Or.inr rfl, Or.inr rfl, Or.inr rfl, Or.inl rfl, trivial⟩ ?_
            refine ww_lv (lv2 := [.ref m, .int (nI v), .int (nI k), .int w, .int (nI (btF s (i + 1))), .int (nI (wsN s (btF s (i + 1)))), .int (nI ((i + 1) + 2)), UU]) (by rw [show btF s (i + 1) = btF s i from if_neg (by omega)]) ?_
            exact ih (i + 1) (by omega) hex
set_option maxHeartbeats 4000000 in
set_option maxRecDepth 100000 in
theorem c_M_look0 {l : Launch} {Z : EE} (hst : l.stackTraces = false) {h : PH} {m : Nat} (hM : ModS h m) {f : Nat → Int32} (hf : hp_I h (m + 14) = f) {g : Nat → Int32} (hs : hp_I h (m + 15) = g) {sz : Nat} {kf vf : Nat → Int32} (hQ : LawM h m sz kf vf) (hok : LawOK kf vf sz) (v : Nat) (hv : v ≤ 297) (k : Nat) (lk : 1 ≤ k) (hk : k ≤ 3) : CC l Z m_X11_look 6 0 0 [.ref m, .int (nI v), .int (nI k), .int (nI 0)] h (MOk (nI (btF (GM (frN f sz kf vf) v k mt0) 59)) m h) := by
  refine ee_entry hst (by decide +kernel) rfl rfl (by simp [Value.category]) (Nat.le_of_ble_eq_true rfl) ?_
  refine ww_lv (lv2 := [.ref m, .int (nI v), .int (nI k), .int (nI 0), UU, UU, UU, UU]) rfl ?_
  refine ww_aload_n dX11_look_0 rfl rfl ?_
  refine ww_iconst (v := nI 0) dX11_look_1 (by decide) ?_
  refine ww_pfI tyX11 0 dX11_look_2 hM.K0 rfl (by decide) inX11 tyX11_ok nmX11 wg_1240 rfl rfl ?_
  refine ww_aload_n dX11_look_5 rfl rfl ?_
  refine ww_iload_n dX11_look_6 rfl rfl ?_
  refine ww_iload_n dX11_look_7 rfl rfl ?_
  refine ww_cSr (M := m_X11_look) (pc := 8) (v := .int (nI 1)) (h1 := hp_sF h m 0 (.int (nI 0))) (st := [.ref m]) (d := 6) (bc := 0) (bs := 0) (c_M_asked hst v hv k lk hk) vv_X11_isAsked dX11_look_8 wg_1682 rfl rfl rfl (Nat.le_of_ble_eq_true rfl) (Nat.le_of_ble_eq_true rfl) (Nat.le_of_ble_eq_true rfl) (Nat.le_of_ble_eq_true rfl) ?_
  refine ww_if_eqN (tgt := 27) dX11_look_11 (by decide) (by omega) (fun c11 => ?_) (fun c11 => ?_)
  · exact absurd c11 (by decide)
  · refine ww_iload_n dX11_look_14 rfl rfl ?_
    refine ww_iconst (v := nI 0) dX11_look_15 (by decide) ?_
    refine ww_iconst (v := nI 1) dX11_look_16 (by decide) ?_
    refine ww_cSr (M := m_X11_look) (pc := 17) (v := .int (nI 1)) (h1 := hp_sF h m 0 (.int (nI 0))) (st := [.ref m]) (d := 6) (bc := 0) (bs := 0) (c_M_within_t hst (nI 0) (nI 0) (nI 1) (by decide) (by decide) _) vv_X11_within dX11_look_17 wg_1601 rfl rfl rfl (Nat.le_of_ble_eq_true rfl) (Nat.le_of_ble_eq_true rfl) (Nat.le_of_ble_eq_true rfl) (Nat.le_of_ble_eq_true rfl) ?_
    refine ww_if_eqN (tgt := 27) dX11_look_20 (by decide) (by omega) (fun c20 => ?_) (fun c20 => ?_)
    · exact absurd c20 (by decide)
    · refine ww_iconst (v := nI 1) dX11_look_23 (by decide) ?_
      refine ww_goto (tgt := 28) dX11_look_24 (by decide) ?_
      refine ww_iconst (v := nI 1) dX11_look_28 (by decide) ?_
      refine ww_iconst (v := nI 1) dX11_look_29 (by decide) ?_
      refine ww_cVr (M := m_X11_look) (pc := 30) (v := .int (nI 1)) (h1 := hp_sF h m 0 (.int (nI 0))) (st := []) (d := 6) (bc := 0) (bs := 0) (c_M_may_t hst (h := hp_sF h m 0 (.int (nI 0))) (ModS.sF hM (by decide)) (hp_F_eq _ _ _ _) (nI 1) (nI 1)) vv_X11_may dX11_look_30 wg_1413 hM.K0 rfl rfl rfl rfl (Nat.le_of_ble_eq_true rfl) (Nat.le_of_ble_eq_true rfl) (Nat.le_of_ble_eq_true rfl) (Nat.le_of_ble_eq_true rfl) ?_
      refine ww_if_neN (tgt := 38) dX11_look_33 (by decide) (by omega) (fun c33 => ?_) (fun c33 => ?_)
      · refine ww_aload_n dX11_look_38 rfl rfl ?_
        refine ww_iload_n dX11_look_39 rfl rfl ?_
        refine ww_iload_n dX11_look_40 rfl rfl ?_
        have hQ0 : LawM (hp_sF h m 0 (.int (nI 0))) m sz kf vf := hQ.same (Same.rf.sF (SY0 m)) (SX_no (by decide)) (SX_no (by decide)) (SY_no (by decide))
        refine ww_cVq0 (M := m_X11_look) (pc := 41) (st := []) (d := 6) (bc := 0) (bs := 0) (c_M_fmean hst (h := hp_sF h m 0 (.int (nI 0))) (ModS.sF hM (by decide)) hf hs hQ0 hok v hv k lk hk (hp_F_eq _ _ _ _)) vv_X11_findMeant dX11_look_41 wg_1685 hM.K0 rfl rfl rfl rfl (Nat.le_of_ble_eq_true rfl) (Nat.le_of_ble_eq_true rfl) (Nat.le_of_ble_eq_true rfl) (Nat.le_of_ble_eq_true rfl) (fun hq0 qq0 => ?_)
        have hI0 : MI m sz kf vf (cpF f g 190) h hq0 := ⟨qq0.1.1, qq0.1.2.1, qq0.1.2.2.1, (Same.rf.sF (SY0 m)).tr qq0.1.2.2.2.1, qq0.1.2.2.2.2⟩
        have hA := qq0.2
        have hG := GM_g (frN f sz kf vf) v k
        generalize hse : GM (frN f sz kf vf) v k mt0 = s at hA hG ⊢
        refine ww_iconst (v := -1) dX11_look_44 (by decide) ?_
        refine ww_sti (lv2 := [.ref m, .int (nI v), .int (nI k), .int (nI 0), .int (-1), UU, UU, UU]) dX11_look_45 rfl (by decide) rfl ?_
        refine ww_iconst (v := -1) dX11_look_47 (by decide) ?_
        refine ww_sti (lv2 := [.ref m, .int (nI v), .int (nI k), .int (nI 0), .int (-1), .int (-1), UU, UU]) dX11_look_48 rfl (by decide) rfl ?_
        refine ww_iconst (v := nI 1) dX11_look_50 (by decide) ?_
        refine ww_sti (lv2 := [.ref m, .int (nI v), .int (nI k), .int (nI 0), .int (-1), .int (-1), .int (nI 1), UU]) dX11_look_51 rfl (by decide) rfl ?_
        have hw0 := hG.1.1 1
        have hw1 := wsN_le hG.1 1
        refine ww_iload dX11_look_53 rfl ?_
        refine ww_bipush (v := nI 61) dX11_look_55 (by decide) ?_
        refine ww_icmp_geN (tgt := 136) dX11_look_57 (by decide) (by omega) (by omega) (fun c57 => ?_) (fun c57 => ?_)
        · exfalso; omega
        · refine ww_aload_n dX11_look_60 rfl rfl ?_
          refine ww_get 46 dX11_look_61 hA.1.K0 rfl (by decide) inX11 wg_1286 hA.1.F22 ?_
          refine ww_iload dX11_look_64 rfl ?_
          refine ww_ialdF dX11_look_66 hA.1.K22 rfl (by omega) (by omega) ?_
          refine ww_sk (st2 := [.int (nI (s.2.2 1))]) (by rw [hA.2.2.2.1 1 (by omega)]) ?_
          refine ww_aload_n dX11_look_67 rfl rfl ?_
          refine ww_get 44 dX11_look_68 hA.1.K0 rfl (by decide) inX11 wg_1284 hA.2.1 ?_
          refine ww_aload_n dX11_look_71 rfl rfl ?_
          refine ww_get 46 dX11_look_72 hA.1.K0 rfl (by decide) inX11 wg_1286 hA.1.F22 ?_
          refine ww_iload dX11_look_75 rfl ?_
          refine ww_ialdF dX11_look_77 hA.1.K22 rfl (by omega) (by omega) ?_
          refine ww_sk (st2 := [.int (nI (s.2.2 1)), .int (nI s.1), .int (nI (s.2.2 1))]) (by rw [hA.2.2.2.1 1 (by omega)]) ?_
          refine ww_isubN dX11_look_78 (by omega) ?_
          refine ww_icmp_leN (tgt := 92) dX11_look_79 (by decide) (by omega) (by omega) (fun c79 => ?_) (fun c79 => ?_)
          · refine ww_aload_n dX11_look_92 rfl rfl ?_
            refine ww_get 44 dX11_look_93 hA.1.K0 rfl (by decide) inX11 wg_1284 hA.2.1 ?_
            refine ww_aload_n dX11_look_96 rfl rfl ?_
            refine ww_get 46 dX11_look_97 hA.1.K0 rfl (by decide) inX11 wg_1286 hA.1.F22 ?_
            refine ww_iload dX11_look_100 rfl ?_
            refine ww_ialdF dX11_look_102 hA.1.K22 rfl (by omega) (by omega) ?_
            refine ww_sk (st2 := [.int (nI (s.2.2 1)), .int (nI s.1)]) (by rw [hA.2.2.2.1 1 (by omega)]) ?_
            refine ww_isubN dX11_look_103 (by omega) ?_
            refine ww_sk (st2 := [.int (nI (wsN s 1))]) (by rw [show s.1 - (s.2.2 1) = wsN s 1 by unfold wsN; omega]) ?_
            refine ww_sti (lv2 := [.ref m, .int (nI v), .int (nI k), .int (nI 0), .int (-1), .int (-1), .int (nI 1), .int (nI (wsN s 1))]) dX11_look_104 rfl (by decide) rfl ?_
            refine ww_iload dX11_look_106 rfl ?_
            refine ww_iconst (v := -1) dX11_look_108 (by decide) ?_
            refine ww_icmp_eq (tgt := 122) dX11_look_109 (by decide) (fun c109 => ?_) (fun c109 => ?_)
            · refine ww_iload dX11_look_122 rfl ?_
              refine ww_sti (lv2 := [.ref m, .int (nI v), .int (nI k), .int (nI 0), .int (nI 1), .int (-1), .int (nI 1), .int (nI (wsN s 1))]) dX11_look_124 rfl (by decide) rfl ?_
              refine ww_iload dX11_look_126 rfl ?_
              refine ww_sti (lv2 := [.ref m, .int (nI v), .int (nI k), .int (nI 0), .int (nI 1), .int (nI (wsN s 1)), .int (nI 1), .int (nI (wsN s 1))]) dX11_look_128 rfl (by decide) rfl ?_
              refine ww_incN (c := 1) (lv2 := [.ref m, .int (nI v), .int (nI k), .int (nI 0), .int (nI 1), .int (nI (wsN s 1)), .int (nI 2), .int (nI (wsN s 1))]) dX11_look_130 rfl rfl rfl (by decide) rfl ?_
              refine ww_goto (tgt := 53) dX11_look_133 (by decide) ?_
              refine ww_fg (lv2 := [.ref m, .int (nI v), .int (nI k), .int (nI 0), .int (nI 1), .int (nI (wsN s 1)), .int (nI 2), UU]) ⟨Or.inr rfl, Or.inr rfl, Or.inr rfl, Or.inr rfl, Or.inr rfl, Or.inr rfl, Or.inr rfl, Or.inl rfl, trivial⟩ ?_
              refine ww_lv (lv2 := [.ref m, .int (nI v), .int (nI k), .int (nI 0), .int (nI (btF s 0)), .int (nI (wsN s (btF s 0))), .int (nI (0 + 2)), UU]) rfl ?_
              refine l_M_look hst hA hG.1 (by omega) v k (nI 0) 59 0 rfl ?_
              refine ww_iload_n dX11_look_136 rfl rfl ?_
              refine ww_if_neN (tgt := 145) dX11_look_137 (by decide) (by omega) (fun c137 => ?_) (fun c137 => ?_)
              · exact absurd c137 (by decide)
              · refine ww_iload dX11_look_140 rfl ?_
                refine ww_goto (tgt := 147) dX11_look_142 (by decide) ?_
                exact ww_iret dX11_look_147 rfl ⟨rfl, hI0.2.2.2.1, hI0.2.2.2.2⟩
            · exact absurd c109 (by decide)
          · refine ww_aload_n dX11_look_82 rfl rfl ?_
            refine ww_get 46 dX11_look_83 hA.1.K0 rfl (by decide) inX11 wg_1286 hA.1.F22 ?_
            refine ww_iload dX11_look_86 rfl ?_
            refine ww_ialdF dX11_look_88 hA.1.K22 rfl (by omega) (by omega) ?_
            refine ww_sk (st2 := [.int (nI (s.2.2 1))]) (by rw [hA.2.2.2.1 1 (by omega)]) ?_
            refine ww_goto (tgt := 104) dX11_look_89 (by decide) ?_
            refine ww_sk (st2 := [.int (nI (wsN s 1))]) (by rw [show s.2.2 1 = wsN s 1 by unfold wsN; omega]) ?_
            refine ww_sti (lv2 := [.ref m, .int (nI v), .int (nI k), .int (nI 0), .int (-1), .int (-1), .int (nI 1), .int (nI (wsN s 1))]) dX11_look_104 rfl (by decide) rfl ?_
            refine ww_iload dX11_look_106 rfl ?_
            refine ww_iconst (v := -1) dX11_look_108 (by decide) ?_
            refine ww_icmp_eq (tgt := 122) dX11_look_109 (by decide) (fun c109 => ?_) (fun c109 => ?_)
            · refine ww_iload dX11_look_122 rfl ?_
              refine ww_sti (lv2 := [.ref m, .int (nI v), .int (nI k), .int (nI 0), .int (nI 1), .int (-1), .int (nI 1), .int (nI (wsN s 1))]) dX11_look_124 rfl (by decide) rfl ?_
              refine ww_iload dX11_look_126 rfl ?_
              refine ww_sti (lv2 := [.ref m, .int (nI v), .int (nI k), .int (nI 0), .int (nI 1), .int (nI (wsN s 1)), .int (nI 1), .int (nI (wsN s 1))]) dX11_look_128 rfl (by decide) rfl ?_
              refine ww_incN (c := 1) (lv2 := [.ref m, .int (nI v), .int (nI k), .int (nI 0), .int (nI 1), .int (nI (wsN s 1)), .int (nI 2), .int (nI (wsN s 1))]) dX11_look_130 rfl rfl rfl (by decide) rfl ?_
              refine ww_goto (tgt := 53) dX11_look_133 (by decide) ?_
              refine ww_fg (lv2 := [.ref m, .int (nI v), .int (nI k), .int (nI 0), .int (nI 1), .int (nI (wsN s 1)), .int (nI 2), UU]) ⟨Or.inr rfl, Or.inr rfl, Or.inr rfl, Or.inr rfl, Or.inr rfl, Or.inr rfl, Or.inr rfl, Or.inl rfl, trivial⟩ ?_
              refine ww_lv (lv2 := [.ref m, .int (nI v), .int (nI k), .int (nI 0), .int (nI (btF s 0)), .int (nI (wsN s (btF s 0))), .int (nI (0 + 2)), UU]) rfl ?_
              refine l_M_look hst hA hG.1 (by omega) v k (nI 0) 59 0 rfl ?_
              refine ww_iload_n dX11_look_136 rfl rfl ?_
              refine ww_if_neN (tgt := 145) dX11_look_137 (by decide) (by omega) (fun c137 => ?_) (fun c137 => ?_)
              · exact absurd c137 (by decide)
              · refine ww_iload dX11_look_140 rfl ?_
                refine ww_goto (tgt := 147) dX11_look_142 (by decide) ?_
                exact ww_iret dX11_look_147 rfl ⟨rfl, hI0.2.2.2.1, hI0.2.2.2.2⟩
            · exact absurd c109 (by decide)
      · exact absurd c33 (by decide)
set_option maxHeartbeats 4000000 in
set_option maxRecDepth 100000 in
theorem c_M_look1 {l : Launch} {Z : EE} (hst : l.stackTraces = false) {h : PH} {m : Nat} (hM : ModS h m) {f : Nat → Int32} (hf : hp_I h (m + 14) = f) {g : Nat → Int32} (hs : hp_I h (m + 15) = g) {sz : Nat} {kf vf : Nat → Int32} (hQ : LawM h m sz kf vf) (hok : LawOK kf vf sz) (v : Nat) (hv : v ≤ 297) (k : Nat) (lk : 1 ≤ k) (hk : k ≤ 3) : CC l Z m_X11_look 6 0 0 [.ref m, .int (nI v), .int (nI k), .int (nI 1)] h (MOk (nI (wsN (GM (frN f sz kf vf) v k mt0) (btF (GM (frN f sz kf vf) v k mt0) 59))) m h) := by
  refine ee_entry hst (by decide +kernel) rfl rfl (by simp [Value.category]) (Nat.le_of_ble_eq_true rfl) ?_
  refine ww_lv (lv2 := [.ref m, .int (nI v), .int (nI k), .int (nI 1), UU, UU, UU, UU]) rfl ?_
  refine ww_aload_n dX11_look_0 rfl rfl ?_
  refine ww_iconst (v := nI 0) dX11_look_1 (by decide) ?_
  refine ww_pfI tyX11 0 dX11_look_2 hM.K0 rfl (by decide) inX11 tyX11_ok nmX11 wg_1240 rfl rfl ?_
  refine ww_aload_n dX11_look_5 rfl rfl ?_
  refine ww_iload_n dX11_look_6 rfl rfl ?_
  refine ww_iload_n dX11_look_7 rfl rfl ?_
  refine ww_cSr (M := m_X11_look) (pc := 8) (v := .int (nI 1)) (h1 := hp_sF h m 0 (.int (nI 0))) (st := [.ref m]) (d := 6) (bc := 0) (bs := 0) (c_M_asked hst v hv k lk hk) vv_X11_isAsked dX11_look_8 wg_1682 rfl rfl rfl (Nat.le_of_ble_eq_true rfl) (Nat.le_of_ble_eq_true rfl) (Nat.le_of_ble_eq_true rfl) (Nat.le_of_ble_eq_true rfl) ?_
  refine ww_if_eqN (tgt := 27) dX11_look_11 (by decide) (by omega) (fun c11 => ?_) (fun c11 => ?_)
  · exact absurd c11 (by decide)
  · refine ww_iload_n dX11_look_14 rfl rfl ?_
    refine ww_iconst (v := nI 0) dX11_look_15 (by decide) ?_
    refine ww_iconst (v := nI 1) dX11_look_16 (by decide) ?_
    refine ww_cSr (M := m_X11_look) (pc := 17) (v := .int (nI 1)) (h1 := hp_sF h m 0 (.int (nI 0))) (st := [.ref m]) (d := 6) (bc := 0) (bs := 0) (c_M_within_t hst (nI 1) (nI 0) (nI 1) (by decide) (by decide) _) vv_X11_within dX11_look_17 wg_1601 rfl rfl rfl (Nat.le_of_ble_eq_true rfl) (Nat.le_of_ble_eq_true rfl) (Nat.le_of_ble_eq_true rfl) (Nat.le_of_ble_eq_true rfl) ?_
    refine ww_if_eqN (tgt := 27) dX11_look_20 (by decide) (by omega) (fun c20 => ?_) (fun c20 => ?_)
    · exact absurd c20 (by decide)
    · refine ww_iconst (v := nI 1) dX11_look_23 (by decide) ?_
      refine ww_goto (tgt := 28) dX11_look_24 (by decide) ?_
      refine ww_iconst (v := nI 1) dX11_look_28 (by decide) ?_
      refine ww_iconst (v := nI 1) dX11_look_29 (by decide) ?_
      refine ww_cVr (M := m_X11_look) (pc := 30) (v := .int (nI 1)) (h1 := hp_sF h m 0 (.int (nI 0))) (st := []) (d := 6) (bc := 0) (bs := 0) (c_M_may_t hst (h := hp_sF h m 0 (.int (nI 0))) (ModS.sF hM (by decide)) (hp_F_eq _ _ _ _) (nI 1) (nI 1)) vv_X11_may dX11_look_30 wg_1413 hM.K0 rfl rfl rfl rfl (Nat.le_of_ble_eq_true rfl) (Nat.le_of_ble_eq_true rfl) (Nat.le_of_ble_eq_true rfl) (Nat.le_of_ble_eq_true rfl) ?_
      refine ww_if_neN (tgt := 38) dX11_look_33 (by decide) (by omega) (fun c33 => ?_) (fun c33 => ?_)
      · refine ww_aload_n dX11_look_38 rfl rfl ?_
        refine ww_iload_n dX11_look_39 rfl rfl ?_
        refine ww_iload_n dX11_look_40 rfl rfl ?_
        have hQ0 : LawM (hp_sF h m 0 (.int (nI 0))) m sz kf vf := hQ.same (Same.rf.sF (SY0 m)) (SX_no (by decide)) (SX_no (by decide)) (SY_no (by decide))
        refine ww_cVq0 (M := m_X11_look) (pc := 41) (st := []) (d := 6) (bc := 0) (bs := 0) (c_M_fmean hst (h := hp_sF h m 0 (.int (nI 0))) (ModS.sF hM (by decide)) hf hs hQ0 hok v hv k lk hk (hp_F_eq _ _ _ _)) vv_X11_findMeant dX11_look_41 wg_1685 hM.K0 rfl rfl rfl rfl (Nat.le_of_ble_eq_true rfl) (Nat.le_of_ble_eq_true rfl) (Nat.le_of_ble_eq_true rfl) (Nat.le_of_ble_eq_true rfl) (fun hq0 qq0 => ?_)
        have hI0 : MI m sz kf vf (cpF f g 190) h hq0 := ⟨qq0.1.1, qq0.1.2.1, qq0.1.2.2.1, (Same.rf.sF (SY0 m)).tr qq0.1.2.2.2.1, qq0.1.2.2.2.2⟩
        have hA := qq0.2
        have hG := GM_g (frN f sz kf vf) v k
        generalize hse : GM (frN f sz kf vf) v k mt0 = s at hA hG ⊢
        refine ww_iconst (v := -1) dX11_look_44 (by decide) ?_
        refine ww_sti (lv2 := [.ref m, .int (nI v), .int (nI k), .int (nI 1), .int (-1), UU, UU, UU]) dX11_look_45 rfl (by decide) rfl ?_
        refine ww_iconst (v := -1) dX11_look_47 (by decide) ?_
        refine ww_sti (lv2 := [.ref m, .int (nI v), .int (nI k), .int (nI 1), .int (-1), .int (-1), UU, UU]) dX11_look_48 rfl (by decide) rfl ?_
        refine ww_iconst (v := nI 1) dX11_look_50 (by decide) ?_
        refine ww_sti (lv2 := [.ref m, .int (nI v), .int (nI k), .int (nI 1), .int (-1), .int (-1), .int (nI 1), UU]) dX11_look_51 rfl (by decide) rfl ?_
        have hw0 := hG.1.1 1
        have hw1 := wsN_le hG.1 1
        refine ww_iload dX11_look_53 rfl ?_
        refine ww_bipush (v := nI 61) dX11_look_55 (by decide) ?_
        refine ww_icmp_geN (tgt := 136) dX11_look_57 (by decide) (by omega) (by omega) (fun c57 => ?_) (fun c57 => ?_)
        · exfalso; omega
        · refine ww_aload_n dX11_look_60 rfl rfl ?_
          refine ww_get 46 dX11_look_61 hA.1.K0 rfl (by decide) inX11 wg_1286 hA.1.F22 ?_
          refine ww_iload dX11_look_64 rfl ?_
          refine ww_ialdF dX11_look_66 hA.1.K22 rfl (by omega) (by omega) ?_
          refine ww_sk (st2 := [.int (nI (s.2.2 1))]) (by rw [hA.2.2.2.1 1 (by omega)]) ?_
          refine ww_aload_n dX11_look_67 rfl rfl ?_
          refine ww_get 44 dX11_look_68 hA.1.K0 rfl (by decide) inX11 wg_1284 hA.2.1 ?_
          refine ww_aload_n dX11_look_71 rfl rfl ?_
          refine ww_get 46 dX11_look_72 hA.1.K0 rfl (by decide) inX11 wg_1286 hA.1.F22 ?_
          refine ww_iload dX11_look_75 rfl ?_
          refine ww_ialdF dX11_look_77 hA.1.K22 rfl (by omega) (by omega) ?_
          refine ww_sk (st2 := [.int (nI (s.2.2 1)), .int (nI s.1), .int (nI (s.2.2 1))]) (by rw [hA.2.2.2.1 1 (by omega)]) ?_
          refine ww_isubN dX11_look_78 (by omega) ?_
          refine ww_icmp_leN (tgt := 92) dX11_look_79 (by decide) (by omega) (by omega) (fun c79 => ?_) (fun c79 => ?_)
          · refine ww_aload_n dX11_look_92 rfl rfl ?_
            refine ww_get 44 dX11_look_93 hA.1.K0 rfl (by decide) inX11 wg_1284 hA.2.1 ?_
            refine ww_aload_n dX11_look_96 rfl rfl ?_
            refine ww_get 46 dX11_look_97 hA.1.K0 rfl (by decide) inX11 wg_1286 hA.1.F22 ?_
            refine ww_iload dX11_look_100 rfl ?_
            refine ww_ialdF dX11_look_102 hA.1.K22 rfl (by omega) (by omega) ?_
            refine ww_sk (st2 := [.int (nI (s.2.2 1)), .int (nI s.1)]) (by rw [hA.2.2.2.1 1 (by omega)]) ?_
            refine ww_isubN dX11_look_103 (by omega) ?_
            refine ww_sk (st2 := [.int (nI (wsN s 1))]) (by rw [show s.1 - (s.2.2 1) = wsN s 1 by unfold wsN; omega]) ?_
            refine ww_sti (lv2 := [.ref m, .int (nI v), .int (nI k), .int (nI 1), .int (-1), .int (-1), .int (nI 1), .int (nI (wsN s 1))]) dX11_look_104 rfl (by decide) rfl ?_
            refine ww_iload dX11_look_106 rfl ?_
            refine ww_iconst (v := -1) dX11_look_108 (by decide) ?_
            refine ww_icmp_eq (tgt := 122) dX11_look_109 (by decide) (fun c109 => ?_) (fun c109 => ?_)
            · refine ww_iload dX11_look_122 rfl ?_
              refine ww_sti (lv2 := [.ref m, .int (nI v), .int (nI k), .int (nI 1), .int (nI 1), .int (-1), .int (nI 1), .int (nI (wsN s 1))]) dX11_look_124 rfl (by decide) rfl ?_
              refine ww_iload dX11_look_126 rfl ?_
              refine ww_sti (lv2 := [.ref m, .int (nI v), .int (nI k), .int (nI 1), .int (nI 1), .int (nI (wsN s 1)), .int (nI 1), .int (nI (wsN s 1))]) dX11_look_128 rfl (by decide) rfl ?_
              refine ww_incN (c := 1) (lv2 := [.ref m, .int (nI v), .int (nI k), .int (nI 1), .int (nI 1), .int (nI (wsN s 1)), .int (nI 2), .int (nI (wsN s 1))]) dX11_look_130 rfl rfl rfl (by decide) rfl ?_
              refine ww_goto (tgt := 53) dX11_look_133 (by decide) ?_
              refine ww_fg (lv2 := [.ref m, .int (nI v), .int (nI k), .int (nI 1), .int (nI 1), .int (nI (wsN s 1)), .int (nI 2), UU]) ⟨Or.inr rfl, Or.inr rfl, Or.inr rfl, Or.inr rfl, Or.inr rfl, Or.inr rfl, Or.inr rfl, Or.inl rfl, trivial⟩ ?_
              refine ww_lv (lv2 := [.ref m, .int (nI v), .int (nI k), .int (nI 1), .int (nI (btF s 0)), .int (nI (wsN s (btF s 0))), .int (nI (0 + 2)), UU]) rfl ?_
              refine l_M_look hst hA hG.1 (by omega) v k (nI 1) 59 0 rfl ?_
              refine ww_iload_n dX11_look_136 rfl rfl ?_
              refine ww_if_neN (tgt := 145) dX11_look_137 (by decide) (by omega) (fun c137 => ?_) (fun c137 => ?_)
              · refine ww_iload dX11_look_145 rfl ?_
                exact ww_iret dX11_look_147 rfl ⟨rfl, hI0.2.2.2.1, hI0.2.2.2.2⟩
              · exact absurd c137 (by decide)
            · exact absurd c109 (by decide)
          · refine ww_aload_n dX11_look_82 rfl rfl ?_
            refine ww_get 46 dX11_look_83 hA.1.K0 rfl (by decide) inX11 wg_1286 hA.1.F22 ?_
            refine ww_iload dX11_look_86 rfl ?_
            refine ww_ialdF dX11_look_88 hA.1.K22 rfl (by omega) (by omega) ?_
            refine ww_sk (st2 := [.int (nI (s.2.2 1))]) (by rw [hA.2.2.2.1 1 (by omega)]) ?_
            refine ww_goto (tgt := 104) dX11_look_89 (by decide) ?_
            refine ww_sk (st2 := [.int (nI (wsN s 1))]) (by rw [show s.2.2 1 = wsN s 1 by unfold wsN; omega]) ?_
            refine ww_sti (lv2 := [.ref m, .int (nI v), .int (nI k), .int (nI 1), .int (-1), .int (-1), .int (nI 1), .int (nI (wsN s 1))]) dX11_look_104 rfl (by decide) rfl ?_
            refine ww_iload dX11_look_106 rfl ?_
            refine ww_iconst (v := -1) dX11_look_108 (by decide) ?_
            refine ww_icmp_eq (tgt := 122) dX11_look_109 (by decide) (fun c109 => ?_) (fun c109 => ?_)
            · refine ww_iload dX11_look_122 rfl ?_
              refine ww_sti (lv2 := [.ref m, .int (nI v), .int (nI k), .int (nI 1), .int (nI 1), .int (-1), .int (nI 1), .int (nI (wsN s 1))]) dX11_look_124 rfl (by decide) rfl ?_
              refine ww_iload dX11_look_126 rfl ?_
              refine ww_sti (lv2 := [.ref m, .int (nI v), .int (nI k), .int (nI 1), .int (nI 1), .int (nI (wsN s 1)), .int (nI 1), .int (nI (wsN s 1))]) dX11_look_128 rfl (by decide) rfl ?_
              refine ww_incN (c := 1) (lv2 := [.ref m, .int (nI v), .int (nI k), .int (nI 1), .int (nI 1), .int (nI (wsN s 1)), .int (nI 2), .int (nI (wsN s 1))]) dX11_look_130 rfl rfl rfl (by decide) rfl ?_
              refine ww_goto (tgt := 53) dX11_look_133 (by decide) ?_
              refine ww_fg (lv2 := [.ref m, .int (nI v), .int (nI k), .int (nI 1), .int (nI 1), .int (nI (wsN s 1)), .int (nI 2), UU]) ⟨Or.inr rfl, Or.inr rfl, Or.inr rfl, Or.inr rfl, Or.inr rfl, Or.inr rfl, Or.inr rfl, Or.inl rfl, trivial⟩ ?_
              refine ww_lv (lv2 := [.ref m, .int (nI v), .int (nI k), .int (nI 1), .int (nI (btF s 0)), .int (nI (wsN s (btF s 0))), .int (nI (0 + 2)), UU]) rfl ?_
              refine l_M_look hst hA hG.1 (by omega) v k (nI 1) 59 0 rfl ?_
              refine ww_iload_n dX11_look_136 rfl rfl ?_
              refine ww_if_neN (tgt := 145) dX11_look_137 (by decide) (by omega) (fun c137 => ?_) (fun c137 => ?_)
              · refine ww_iload dX11_look_145 rfl ?_
                exact ww_iret dX11_look_147 rfl ⟨rfl, hI0.2.2.2.1, hI0.2.2.2.2⟩
              · exact absurd c137 (by decide)
            · exact absurd c109 (by decide)
      · exact absurd c33 (by decide)
set_option maxHeartbeats 4000000 in
set_option maxRecDepth 100000 in
theorem c_M_meant_no0 {l : Launch} {Z : EE} (hst : l.stackTraces = false) {h : PH} {m : Nat} (hM : ModS h m) (v k w : Int32) (hout : outR 0 297 v) : CC l Z m_X11_meant 6 0 0 [.ref m, .int v, .int k, .int w] h (MNo 1 1 m h) := by
  refine ee_entry hst (by decide +kernel) rfl rfl (by simp [Value.category]) (Nat.le_of_ble_eq_true rfl) ?_
  refine ww_lv (lv2 := [.ref m, .int v, .int k, .int w]) rfl ?_
  refine ww_aload_n dX11_meant_0 rfl rfl ?_
  refine ww_iconst (v := nI 0) dX11_meant_1 (by decide) ?_
  refine ww_pfI tyX11 0 dX11_meant_2 hM.K0 rfl (by decide) inX11 tyX11_ok nmX11 wg_1240 rfl rfl ?_
  refine ww_aload_n dX11_meant_5 rfl rfl ?_
  refine ww_iload_n dX11_meant_6 rfl rfl ?_
  refine ww_iload_n dX11_meant_7 rfl rfl ?_
  refine ww_cSr (M := m_X11_meant) (pc := 8) (v := .int (nI 0)) (h1 := hp_sF h m 0 (.int (nI 0))) (st := [.ref m]) (d := 6) (bc := 0) (bs := 0) (c_M_asked0 hst v k hout) vv_X11_isAsked dX11_meant_8 wg_1682 rfl rfl rfl (Nat.le_of_ble_eq_true rfl) (Nat.le_of_ble_eq_true rfl) (Nat.le_of_ble_eq_true rfl) (Nat.le_of_ble_eq_true rfl) ?_
  refine ww_if_eqN (tgt := 27) dX11_meant_11 (by decide) (by omega) (fun c11 => ?_) (fun c11 => ?_)
  · refine ww_iconst (v := nI 0) dX11_meant_27 (by decide) ?_
    refine ww_iconst (v := nI 1) dX11_meant_28 (by decide) ?_
    refine ww_iconst (v := nI 1) dX11_meant_29 (by decide) ?_
    refine ww_cVr (M := m_X11_meant) (pc := 30) (v := .int (nI 0)) (h1 := hp_sI (hp_sF (hp_sF h m 0 (.int (nI 0))) m 0 (.int (nI 1))) (m + 1) (upd (hp_I (hp_sF h m 0 (.int (nI 0))) (m + 1)) 1 (hp_I (hp_sF h m 0 (.int (nI 0))) (m + 1) 1 + nI 1))) (st := []) (d := 6) (bc := 0) (bs := 0) (c_M_may_f hst (h := hp_sF h m 0 (.int (nI 0))) (ModS.sF hM (by decide)) (hp_F_eq _ _ _ _) 1 1 (by decide) (by decide) (by decide)) vv_X11_may dX11_meant_30 wg_1413 hM.K0 rfl rfl rfl rfl (Nat.le_of_ble_eq_true rfl) (Nat.le_of_ble_eq_true rfl) (Nat.le_of_ble_eq_true rfl) (Nat.le_of_ble_eq_true rfl) ?_
    refine ww_if_neN (tgt := 38) dX11_meant_33 (by decide) (by omega) (fun c33 => ?_) (fun c33 => ?_)
    · exact absurd c33 (by decide)
    · refine ww_iconst (v := nI 0) dX11_meant_36 (by decide) ?_
      exact ww_iret dX11_meant_37 rfl ⟨rfl, (((Same.rf.sF (SY0 m)).sF (SY0 m)).sI (Or.inr rfl)), (hp_F_sI (hp_F_eq _ _ _ _)), by rw [hp_I_eq]; rfl⟩
  · exact absurd c11 (by decide)
set_option maxHeartbeats 4000000 in
set_option maxRecDepth 100000 in
theorem c_M_meant_no1 {l : Launch} {Z : EE} (hst : l.stackTraces = false) {h : PH} {m : Nat} (hM : ModS h m) (v : Nat) (hv : v ≤ 297) (k w : Int32) (hout : outR 1 3 k) : CC l Z m_X11_meant 6 0 0 [.ref m, .int (nI v), .int k, .int w] h (MNo 1 1 m h) := by
  refine ee_entry hst (by decide +kernel) rfl rfl (by simp [Value.category]) (Nat.le_of_ble_eq_true rfl) ?_
  refine ww_lv (lv2 := [.ref m, .int (nI v), .int k, .int w]) rfl ?_
  refine ww_aload_n dX11_meant_0 rfl rfl ?_
  refine ww_iconst (v := nI 0) dX11_meant_1 (by decide) ?_
  refine ww_pfI tyX11 0 dX11_meant_2 hM.K0 rfl (by decide) inX11 tyX11_ok nmX11 wg_1240 rfl rfl ?_
  refine ww_aload_n dX11_meant_5 rfl rfl ?_
  refine ww_iload_n dX11_meant_6 rfl rfl ?_
  refine ww_iload_n dX11_meant_7 rfl rfl ?_
  refine ww_cSr (M := m_X11_meant) (pc := 8) (v := .int (nI 0)) (h1 := hp_sF h m 0 (.int (nI 0))) (st := [.ref m]) (d := 6) (bc := 0) (bs := 0) (c_M_asked1 hst v hv k hout) vv_X11_isAsked dX11_meant_8 wg_1682 rfl rfl rfl (Nat.le_of_ble_eq_true rfl) (Nat.le_of_ble_eq_true rfl) (Nat.le_of_ble_eq_true rfl) (Nat.le_of_ble_eq_true rfl) ?_
  refine ww_if_eqN (tgt := 27) dX11_meant_11 (by decide) (by omega) (fun c11 => ?_) (fun c11 => ?_)
  · refine ww_iconst (v := nI 0) dX11_meant_27 (by decide) ?_
    refine ww_iconst (v := nI 1) dX11_meant_28 (by decide) ?_
    refine ww_iconst (v := nI 1) dX11_meant_29 (by decide) ?_
    refine ww_cVr (M := m_X11_meant) (pc := 30) (v := .int (nI 0)) (h1 := hp_sI (hp_sF (hp_sF h m 0 (.int (nI 0))) m 0 (.int (nI 1))) (m + 1) (upd (hp_I (hp_sF h m 0 (.int (nI 0))) (m + 1)) 1 (hp_I (hp_sF h m 0 (.int (nI 0))) (m + 1) 1 + nI 1))) (st := []) (d := 6) (bc := 0) (bs := 0) (c_M_may_f hst (h := hp_sF h m 0 (.int (nI 0))) (ModS.sF hM (by decide)) (hp_F_eq _ _ _ _) 1 1 (by decide) (by decide) (by decide)) vv_X11_may dX11_meant_30 wg_1413 hM.K0 rfl rfl rfl rfl (Nat.le_of_ble_eq_true rfl) (Nat.le_of_ble_eq_true rfl) (Nat.le_of_ble_eq_true rfl) (Nat.le_of_ble_eq_true rfl) ?_
    refine ww_if_neN (tgt := 38) dX11_meant_33 (by decide) (by omega) (fun c33 => ?_) (fun c33 => ?_)
    · exact absurd c33 (by decide)
    · refine ww_iconst (v := nI 0) dX11_meant_36 (by decide) ?_
      exact ww_iret dX11_meant_37 rfl ⟨rfl, (((Same.rf.sF (SY0 m)).sF (SY0 m)).sI (Or.inr rfl)), (hp_F_sI (hp_F_eq _ _ _ _)), by rw [hp_I_eq]; rfl⟩
  · exact absurd c11 (by decide)
set_option maxHeartbeats 4000000 in
set_option maxRecDepth 100000 in
theorem c_M_meant_no2 {l : Launch} {Z : EE} (hst : l.stackTraces = false) {h : PH} {m : Nat} (hM : ModS h m) (v : Nat) (hv : v ≤ 297) (k : Nat) (lk : 1 ≤ k) (hk : k ≤ 3) (w : Int32) (hout : outR 0 1 w) : CC l Z m_X11_meant 6 0 0 [.ref m, .int (nI v), .int (nI k), .int w] h (MNo 1 1 m h) := by
  refine ee_entry hst (by decide +kernel) rfl rfl (by simp [Value.category]) (Nat.le_of_ble_eq_true rfl) ?_
  refine ww_lv (lv2 := [.ref m, .int (nI v), .int (nI k), .int w]) rfl ?_
  refine ww_aload_n dX11_meant_0 rfl rfl ?_
  refine ww_iconst (v := nI 0) dX11_meant_1 (by decide) ?_
  refine ww_pfI tyX11 0 dX11_meant_2 hM.K0 rfl (by decide) inX11 tyX11_ok nmX11 wg_1240 rfl rfl ?_
  refine ww_aload_n dX11_meant_5 rfl rfl ?_
  refine ww_iload_n dX11_meant_6 rfl rfl ?_
  refine ww_iload_n dX11_meant_7 rfl rfl ?_
  refine ww_cSr (M := m_X11_meant) (pc := 8) (v := .int (nI 1)) (h1 := hp_sF h m 0 (.int (nI 0))) (st := [.ref m]) (d := 6) (bc := 0) (bs := 0) (c_M_asked hst v hv k lk hk) vv_X11_isAsked dX11_meant_8 wg_1682 rfl rfl rfl (Nat.le_of_ble_eq_true rfl) (Nat.le_of_ble_eq_true rfl) (Nat.le_of_ble_eq_true rfl) (Nat.le_of_ble_eq_true rfl) ?_
  refine ww_if_eqN (tgt := 27) dX11_meant_11 (by decide) (by omega) (fun c11 => ?_) (fun c11 => ?_)
  · exact absurd c11 (by decide)
  · refine ww_iload_n dX11_meant_14 rfl rfl ?_
    refine ww_iconst (v := nI 0) dX11_meant_15 (by decide) ?_
    refine ww_iconst (v := nI 1) dX11_meant_16 (by decide) ?_
    refine ww_cSr (M := m_X11_meant) (pc := 17) (v := .int (nI 0)) (h1 := hp_sF h m 0 (.int (nI 0))) (st := [.ref m]) (d := 6) (bc := 0) (bs := 0) (c_M_within_f hst w (nI 0) (nI 1) hout _) vv_X11_within dX11_meant_17 wg_1601 rfl rfl rfl (Nat.le_of_ble_eq_true rfl) (Nat.le_of_ble_eq_true rfl) (Nat.le_of_ble_eq_true rfl) (Nat.le_of_ble_eq_true rfl) ?_
    refine ww_if_eqN (tgt := 27) dX11_meant_20 (by decide) (by omega) (fun c20 => ?_) (fun c20 => ?_)
    · refine ww_iconst (v := nI 0) dX11_meant_27 (by decide) ?_
      refine ww_iconst (v := nI 1) dX11_meant_28 (by decide) ?_
      refine ww_iconst (v := nI 1) dX11_meant_29 (by decide) ?_
      refine ww_cVr (M := m_X11_meant) (pc := 30) (v := .int (nI 0)) (h1 := hp_sI (hp_sF (hp_sF h m 0 (.int (nI 0))) m 0 (.int (nI 1))) (m + 1) (upd (hp_I (hp_sF h m 0 (.int (nI 0))) (m + 1)) 1 (hp_I (hp_sF h m 0 (.int (nI 0))) (m + 1) 1 + nI 1))) (st := []) (d := 6) (bc := 0) (bs := 0) (c_M_may_f hst (h := hp_sF h m 0 (.int (nI 0))) (ModS.sF hM (by decide)) (hp_F_eq _ _ _ _) 1 1 (by decide) (by decide) (by decide)) vv_X11_may dX11_meant_30 wg_1413 hM.K0 rfl rfl rfl rfl (Nat.le_of_ble_eq_true rfl) (Nat.le_of_ble_eq_true rfl) (Nat.le_of_ble_eq_true rfl) (Nat.le_of_ble_eq_true rfl) ?_
      refine ww_if_neN (tgt := 38) dX11_meant_33 (by decide) (by omega) (fun c33 => ?_) (fun c33 => ?_)
      · exact absurd c33 (by decide)
      · refine ww_iconst (v := nI 0) dX11_meant_36 (by decide) ?_
        exact ww_iret dX11_meant_37 rfl ⟨rfl, (((Same.rf.sF (SY0 m)).sF (SY0 m)).sI (Or.inr rfl)), (hp_F_sI (hp_F_eq _ _ _ _)), by rw [hp_I_eq]; rfl⟩
    · exact absurd c20 (by decide)
set_option maxHeartbeats 4000000 in
set_option maxRecDepth 100000 in
theorem c_M_look_no0 {l : Launch} {Z : EE} (hst : l.stackTraces = false) {h : PH} {m : Nat} (hM : ModS h m) (v k w : Int32) (hout : outR 0 297 v) : CC l Z m_X11_look 6 0 0 [.ref m, .int v, .int k, .int w] h (MNo 1 1 m h) := by
  refine ee_entry hst (by decide +kernel) rfl rfl (by simp [Value.category]) (Nat.le_of_ble_eq_true rfl) ?_
  refine ww_lv (lv2 := [.ref m, .int v, .int k, .int w, UU, UU, UU, UU]) rfl ?_
  refine ww_aload_n dX11_look_0 rfl rfl ?_
  refine ww_iconst (v := nI 0) dX11_look_1 (by decide) ?_
  refine ww_pfI tyX11 0 dX11_look_2 hM.K0 rfl (by decide) inX11 tyX11_ok nmX11 wg_1240 rfl rfl ?_
  refine ww_aload_n dX11_look_5 rfl rfl ?_
  refine ww_iload_n dX11_look_6 rfl rfl ?_
  refine ww_iload_n dX11_look_7 rfl rfl ?_
  refine ww_cSr (M := m_X11_look) (pc := 8) (v := .int (nI 0)) (h1 := hp_sF h m 0 (.int (nI 0))) (st := [.ref m]) (d := 6) (bc := 0) (bs := 0) (c_M_asked0 hst v k hout) vv_X11_isAsked dX11_look_8 wg_1682 rfl rfl rfl (Nat.le_of_ble_eq_true rfl) (Nat.le_of_ble_eq_true rfl) (Nat.le_of_ble_eq_true rfl) (Nat.le_of_ble_eq_true rfl) ?_
  refine ww_if_eqN (tgt := 27) dX11_look_11 (by decide) (by omega) (fun c11 => ?_) (fun c11 => ?_)
  · refine ww_iconst (v := nI 0) dX11_look_27 (by decide) ?_
    refine ww_iconst (v := nI 1) dX11_look_28 (by decide) ?_
    refine ww_iconst (v := nI 1) dX11_look_29 (by decide) ?_
    refine ww_cVr (M := m_X11_look) (pc := 30) (v := .int (nI 0)) (h1 := hp_sI (hp_sF (hp_sF h m 0 (.int (nI 0))) m 0 (.int (nI 1))) (m + 1) (upd (hp_I (hp_sF h m 0 (.int (nI 0))) (m + 1)) 1 (hp_I (hp_sF h m 0 (.int (nI 0))) (m + 1) 1 + nI 1))) (st := []) (d := 6) (bc := 0) (bs := 0) (c_M_may_f hst (h := hp_sF h m 0 (.int (nI 0))) (ModS.sF hM (by decide)) (hp_F_eq _ _ _ _) 1 1 (by decide) (by decide) (by decide)) vv_X11_may dX11_look_30 wg_1413 hM.K0 rfl rfl rfl rfl (Nat.le_of_ble_eq_true rfl) (Nat.le_of_ble_eq_true rfl) (Nat.le_of_ble_eq_true rfl) (Nat.le_of_ble_eq_true rfl) ?_
    refine ww_if_neN (tgt := 38) dX11_look_33 (by decide) (by omega) (fun c33 => ?_) (fun c33 => ?_)
    · exact absurd c33 (by decide)
    · refine ww_iconst (v := nI 0) dX11_look_36 (by decide) ?_
      exact ww_iret dX11_look_37 rfl ⟨rfl, (((Same.rf.sF (SY0 m)).sF (SY0 m)).sI (Or.inr rfl)), (hp_F_sI (hp_F_eq _ _ _ _)), by rw [hp_I_eq]; rfl⟩
  · exact absurd c11 (by decide)
set_option maxHeartbeats 4000000 in
set_option maxRecDepth 100000 in
theorem c_M_look_no1 {l : Launch} {Z : EE} (hst : l.stackTraces = false) {h : PH} {m : Nat} (hM : ModS h m) (v : Nat) (hv : v ≤ 297) (k w : Int32) (hout : outR 1 3 k) : CC l Z m_X11_look 6 0 0 [.ref m, .int (nI v), .int k, .int w] h (MNo 1 1 m h) := by
  refine ee_entry hst (by decide +kernel) rfl rfl (by simp [Value.category]) (Nat.le_of_ble_eq_true rfl) ?_
  refine ww_lv (lv2 := [.ref m, .int (nI v), .int k, .int w, UU, UU, UU, UU]) rfl ?_
  refine ww_aload_n dX11_look_0 rfl rfl ?_
  refine ww_iconst (v := nI 0) dX11_look_1 (by decide) ?_
  refine ww_pfI tyX11 0 dX11_look_2 hM.K0 rfl (by decide) inX11 tyX11_ok nmX11 wg_1240 rfl rfl ?_
  refine ww_aload_n dX11_look_5 rfl rfl ?_
  refine ww_iload_n dX11_look_6 rfl rfl ?_
  refine ww_iload_n dX11_look_7 rfl rfl ?_
  refine ww_cSr (M := m_X11_look) (pc := 8) (v := .int (nI 0)) (h1 := hp_sF h m 0 (.int (nI 0))) (st := [.ref m]) (d := 6) (bc := 0) (bs := 0) (c_M_asked1 hst v hv k hout) vv_X11_isAsked dX11_look_8 wg_1682 rfl rfl rfl (Nat.le_of_ble_eq_true rfl) (Nat.le_of_ble_eq_true rfl) (Nat.le_of_ble_eq_true rfl) (Nat.le_of_ble_eq_true rfl) ?_
  refine ww_if_eqN (tgt := 27) dX11_look_11 (by decide) (by omega) (fun c11 => ?_) (fun c11 => ?_)
  · refine ww_iconst (v := nI 0) dX11_look_27 (by decide) ?_
    refine ww_iconst (v := nI 1) dX11_look_28 (by decide) ?_
    refine ww_iconst (v := nI 1) dX11_look_29 (by decide) ?_
    refine ww_cVr (M := m_X11_look) (pc := 30) (v := .int (nI 0)) (h1 := hp_sI (hp_sF (hp_sF h m 0 (.int (nI 0))) m 0 (.int (nI 1))) (m + 1) (upd (hp_I (hp_sF h m 0 (.int (nI 0))) (m + 1)) 1 (hp_I (hp_sF h m 0 (.int (nI 0))) (m + 1) 1 + nI 1))) (st := []) (d := 6) (bc := 0) (bs := 0) (c_M_may_f hst (h := hp_sF h m 0 (.int (nI 0))) (ModS.sF hM (by decide)) (hp_F_eq _ _ _ _) 1 1 (by decide) (by decide) (by decide)) vv_X11_may dX11_look_30 wg_1413 hM.K0 rfl rfl rfl rfl (Nat.le_of_ble_eq_true rfl) (Nat.le_of_ble_eq_true rfl) (Nat.le_of_ble_eq_true rfl) (Nat.le_of_ble_eq_true rfl) ?_
    refine ww_if_neN (tgt := 38) dX11_look_33 (by decide) (by omega) (fun c33 => ?_) (fun c33 => ?_)
    · exact absurd c33 (by decide)
    · refine ww_iconst (v := nI 0) dX11_look_36 (by decide) ?_
      exact ww_iret dX11_look_37 rfl ⟨rfl, (((Same.rf.sF (SY0 m)).sF (SY0 m)).sI (Or.inr rfl)), (hp_F_sI (hp_F_eq _ _ _ _)), by rw [hp_I_eq]; rfl⟩
  · exact absurd c11 (by decide)
set_option maxHeartbeats 4000000 in
set_option maxRecDepth 100000 in
theorem c_M_look_no2 {l : Launch} {Z : EE} (hst : l.stackTraces = false) {h : PH} {m : Nat} (hM : ModS h m) (v : Nat) (hv : v ≤ 297) (k : Nat) (lk : 1 ≤ k) (hk : k ≤ 3) (w : Int32) (hout : outR 0 1 w) : CC l Z m_X11_look 6 0 0 [.ref m, .int (nI v), .int (nI k), .int w] h (MNo 1 1 m h) := by
  refine ee_entry hst (by decide +kernel) rfl rfl (by simp [Value.category]) (Nat.le_of_ble_eq_true rfl) ?_
  refine ww_lv (lv2 := [.ref m, .int (nI v), .int (nI k), .int w, UU, UU, UU, UU]) rfl ?_
  refine ww_aload_n dX11_look_0 rfl rfl ?_
  refine ww_iconst (v := nI 0) dX11_look_1 (by decide) ?_
  refine ww_pfI tyX11 0 dX11_look_2 hM.K0 rfl (by decide) inX11 tyX11_ok nmX11 wg_1240 rfl rfl ?_
  refine ww_aload_n dX11_look_5 rfl rfl ?_
  refine ww_iload_n dX11_look_6 rfl rfl ?_
  refine ww_iload_n dX11_look_7 rfl rfl ?_
  refine ww_cSr (M := m_X11_look) (pc := 8) (v := .int (nI 1)) (h1 := hp_sF h m 0 (.int (nI 0))) (st := [.ref m]) (d := 6) (bc := 0) (bs := 0) (c_M_asked hst v hv k lk hk) vv_X11_isAsked dX11_look_8 wg_1682 rfl rfl rfl (Nat.le_of_ble_eq_true rfl) (Nat.le_of_ble_eq_true rfl) (Nat.le_of_ble_eq_true rfl) (Nat.le_of_ble_eq_true rfl) ?_
  refine ww_if_eqN (tgt := 27) dX11_look_11 (by decide) (by omega) (fun c11 => ?_) (fun c11 => ?_)
  · exact absurd c11 (by decide)
  · refine ww_iload_n dX11_look_14 rfl rfl ?_
    refine ww_iconst (v := nI 0) dX11_look_15 (by decide) ?_
    refine ww_iconst (v := nI 1) dX11_look_16 (by decide) ?_
    refine ww_cSr (M := m_X11_look) (pc := 17) (v := .int (nI 0)) (h1 := hp_sF h m 0 (.int (nI 0))) (st := [.ref m]) (d := 6) (bc := 0) (bs := 0) (c_M_within_f hst w (nI 0) (nI 1) hout _) vv_X11_within dX11_look_17 wg_1601 rfl rfl rfl (Nat.le_of_ble_eq_true rfl) (Nat.le_of_ble_eq_true rfl) (Nat.le_of_ble_eq_true rfl) (Nat.le_of_ble_eq_true rfl) ?_
    refine ww_if_eqN (tgt := 27) dX11_look_20 (by decide) (by omega) (fun c20 => ?_) (fun c20 => ?_)
    · refine ww_iconst (v := nI 0) dX11_look_27 (by decide) ?_
      refine ww_iconst (v := nI 1) dX11_look_28 (by decide) ?_
      refine ww_iconst (v := nI 1) dX11_look_29 (by decide) ?_
      refine ww_cVr (M := m_X11_look) (pc := 30) (v := .int (nI 0)) (h1 := hp_sI (hp_sF (hp_sF h m 0 (.int (nI 0))) m 0 (.int (nI 1))) (m + 1) (upd (hp_I (hp_sF h m 0 (.int (nI 0))) (m + 1)) 1 (hp_I (hp_sF h m 0 (.int (nI 0))) (m + 1) 1 + nI 1))) (st := []) (d := 6) (bc := 0) (bs := 0) (c_M_may_f hst (h := hp_sF h m 0 (.int (nI 0))) (ModS.sF hM (by decide)) (hp_F_eq _ _ _ _) 1 1 (by decide) (by decide) (by decide)) vv_X11_may dX11_look_30 wg_1413 hM.K0 rfl rfl rfl rfl (Nat.le_of_ble_eq_true rfl) (Nat.le_of_ble_eq_true rfl) (Nat.le_of_ble_eq_true rfl) (Nat.le_of_ble_eq_true rfl) ?_
      refine ww_if_neN (tgt := 38) dX11_look_33 (by decide) (by omega) (fun c33 => ?_) (fun c33 => ?_)
      · exact absurd c33 (by decide)
      · refine ww_iconst (v := nI 0) dX11_look_36 (by decide) ?_
        exact ww_iret dX11_look_37 rfl ⟨rfl, (((Same.rf.sF (SY0 m)).sF (SY0 m)).sI (Or.inr rfl)), (hp_F_sI (hp_F_eq _ _ _ _)), by rw [hp_I_eq]; rfl⟩
    · exact absurd c20 (by decide)
