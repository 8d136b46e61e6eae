/-! ===== the law's wrappers: what they catch, what they lay out ===== -/
section WWXP
variable {l : Launch} {Z : EE} {M : MM} {d pc : Nat} {lv st : List Value} {h : PH} {Post : Res → PH → Prop}
theorem ww_cVn {N : MM} {a t nn idx n d' mc' ms' : Nat} {T : u_T} {As stk : List Value} {P' : Res → PH → Prop} (hC : CC l Z N d' mc' ms' ((.ref a) :: As) h P') (hV : mm_V N n) (hd : decode (mm_c M) pc = .ok (.invokevirtual idx, 3)) (w1 : Cond.methodLink (mm_own M) idx (mm_y N) ∈ TG) (hk : hp_K h a = (t, nn)) (hc : vwCl[t]? = some ((mm_y N).cls, T, nn)) (hn : As.length = n) (hs : stk = As.reverse ++ (.ref a) :: st) (hdd : d' + 1 ≤ d) (hcat : (st.map fun v => v.category).sum ≤ 8) (hno : ∀ E h', ¬ P' (.inr E) h')
    (kk : ∀ v h', P' (.inl v) h' → WW l Z M d 0 0 (pc + 3) lv (v.toList ++ st) h' Post) : WW l Z M d mc' ms' pc lv stk h Post := by
  obtain ⟨v1, v2, v3, v4, v5, v6, v7⟩ := hV
  subst hs
  exact ww_mono (bc2 := 0 + mc') (bs2 := 0 + ms') (by omega) (by omega) (ww_callVn hC hd hno v7 hk hc v1 hn w1 v2 v3 v4 v5 hdd v6 hcat kk)
theorem ww_cVx {N : MM} {a t nn idx n d' mc' ms' : Nat} {T : u_T} {As stk : List Value} {h1 : PH} {E0 : String} (hC : CC l Z N d' mc' ms' ((.ref a) :: As) h (TH E0 h1)) (hV : mm_V N n) (hd : decode (mm_c M) pc = .ok (.invokevirtual idx, 3)) (w1 : Cond.methodLink (mm_own M) idx (mm_y N) ∈ TG) (hk : hp_K h a = (t, nn)) (hc : vwCl[t]? = some ((mm_y N).cls, T, nn)) (hn : As.length = n) (hs : stk = As.reverse ++ (.ref a) :: st) (hdd : d' + 1 ≤ d) (hcat : (st.map fun v => v.category).sum ≤ 8) (pre : List (Nat × Nat × Nat × Nat)) (x : Nat × Nat × Nat × Nat) (suf : List (Nat × Nat × Nat × Nat)) (hsp : mm_h M = pre ++ x :: suf) (hpass : pre = [] ∨ ∃ z, pre = [z] ∧ z.2.2.2 ≠ 0 ∧ Cond.classLink (mm_own M) z.2.2.2 "java/util/NoSuchElementException" ∈ TG ∧ E0 = "java/lang/IllegalArgumentException") (hcov : covers ⟨x.1, x.2.1, x.2.2.1, x.2.2.2⟩ pc = true) (hx0 : x.2.2.2 ≠ 0) {nm : String} (hlk : Cond.classLink (mm_own M) x.2.2.2 nm ∈ TG) (hcst : Cond.castable E0 nm ∈ TN) {i ln : Nat} (hil : i < mm_L M) (hq9 : ee_nl lv i = true) (hda : decode (mm_c M) x.2.2.1 = .ok (.astore i, 2) ∧ ln = 2 ∨ ∃ k : Fin 4, (k : Nat) = i ∧ decode (mm_c M) x.2.2.1 = .ok (.astore_n k, 1) ∧ ln = 1)
    (kx : WW l Z M d 0 0 (x.2.2.1 + ln) (lv.set i UU) [] h1 Post) : WW l Z M d mc' ms' pc lv stk h Post := by
  obtain ⟨v1, v2, v3, v4, v5, v6, v7⟩ := hV
  subst hs
  exact ww_mono (bc2 := 0 + mc') (bs2 := 0 + ms') (by omega) (by omega) (ww_callVx hC hd (fun v h' q => by cases q.1) (fun E h' q => by cases q.1; rfl) pre x suf hsp hpass hcov hx0 hlk hcst hil hq9 hda v7 hk hc v1 hn w1 v2 v3 v4 v5 hdd v6 hcat (fun h' q => by obtain ⟨-, rfl⟩ := q; exact kx))
/-- a static method with handlers, that never throws -/
def mm_X (N : MM) (n : Nat) : Prop := mm_ok N n ∧ Cond.static (mm_y N) ∈ TG ∧ Cond.initialized (mm_y N).cls ∈ TG ∧ Cond.codeWith (mm_y N) (mm_c N) (mm_L N) (mm_r N) (mm_h N) ∈ TG ∧ mm_L N ≤ 41 ∧ mm_h N ≠ []
theorem ww_cSXq {N : MM} {bc bs idx n d' mc' ms' : Nat} {As stk : List Value} {v : Value} {Q : PH → Prop} (hC : CC l Z N d' mc' ms' As h (RQ (some v) Q)) (hV : mm_X N n) (hd : decode (mm_c M) pc = .ok (.invokestatic idx, 3)) (w1 : Cond.methodLink (mm_own M) idx (mm_y N) ∈ TG) (hn : As.length = n) (hs : stk = As.reverse ++ st) (hdd : d' + 1 ≤ d) (hcat : (st.map fun v => v.category).sum ≤ 8) {bc0 bs0 : Nat} (hbc : bc + mc' ≤ bc0) (hbs : bs + ms' ≤ bs0)
    (kk : ∀ h1, Q h1 → WW l Z M d bc bs (pc + 3) lv (v :: st) h1 Post) : WW l Z M d bc0 bs0 pc lv stk h Post := by
  obtain ⟨v1, v2, v4, v5, v6, v7⟩ := hV
  subst hs
  exact ww_mono hbc hbs (ww_callSX hC hd (fun E h' q => by cases q.1) v7 v1 hn w1 v2 v4 v5 hdd v6 hcat (fun v9 h9 hp => by obtain ⟨e1, q⟩ := hp; cases e1; exact kk _ q))
end WWXP
/-- the answer is laid out -/
def outS (h : PH) (v : Int32) : PH := hp_sL h 72 (vp_updL (hp_L h 72) 0 v.toInt64)
set_option maxHeartbeats 4000000 in
theorem c_L_land_k {l : Launch} {Z : EE} (hst : l.stackTraces = false) {h : PH} {p0 : Int32} {d mc ms : Nat} {P' : Res → PH → Prop} {v : Int32} (hC : CC l Z m_X10_land d mc ms [.ref 0, .int p0] h P') (hK : hp_K h 0 = (10, 19)) (hP : ∀ r h', P' r h' → r = .inl (some (.int v)) ∧ hp_K h' 72 = (21, 1)) : CC l Z m_L_land (d + 1) mc ms [.ref 0, .int p0, .ref 72] h (RQ (some (.int (nI 0))) (fun h9 => ∃ h', P' (.inl (some (.int v))) h' ∧ h9 = outS h' v)) := by
  refine ee_entryH hst (by decide +kernel) rfl (by decide) (by simp [Value.category]) (Nat.le_of_ble_eq_true rfl) ?_
  refine ww_lv (lv2 := [.ref 0, .int p0, .ref 72, UU]) rfl ?_
  refine ww_aload_n dL_land_0 rfl rfl ?_
  refine ww_iconst (v := nI 0) dL_land_1 (by decide) ?_
  refine ww_aload_n dL_land_2 rfl rfl ?_
  refine ww_iload_n dL_land_3 rfl rfl ?_
  refine ww_cVn (M := m_L_land) (pc := 4) (st := [.int (nI 0), .ref 72]) (As := [.int p0]) hC vv_X10_land dL_land_4 wg_406 hK rfl rfl rfl (Nat.le_refl _) (Nat.le_of_ble_eq_true rfl) (fun E h9 q => by cases (hP _ _ q).1) (fun v9 h9 q => ?_)
  obtain ⟨e9, k9⟩ := hP _ _ q
  cases e9
  refine ww_i2l dL_land_7 ?_
  refine ww_lastN dL_land_8 k9 (by decide) (by decide) ?_
  refine ww_goto (tgt := 15) dL_land_9 (by decide) ?_
  refine ww_iconst (v := nI 0) dL_land_15 (by decide) ?_
  exact ww_iret dL_land_16 rfl ⟨rfl, h9, q, rfl⟩
set_option maxHeartbeats 4000000 in
theorem c_L_land_ia {l : Launch} {Z : EE} (hst : l.stackTraces = false) {h : PH} {p0 : Int32} {d mc ms : Nat} {h1 : PH} (hC : CC l Z m_X10_land d mc ms [.ref 0, .int p0] h (TH iaX h1)) (hK : hp_K h 0 = (10, 19)) : CC l Z m_L_land (d + 1) mc ms [.ref 0, .int p0, .ref 72] h (RQ (some (.int (nI 1))) (fun h9 => h9 = h1)) := by
  refine ee_entryH hst (by decide +kernel) rfl (by decide) (by simp [Value.category]) (Nat.le_of_ble_eq_true rfl) ?_
  refine ww_lv (lv2 := [.ref 0, .int p0, .ref 72, UU]) rfl ?_
  refine ww_aload_n dL_land_0 rfl rfl ?_
  refine ww_iconst (v := nI 0) dL_land_1 (by decide) ?_
  refine ww_aload_n dL_land_2 rfl rfl ?_
  refine ww_iload_n dL_land_3 rfl rfl ?_
  refine ww_cVx (M := m_L_land) (pc := 4) (st := [.int (nI 0), .ref 72]) (As := [.int p0]) hC vv_X10_land dL_land_4 wg_406 hK rfl rfl rfl (Nat.le_refl _) (Nat.le_of_ble_eq_true rfl) [] (0, 9, 12, 13) [] rfl (Or.inl rfl) (by decide) (by decide) wg_405 wn_416 (i := 3) (ln := 1) (by decide) rfl (Or.inr ⟨_, rfl, dL_land_12, rfl⟩) ?_
  refine ww_iconst (v := nI 1) (pc := 13) dL_land_13 (by decide) ?_
  exact ww_iret dL_land_14 rfl ⟨rfl, rfl⟩
theorem vx_L_land : mm_X m_L_land 3 := ⟨⟨by decide +kernel, by decide +kernel, by decide +kernel⟩, wg_403, wg_0, wg_404, by decide, by decide⟩
set_option maxHeartbeats 4000000 in
theorem c_L_law_k {l : Launch} {Z : EE} (hst : l.stackTraces = false) {h : PH} {p0 : Int32} {d mc ms : Nat} {P' : Res → PH → Prop} {v : Int32} (hC : CC l Z m_X10_law d mc ms [.ref 0, .int p0] h P') (hK : hp_K h 0 = (10, 19)) (hP : ∀ r h', P' r h' → r = .inl (some (.int v)) ∧ hp_K h' 72 = (21, 1)) : CC l Z m_L_law (d + 1) mc ms [.ref 0, .int p0, .ref 72] h (RQ (some (.int (nI 0))) (fun h9 => ∃ h', P' (.inl (some (.int v))) h' ∧ h9 = outS h' v)) := by
  refine ee_entryH hst (by decide +kernel) rfl (by decide) (by simp [Value.category]) (Nat.le_of_ble_eq_true rfl) ?_
  refine ww_lv (lv2 := [.ref 0, .int p0, .ref 72, UU]) rfl ?_
  refine ww_aload_n dL_law_0 rfl rfl ?_
  refine ww_iconst (v := nI 0) dL_law_1 (by decide) ?_
  refine ww_aload_n dL_law_2 rfl rfl ?_
  refine ww_iload_n dL_law_3 rfl rfl ?_
  refine ww_cVn (M := m_L_law) (pc := 4) (st := [.int (nI 0), .ref 72]) (As := [.int p0]) hC vv_X10_law dL_law_4 wg_599 hK rfl rfl rfl (Nat.le_refl _) (Nat.le_of_ble_eq_true rfl) (fun E h9 q => by cases (hP _ _ q).1) (fun v9 h9 q => ?_)
  obtain ⟨e9, k9⟩ := hP _ _ q
  cases e9
  refine ww_i2l dL_law_7 ?_
  refine ww_lastN dL_law_8 k9 (by decide) (by decide) ?_
  refine ww_goto (tgt := 15) dL_law_9 (by decide) ?_
  refine ww_iconst (v := nI 0) dL_law_15 (by decide) ?_
  exact ww_iret dL_law_16 rfl ⟨rfl, h9, q, rfl⟩
set_option maxHeartbeats 4000000 in
theorem c_L_law_ia {l : Launch} {Z : EE} (hst : l.stackTraces = false) {h : PH} {p0 : Int32} {d mc ms : Nat} {h1 : PH} (hC : CC l Z m_X10_law d mc ms [.ref 0, .int p0] h (TH iaX h1)) (hK : hp_K h 0 = (10, 19)) : CC l Z m_L_law (d + 1) mc ms [.ref 0, .int p0, .ref 72] h (RQ (some (.int (nI 1))) (fun h9 => h9 = h1)) := by
  refine ee_entryH hst (by decide +kernel) rfl (by decide) (by simp [Value.category]) (Nat.le_of_ble_eq_true rfl) ?_
  refine ww_lv (lv2 := [.ref 0, .int p0, .ref 72, UU]) rfl ?_
  refine ww_aload_n dL_law_0 rfl rfl ?_
  refine ww_iconst (v := nI 0) dL_law_1 (by decide) ?_
  refine ww_aload_n dL_law_2 rfl rfl ?_
  refine ww_iload_n dL_law_3 rfl rfl ?_
  refine ww_cVx (M := m_L_law) (pc := 4) (st := [.int (nI 0), .ref 72]) (As := [.int p0]) hC vv_X10_law dL_law_4 wg_599 hK rfl rfl rfl (Nat.le_refl _) (Nat.le_of_ble_eq_true rfl) [] (0, 9, 12, 13) [] rfl (Or.inl rfl) (by decide) (by decide) wg_405 wn_416 (i := 3) (ln := 1) (by decide) rfl (Or.inr ⟨_, rfl, dL_law_12, rfl⟩) ?_
  refine ww_iconst (v := nI 1) (pc := 13) dL_law_13 (by decide) ?_
  exact ww_iret dL_law_14 rfl ⟨rfl, rfl⟩
theorem vx_L_law : mm_X m_L_law 3 := ⟨⟨by decide +kernel, by decide +kernel, by decide +kernel⟩, wg_597, wg_0, wg_598, by decide, by decide⟩
set_option maxHeartbeats 4000000 in
theorem c_L_work_k {l : Launch} {Z : EE} (hst : l.stackTraces = false) {h : PH} {p0 : Int32} {d mc ms : Nat} {P' : Res → PH → Prop} {v : Int32} (hC : CC l Z m_X10_work d mc ms [.ref 0, .int p0] h P') (hK : hp_K h 0 = (10, 19)) (hP : ∀ r h', P' r h' → r = .inl (some (.int v)) ∧ hp_K h' 72 = (21, 1)) : CC l Z m_L_work (d + 1) mc ms [.ref 0, .int p0, .ref 72] h (RQ (some (.int (nI 0))) (fun h9 => ∃ h', P' (.inl (some (.int v))) h' ∧ h9 = outS h' v)) := by
  refine ee_entryH hst (by decide +kernel) rfl (by decide) (by simp [Value.category]) (Nat.le_of_ble_eq_true rfl) ?_
  refine ww_lv (lv2 := [.ref 0, .int p0, .ref 72, UU]) rfl ?_
  refine ww_aload_n dL_work_0 rfl rfl ?_
  refine ww_iconst (v := nI 0) dL_work_1 (by decide) ?_
  refine ww_aload_n dL_work_2 rfl rfl ?_
  refine ww_iload_n dL_work_3 rfl rfl ?_
  refine ww_cVn (M := m_L_work) (pc := 4) (st := [.int (nI 0), .ref 72]) (As := [.int p0]) hC vv_X10_work dL_work_4 wg_641 hK rfl rfl rfl (Nat.le_refl _) (Nat.le_of_ble_eq_true rfl) (fun E h9 q => by cases (hP _ _ q).1) (fun v9 h9 q => ?_)
  obtain ⟨e9, k9⟩ := hP _ _ q
  cases e9
  refine ww_i2l dL_work_7 ?_
  refine ww_lastN dL_work_8 k9 (by decide) (by decide) ?_
  refine ww_goto (tgt := 15) dL_work_9 (by decide) ?_
  refine ww_iconst (v := nI 0) dL_work_15 (by decide) ?_
  exact ww_iret dL_work_16 rfl ⟨rfl, h9, q, rfl⟩
set_option maxHeartbeats 4000000 in
theorem c_L_work_ia {l : Launch} {Z : EE} (hst : l.stackTraces = false) {h : PH} {p0 : Int32} {d mc ms : Nat} {h1 : PH} (hC : CC l Z m_X10_work d mc ms [.ref 0, .int p0] h (TH iaX h1)) (hK : hp_K h 0 = (10, 19)) : CC l Z m_L_work (d + 1) mc ms [.ref 0, .int p0, .ref 72] h (RQ (some (.int (nI 1))) (fun h9 => h9 = h1)) := by
  refine ee_entryH hst (by decide +kernel) rfl (by decide) (by simp [Value.category]) (Nat.le_of_ble_eq_true rfl) ?_
  refine ww_lv (lv2 := [.ref 0, .int p0, .ref 72, UU]) rfl ?_
  refine ww_aload_n dL_work_0 rfl rfl ?_
  refine ww_iconst (v := nI 0) dL_work_1 (by decide) ?_
  refine ww_aload_n dL_work_2 rfl rfl ?_
  refine ww_iload_n dL_work_3 rfl rfl ?_
  refine ww_cVx (M := m_L_work) (pc := 4) (st := [.int (nI 0), .ref 72]) (As := [.int p0]) hC vv_X10_work dL_work_4 wg_641 hK rfl rfl rfl (Nat.le_refl _) (Nat.le_of_ble_eq_true rfl) [] (0, 9, 12, 13) [] rfl (Or.inl rfl) (by decide) (by decide) wg_405 wn_416 (i := 3) (ln := 1) (by decide) rfl (Or.inr ⟨_, rfl, dL_work_12, rfl⟩) ?_
  refine ww_iconst (v := nI 1) (pc := 13) dL_work_13 (by decide) ?_
  exact ww_iret dL_work_14 rfl ⟨rfl, rfl⟩
theorem vx_L_work : mm_X m_L_work 3 := ⟨⟨by decide +kernel, by decide +kernel, by decide +kernel⟩, wg_639, wg_0, wg_640, by decide, by decide⟩
set_option maxHeartbeats 4000000 in
theorem c_L_book_k {l : Launch} {Z : EE} (hst : l.stackTraces = false) {h : PH} {p0 : Int32} {d mc ms : Nat} {P' : Res → PH → Prop} {v : Int32} (hC : CC l Z m_X10_book d mc ms [.ref 0, .int p0] h P') (hK : hp_K h 0 = (10, 19)) (hP : ∀ r h', P' r h' → r = .inl (some (.int v)) ∧ hp_K h' 72 = (21, 1)) : CC l Z m_L_book (d + 1) mc ms [.ref 0, .int p0, .ref 72] h (RQ (some (.int (nI 0))) (fun h9 => ∃ h', P' (.inl (some (.int v))) h' ∧ h9 = outS h' v)) := by
  refine ee_entryH hst (by decide +kernel) rfl (by decide) (by simp [Value.category]) (Nat.le_of_ble_eq_true rfl) ?_
  refine ww_lv (lv2 := [.ref 0, .int p0, .ref 72, UU]) rfl ?_
  refine ww_aload_n dL_book_0 rfl rfl ?_
  refine ww_iconst (v := nI 0) dL_book_1 (by decide) ?_
  refine ww_aload_n dL_book_2 rfl rfl ?_
  refine ww_iload_n dL_book_3 rfl rfl ?_
  refine ww_cVn (M := m_L_book) (pc := 4) (st := [.int (nI 0), .ref 72]) (As := [.int p0]) hC vv_X10_book dL_book_4 wg_750 hK rfl rfl rfl (Nat.le_refl _) (Nat.le_of_ble_eq_true rfl) (fun E h9 q => by cases (hP _ _ q).1) (fun v9 h9 q => ?_)
  obtain ⟨e9, k9⟩ := hP _ _ q
  cases e9
  refine ww_i2l dL_book_7 ?_
  refine ww_lastN dL_book_8 k9 (by decide) (by decide) ?_
  refine ww_goto (tgt := 15) dL_book_9 (by decide) ?_
  refine ww_iconst (v := nI 0) dL_book_15 (by decide) ?_
  exact ww_iret dL_book_16 rfl ⟨rfl, h9, q, rfl⟩
set_option maxHeartbeats 4000000 in
theorem c_L_book_ia {l : Launch} {Z : EE} (hst : l.stackTraces = false) {h : PH} {p0 : Int32} {d mc ms : Nat} {h1 : PH} (hC : CC l Z m_X10_book d mc ms [.ref 0, .int p0] h (TH iaX h1)) (hK : hp_K h 0 = (10, 19)) : CC l Z m_L_book (d + 1) mc ms [.ref 0, .int p0, .ref 72] h (RQ (some (.int (nI 1))) (fun h9 => h9 = h1)) := by
  refine ee_entryH hst (by decide +kernel) rfl (by decide) (by simp [Value.category]) (Nat.le_of_ble_eq_true rfl) ?_
  refine ww_lv (lv2 := [.ref 0, .int p0, .ref 72, UU]) rfl ?_
  refine ww_aload_n dL_book_0 rfl rfl ?_
  refine ww_iconst (v := nI 0) dL_book_1 (by decide) ?_
  refine ww_aload_n dL_book_2 rfl rfl ?_
  refine ww_iload_n dL_book_3 rfl rfl ?_
  refine ww_cVx (M := m_L_book) (pc := 4) (st := [.int (nI 0), .ref 72]) (As := [.int p0]) hC vv_X10_book dL_book_4 wg_750 hK rfl rfl rfl (Nat.le_refl _) (Nat.le_of_ble_eq_true rfl) [] (0, 9, 12, 13) [] rfl (Or.inl rfl) (by decide) (by decide) wg_405 wn_416 (i := 3) (ln := 1) (by decide) rfl (Or.inr ⟨_, rfl, dL_book_12, rfl⟩) ?_
  refine ww_iconst (v := nI 1) (pc := 13) dL_book_13 (by decide) ?_
  exact ww_iret dL_book_14 rfl ⟨rfl, rfl⟩
theorem vx_L_book : mm_X m_L_book 3 := ⟨⟨by decide +kernel, by decide +kernel, by decide +kernel⟩, wg_748, wg_0, wg_749, by decide, by decide⟩
set_option maxHeartbeats 4000000 in
theorem c_L_told_k {l : Launch} {Z : EE} (hst : l.stackTraces = false) {h : PH} {p0 : Int32} {d mc ms : Nat} {P' : Res → PH → Prop} {v : Int32} (hC : CC l Z m_X10_told d mc ms [.ref 0, .int p0] h P') (hK : hp_K h 0 = (10, 19)) (hP : ∀ r h', P' r h' → r = .inl (some (.int v)) ∧ hp_K h' 72 = (21, 1)) : CC l Z m_L_told (d + 1) mc ms [.ref 0, .int p0, .ref 72] h (RQ (some (.int (nI 0))) (fun h9 => ∃ h', P' (.inl (some (.int v))) h' ∧ h9 = outS h' v)) := by
  refine ee_entryH hst (by decide +kernel) rfl (by decide) (by simp [Value.category]) (Nat.le_of_ble_eq_true rfl) ?_
  refine ww_lv (lv2 := [.ref 0, .int p0, .ref 72, UU]) rfl ?_
  refine ww_aload_n dL_told_0 rfl rfl ?_
  refine ww_iconst (v := nI 0) dL_told_1 (by decide) ?_
  refine ww_aload_n dL_told_2 rfl rfl ?_
  refine ww_iload_n dL_told_3 rfl rfl ?_
  refine ww_cVn (M := m_L_told) (pc := 4) (st := [.int (nI 0), .ref 72]) (As := [.int p0]) hC vv_X10_told dL_told_4 wg_774 hK rfl rfl rfl (Nat.le_refl _) (Nat.le_of_ble_eq_true rfl) (fun E h9 q => by cases (hP _ _ q).1) (fun v9 h9 q => ?_)
  obtain ⟨e9, k9⟩ := hP _ _ q
  cases e9
  refine ww_i2l dL_told_7 ?_
  refine ww_lastN dL_told_8 k9 (by decide) (by decide) ?_
  refine ww_goto (tgt := 15) dL_told_9 (by decide) ?_
  refine ww_iconst (v := nI 0) dL_told_15 (by decide) ?_
  exact ww_iret dL_told_16 rfl ⟨rfl, h9, q, rfl⟩
set_option maxHeartbeats 4000000 in
theorem c_L_told_ia {l : Launch} {Z : EE} (hst : l.stackTraces = false) {h : PH} {p0 : Int32} {d mc ms : Nat} {h1 : PH} (hC : CC l Z m_X10_told d mc ms [.ref 0, .int p0] h (TH iaX h1)) (hK : hp_K h 0 = (10, 19)) : CC l Z m_L_told (d + 1) mc ms [.ref 0, .int p0, .ref 72] h (RQ (some (.int (nI 1))) (fun h9 => h9 = h1)) := by
  refine ee_entryH hst (by decide +kernel) rfl (by decide) (by simp [Value.category]) (Nat.le_of_ble_eq_true rfl) ?_
  refine ww_lv (lv2 := [.ref 0, .int p0, .ref 72, UU]) rfl ?_
  refine ww_aload_n dL_told_0 rfl rfl ?_
  refine ww_iconst (v := nI 0) dL_told_1 (by decide) ?_
  refine ww_aload_n dL_told_2 rfl rfl ?_
  refine ww_iload_n dL_told_3 rfl rfl ?_
  refine ww_cVx (M := m_L_told) (pc := 4) (st := [.int (nI 0), .ref 72]) (As := [.int p0]) hC vv_X10_told dL_told_4 wg_774 hK rfl rfl rfl (Nat.le_refl _) (Nat.le_of_ble_eq_true rfl) [] (0, 9, 12, 13) [] rfl (Or.inl rfl) (by decide) (by decide) wg_405 wn_416 (i := 3) (ln := 1) (by decide) rfl (Or.inr ⟨_, rfl, dL_told_12, rfl⟩) ?_
  refine ww_iconst (v := nI 1) (pc := 13) dL_told_13 (by decide) ?_
  exact ww_iret dL_told_14 rfl ⟨rfl, rfl⟩
theorem vx_L_told : mm_X m_L_told 3 := ⟨⟨by decide +kernel, by decide +kernel, by decide +kernel⟩, wg_772, wg_0, wg_773, by decide, by decide⟩
set_option maxHeartbeats 4000000 in
theorem c_L_person_k {l : Launch} {Z : EE} (hst : l.stackTraces = false) {h : PH} {p0 p1 : Int32} {d mc ms : Nat} {P' : Res → PH → Prop} {v : Int32} (hC : CC l Z m_X10_person d mc ms [.ref 0, .int p0, .int p1] h P') (hK : hp_K h 0 = (10, 19)) (hP : ∀ r h', P' r h' → r = .inl (some (.int v)) ∧ hp_K h' 72 = (21, 1)) : CC l Z m_L_person (d + 1) mc ms [.ref 0, .int p0, .int p1, .ref 72] h (RQ (some (.int (nI 0))) (fun h9 => ∃ h', P' (.inl (some (.int v))) h' ∧ h9 = outS h' v)) := by
  refine ee_entryH hst (by decide +kernel) rfl (by decide) (by simp [Value.category]) (Nat.le_of_ble_eq_true rfl) ?_
  refine ww_lv (lv2 := [.ref 0, .int p0, .int p1, .ref 72, UU]) rfl ?_
  refine ww_aload_n dL_person_0 rfl rfl ?_
  refine ww_iconst (v := nI 0) dL_person_1 (by decide) ?_
  refine ww_aload_n dL_person_2 rfl rfl ?_
  refine ww_iload_n dL_person_3 rfl rfl ?_
  refine ww_iload_n dL_person_4 rfl rfl ?_
  refine ww_cVn (M := m_L_person) (pc := 5) (st := [.int (nI 0), .ref 72]) (As := [.int p0, .int p1]) hC vv_X10_person dL_person_5 wg_799 hK rfl rfl rfl (Nat.le_refl _) (Nat.le_of_ble_eq_true rfl) (fun E h9 q => by cases (hP _ _ q).1) (fun v9 h9 q => ?_)
  obtain ⟨e9, k9⟩ := hP _ _ q
  cases e9
  refine ww_i2l dL_person_8 ?_
  refine ww_lastN dL_person_9 k9 (by decide) (by decide) ?_
  refine ww_goto (tgt := 21) dL_person_10 (by decide) ?_
  refine ww_iconst (v := nI 0) dL_person_21 (by decide) ?_
  exact ww_iret dL_person_22 rfl ⟨rfl, h9, q, rfl⟩
set_option maxHeartbeats 4000000 in
theorem c_L_person_ns {l : Launch} {Z : EE} (hst : l.stackTraces = false) {h : PH} {p0 p1 : Int32} {d mc ms : Nat} {h1 : PH} (hC : CC l Z m_X10_person d mc ms [.ref 0, .int p0, .int p1] h (TH nsX h1)) (hK : hp_K h 0 = (10, 19)) : CC l Z m_L_person (d + 1) mc ms [.ref 0, .int p0, .int p1, .ref 72] h (RQ (some (.int (nI 1))) (fun h9 => h9 = h1)) := by
  refine ee_entryH hst (by decide +kernel) rfl (by decide) (by simp [Value.category]) (Nat.le_of_ble_eq_true rfl) ?_
  refine ww_lv (lv2 := [.ref 0, .int p0, .int p1, .ref 72, UU]) rfl ?_
  refine ww_aload_n dL_person_0 rfl rfl ?_
  refine ww_iconst (v := nI 0) dL_person_1 (by decide) ?_
  refine ww_aload_n dL_person_2 rfl rfl ?_
  refine ww_iload_n dL_person_3 rfl rfl ?_
  refine ww_iload_n dL_person_4 rfl rfl ?_
  refine ww_cVx (M := m_L_person) (pc := 5) (st := [.int (nI 0), .ref 72]) (As := [.int p0, .int p1]) hC vv_X10_person dL_person_5 wg_799 hK rfl rfl rfl (Nat.le_refl _) (Nat.le_of_ble_eq_true rfl) [] (0, 10, 13, 31) [(0, 10, 17, 13)] rfl (Or.inl rfl) (by decide) (by decide) wg_798 wn_809 (i := 4) (ln := 2) (by decide) rfl (Or.inl ⟨dL_person_13, rfl⟩) ?_
  refine ww_iconst (v := nI 1) (pc := 15) dL_person_15 (by decide) ?_
  exact ww_iret dL_person_16 rfl ⟨rfl, rfl⟩
set_option maxHeartbeats 4000000 in
theorem c_L_person_ia {l : Launch} {Z : EE} (hst : l.stackTraces = false) {h : PH} {p0 p1 : Int32} {d mc ms : Nat} {h1 : PH} (hC : CC l Z m_X10_person d mc ms [.ref 0, .int p0, .int p1] h (TH iaX h1)) (hK : hp_K h 0 = (10, 19)) : CC l Z m_L_person (d + 1) mc ms [.ref 0, .int p0, .int p1, .ref 72] h (RQ (some (.int (nI 2))) (fun h9 => h9 = h1)) := by
  refine ee_entryH hst (by decide +kernel) rfl (by decide) (by simp [Value.category]) (Nat.le_of_ble_eq_true rfl) ?_
  refine ww_lv (lv2 := [.ref 0, .int p0, .int p1, .ref 72, UU]) rfl ?_
  refine ww_aload_n dL_person_0 rfl rfl ?_
  refine ww_iconst (v := nI 0) dL_person_1 (by decide) ?_
  refine ww_aload_n dL_person_2 rfl rfl ?_
  refine ww_iload_n dL_person_3 rfl rfl ?_
  refine ww_iload_n dL_person_4 rfl rfl ?_
  refine ww_cVx (M := m_L_person) (pc := 5) (st := [.int (nI 0), .ref 72]) (As := [.int p0, .int p1]) hC vv_X10_person dL_person_5 wg_799 hK rfl rfl rfl (Nat.le_refl _) (Nat.le_of_ble_eq_true rfl) [(0, 10, 13, 31)] (0, 10, 17, 13) [] rfl (Or.inr ⟨_, rfl, by decide, wg_798, rfl⟩) (by decide) (by decide) wg_405 wn_416 (i := 4) (ln := 2) (by decide) rfl (Or.inl ⟨dL_person_17, rfl⟩) ?_
  refine ww_iconst (v := nI 2) (pc := 19) dL_person_19 (by decide) ?_
  exact ww_iret dL_person_20 rfl ⟨rfl, rfl⟩
theorem vx_L_person : mm_X m_L_person 4 := ⟨⟨by decide +kernel, by decide +kernel, by decide +kernel⟩, wg_796, wg_0, wg_797, by decide, by decide⟩
set_option maxHeartbeats 4000000 in
theorem c_L_number_k {l : Launch} {Z : EE} (hst : l.stackTraces = false) {h : PH} {p0 p1 : Int32} {d mc ms : Nat} {P' : Res → PH → Prop} {v : Int32} (hC : CC l Z m_X10_number d mc ms [.ref 0, .int p0, .int p1] h P') (hK : hp_K h 0 = (10, 19)) (hP : ∀ r h', P' r h' → r = .inl (some (.int v)) ∧ hp_K h' 72 = (21, 1)) : CC l Z m_L_number (d + 1) mc ms [.ref 0, .int p0, .int p1, .ref 72] h (RQ (some (.int (nI 0))) (fun h9 => ∃ h', P' (.inl (some (.int v))) h' ∧ h9 = outS h' v)) := by
  refine ee_entryH hst (by decide +kernel) rfl (by decide) (by simp [Value.category]) (Nat.le_of_ble_eq_true rfl) ?_
  refine ww_lv (lv2 := [.ref 0, .int p0, .int p1, .ref 72, UU]) rfl ?_
  refine ww_aload_n dL_number_0 rfl rfl ?_
  refine ww_iconst (v := nI 0) dL_number_1 (by decide) ?_
  refine ww_aload_n dL_number_2 rfl rfl ?_
  refine ww_iload_n dL_number_3 rfl rfl ?_
  refine ww_iload_n dL_number_4 rfl rfl ?_
  refine ww_cVn (M := m_L_number) (pc := 5) (st := [.int (nI 0), .ref 72]) (As := [.int p0, .int p1]) hC vv_X10_number dL_number_5 wg_843 hK rfl rfl rfl (Nat.le_refl _) (Nat.le_of_ble_eq_true rfl) (fun E h9 q => by cases (hP _ _ q).1) (fun v9 h9 q => ?_)
  obtain ⟨e9, k9⟩ := hP _ _ q
  cases e9
  refine ww_i2l dL_number_8 ?_
  refine ww_lastN dL_number_9 k9 (by decide) (by decide) ?_
  refine ww_goto (tgt := 21) dL_number_10 (by decide) ?_
  refine ww_iconst (v := nI 0) dL_number_21 (by decide) ?_
  exact ww_iret dL_number_22 rfl ⟨rfl, h9, q, rfl⟩
set_option maxHeartbeats 4000000 in
theorem c_L_number_ns {l : Launch} {Z : EE} (hst : l.stackTraces = false) {h : PH} {p0 p1 : Int32} {d mc ms : Nat} {h1 : PH} (hC : CC l Z m_X10_number d mc ms [.ref 0, .int p0, .int p1] h (TH nsX h1)) (hK : hp_K h 0 = (10, 19)) : CC l Z m_L_number (d + 1) mc ms [.ref 0, .int p0, .int p1, .ref 72] h (RQ (some (.int (nI 1))) (fun h9 => h9 = h1)) := by
  refine ee_entryH hst (by decide +kernel) rfl (by decide) (by simp [Value.category]) (Nat.le_of_ble_eq_true rfl) ?_
  refine ww_lv (lv2 := [.ref 0, .int p0, .int p1, .ref 72, UU]) rfl ?_
  refine ww_aload_n dL_number_0 rfl rfl ?_
  refine ww_iconst (v := nI 0) dL_number_1 (by decide) ?_
  refine ww_aload_n dL_number_2 rfl rfl ?_
  refine ww_iload_n dL_number_3 rfl rfl ?_
  refine ww_iload_n dL_number_4 rfl rfl ?_
  refine ww_cVx (M := m_L_number) (pc := 5) (st := [.int (nI 0), .ref 72]) (As := [.int p0, .int p1]) hC vv_X10_number dL_number_5 wg_843 hK rfl rfl rfl (Nat.le_refl _) (Nat.le_of_ble_eq_true rfl) [] (0, 10, 13, 31) [(0, 10, 17, 13)] rfl (Or.inl rfl) (by decide) (by decide) wg_798 wn_809 (i := 4) (ln := 2) (by decide) rfl (Or.inl ⟨dL_number_13, rfl⟩) ?_
  refine ww_iconst (v := nI 1) (pc := 15) dL_number_15 (by decide) ?_
  exact ww_iret dL_number_16 rfl ⟨rfl, rfl⟩
set_option maxHeartbeats 4000000 in
theorem c_L_number_ia {l : Launch} {Z : EE} (hst : l.stackTraces = false) {h : PH} {p0 p1 : Int32} {d mc ms : Nat} {h1 : PH} (hC : CC l Z m_X10_number d mc ms [.ref 0, .int p0, .int p1] h (TH iaX h1)) (hK : hp_K h 0 = (10, 19)) : CC l Z m_L_number (d + 1) mc ms [.ref 0, .int p0, .int p1, .ref 72] h (RQ (some (.int (nI 2))) (fun h9 => h9 = h1)) := by
  refine ee_entryH hst (by decide +kernel) rfl (by decide) (by simp [Value.category]) (Nat.le_of_ble_eq_true rfl) ?_
  refine ww_lv (lv2 := [.ref 0, .int p0, .int p1, .ref 72, UU]) rfl ?_
  refine ww_aload_n dL_number_0 rfl rfl ?_
  refine ww_iconst (v := nI 0) dL_number_1 (by decide) ?_
  refine ww_aload_n dL_number_2 rfl rfl ?_
  refine ww_iload_n dL_number_3 rfl rfl ?_
  refine ww_iload_n dL_number_4 rfl rfl ?_
  refine ww_cVx (M := m_L_number) (pc := 5) (st := [.int (nI 0), .ref 72]) (As := [.int p0, .int p1]) hC vv_X10_number dL_number_5 wg_843 hK rfl rfl rfl (Nat.le_refl _) (Nat.le_of_ble_eq_true rfl) [(0, 10, 13, 31)] (0, 10, 17, 13) [] rfl (Or.inr ⟨_, rfl, by decide, wg_798, rfl⟩) (by decide) (by decide) wg_405 wn_416 (i := 4) (ln := 2) (by decide) rfl (Or.inl ⟨dL_number_17, rfl⟩) ?_
  refine ww_iconst (v := nI 2) (pc := 19) dL_number_19 (by decide) ?_
  exact ww_iret dL_number_20 rfl ⟨rfl, rfl⟩
theorem vx_L_number : mm_X m_L_number 4 := ⟨⟨by decide +kernel, by decide +kernel, by decide +kernel⟩, wg_841, wg_0, wg_842, by decide, by decide⟩
set_option maxHeartbeats 4000000 in
theorem c_L_fare_k {l : Launch} {Z : EE} (hst : l.stackTraces = false) {h : PH} {p0 p1 : Int32} {d mc ms : Nat} {P' : Res → PH → Prop} {v : Int32} (hC : CC l Z m_X10_fare d mc ms [.ref 0, .int p0, .int p1] h P') (hK : hp_K h 0 = (10, 19)) (hP : ∀ r h', P' r h' → r = .inl (some (.int v)) ∧ hp_K h' 72 = (21, 1)) : CC l Z m_L_fare (d + 1) mc ms [.ref 0, .int p0, .int p1, .ref 72] h (RQ (some (.int (nI 0))) (fun h9 => ∃ h', P' (.inl (some (.int v))) h' ∧ h9 = outS h' v)) := by
  refine ee_entryH hst (by decide +kernel) rfl (by decide) (by simp [Value.category]) (Nat.le_of_ble_eq_true rfl) ?_
  refine ww_lv (lv2 := [.ref 0, .int p0, .int p1, .ref 72, UU]) rfl ?_
  refine ww_aload_n dL_fare_0 rfl rfl ?_
  refine ww_iconst (v := nI 0) dL_fare_1 (by decide) ?_
  refine ww_aload_n dL_fare_2 rfl rfl ?_
  refine ww_iload_n dL_fare_3 rfl rfl ?_
  refine ww_iload_n dL_fare_4 rfl rfl ?_
  refine ww_cVn (M := m_L_fare) (pc := 5) (st := [.int (nI 0), .ref 72]) (As := [.int p0, .int p1]) hC vv_X10_fare dL_fare_5 wg_862 hK rfl rfl rfl (Nat.le_refl _) (Nat.le_of_ble_eq_true rfl) (fun E h9 q => by cases (hP _ _ q).1) (fun v9 h9 q => ?_)
  obtain ⟨e9, k9⟩ := hP _ _ q
  cases e9
  refine ww_i2l dL_fare_8 ?_
  refine ww_lastN dL_fare_9 k9 (by decide) (by decide) ?_
  refine ww_goto (tgt := 21) dL_fare_10 (by decide) ?_
  refine ww_iconst (v := nI 0) dL_fare_21 (by decide) ?_
  exact ww_iret dL_fare_22 rfl ⟨rfl, h9, q, rfl⟩
set_option maxHeartbeats 4000000 in
theorem c_L_fare_ns {l : Launch} {Z : EE} (hst : l.stackTraces = false) {h : PH} {p0 p1 : Int32} {d mc ms : Nat} {h1 : PH} (hC : CC l Z m_X10_fare d mc ms [.ref 0, .int p0, .int p1] h (TH nsX h1)) (hK : hp_K h 0 = (10, 19)) : CC l Z m_L_fare (d + 1) mc ms [.ref 0, .int p0, .int p1, .ref 72] h (RQ (some (.int (nI 1))) (fun h9 => h9 = h1)) := by
  refine ee_entryH hst (by decide +kernel) rfl (by decide) (by simp [Value.category]) (Nat.le_of_ble_eq_true rfl) ?_
  refine ww_lv (lv2 := [.ref 0, .int p0, .int p1, .ref 72, UU]) rfl ?_
  refine ww_aload_n dL_fare_0 rfl rfl ?_
  refine ww_iconst (v := nI 0) dL_fare_1 (by decide) ?_
  refine ww_aload_n dL_fare_2 rfl rfl ?_
  refine ww_iload_n dL_fare_3 rfl rfl ?_
  refine ww_iload_n dL_fare_4 rfl rfl ?_
  refine ww_cVx (M := m_L_fare) (pc := 5) (st := [.int (nI 0), .ref 72]) (As := [.int p0, .int p1]) hC vv_X10_fare dL_fare_5 wg_862 hK rfl rfl rfl (Nat.le_refl _) (Nat.le_of_ble_eq_true rfl) [] (0, 10, 13, 31) [(0, 10, 17, 13)] rfl (Or.inl rfl) (by decide) (by decide) wg_798 wn_809 (i := 4) (ln := 2) (by decide) rfl (Or.inl ⟨dL_fare_13, rfl⟩) ?_
  refine ww_iconst (v := nI 1) (pc := 15) dL_fare_15 (by decide) ?_
  exact ww_iret dL_fare_16 rfl ⟨rfl, rfl⟩
set_option maxHeartbeats 4000000 in
theorem c_L_fare_ia {l : Launch} {Z : EE} (hst : l.stackTraces = false) {h : PH} {p0 p1 : Int32} {d mc ms : Nat} {h1 : PH} (hC : CC l Z m_X10_fare d mc ms [.ref 0, .int p0, .int p1] h (TH iaX h1)) (hK : hp_K h 0 = (10, 19)) : CC l Z m_L_fare (d + 1) mc ms [.ref 0, .int p0, .int p1, .ref 72] h (RQ (some (.int (nI 2))) (fun h9 => h9 = h1)) := by
  refine ee_entryH hst (by decide +kernel) rfl (by decide) (by simp [Value.category]) (Nat.le_of_ble_eq_true rfl) ?_
  refine ww_lv (lv2 := [.ref 0, .int p0, .int p1, .ref 72, UU]) rfl ?_
  refine ww_aload_n dL_fare_0 rfl rfl ?_
  refine ww_iconst (v := nI 0) dL_fare_1 (by decide) ?_
  refine ww_aload_n dL_fare_2 rfl rfl ?_
  refine ww_iload_n dL_fare_3 rfl rfl ?_
  refine ww_iload_n dL_fare_4 rfl rfl ?_
  refine ww_cVx (M := m_L_fare) (pc := 5) (st := [.int (nI 0), .ref 72]) (As := [.int p0, .int p1]) hC vv_X10_fare dL_fare_5 wg_862 hK rfl rfl rfl (Nat.le_refl _) (Nat.le_of_ble_eq_true rfl) [(0, 10, 13, 31)] (0, 10, 17, 13) [] rfl (Or.inr ⟨_, rfl, by decide, wg_798, rfl⟩) (by decide) (by decide) wg_405 wn_416 (i := 4) (ln := 2) (by decide) rfl (Or.inl ⟨dL_fare_17, rfl⟩) ?_
  refine ww_iconst (v := nI 2) (pc := 19) dL_fare_19 (by decide) ?_
  exact ww_iret dL_fare_20 rfl ⟨rfl, rfl⟩
theorem vx_L_fare : mm_X m_L_fare 4 := ⟨⟨by decide +kernel, by decide +kernel, by decide +kernel⟩, wg_860, wg_0, wg_861, by decide, by decide⟩
set_option maxHeartbeats 4000000 in
theorem c_L_would_k {l : Launch} {Z : EE} (hst : l.stackTraces = false) {h : PH} {p0 p1 p2 p3 p4 p5 : Int32} {d mc ms : Nat} {P' : Res → PH → Prop} {v : Int32} (hC : CC l Z m_X10_would d mc ms [.ref 0, .int p0, .int p1, .int p2, .int p3, .int p4, .int p5] h P') (hK : hp_K h 0 = (10, 19)) (hP : ∀ r h', P' r h' → r = .inl (some (.int v)) ∧ hp_K h' 72 = (21, 1)) : CC l Z m_L_would (d + 1) mc ms [.ref 0, .int p0, .int p1, .int p2, .int p3, .int p4, .int p5, .ref 72] h (RQ (some (.int (nI 0))) (fun h9 => ∃ h', P' (.inl (some (.int v))) h' ∧ h9 = outS h' v)) := by
  refine ee_entryH hst (by decide +kernel) rfl (by decide) (by simp [Value.category]) (Nat.le_of_ble_eq_true rfl) ?_
  refine ww_lv (lv2 := [.ref 0, .int p0, .int p1, .int p2, .int p3, .int p4, .int p5, .ref 72, UU]) rfl ?_
  refine ww_aload dL_would_0 rfl ?_
  refine ww_iconst (v := nI 0) dL_would_2 (by decide) ?_
  refine ww_aload_n dL_would_3 rfl rfl ?_
  refine ww_iload_n dL_would_4 rfl rfl ?_
  refine ww_iload_n dL_would_5 rfl rfl ?_
  refine ww_iload_n dL_would_6 rfl rfl ?_
  refine ww_iload dL_would_7 rfl ?_
  refine ww_iload dL_would_9 rfl ?_
  refine ww_iload dL_would_11 rfl ?_
  refine ww_cVn (M := m_L_would) (pc := 13) (st := [.int (nI 0), .ref 72]) (As := [.int p0, .int p1, .int p2, .int p3, .int p4, .int p5]) hC vv_X10_would dL_would_13 wg_870 hK rfl rfl rfl (Nat.le_refl _) (Nat.le_of_ble_eq_true rfl) (fun E h9 q => by cases (hP _ _ q).1) (fun v9 h9 q => ?_)
  obtain ⟨e9, k9⟩ := hP _ _ q
  cases e9
  refine ww_i2l dL_would_16 ?_
  refine ww_lastN dL_would_17 k9 (by decide) (by decide) ?_
  refine ww_goto (tgt := 25) dL_would_18 (by decide) ?_
  refine ww_iconst (v := nI 0) dL_would_25 (by decide) ?_
  exact ww_iret dL_would_26 rfl ⟨rfl, h9, q, rfl⟩
set_option maxHeartbeats 4000000 in
theorem c_L_would_ia {l : Launch} {Z : EE} (hst : l.stackTraces = false) {h : PH} {p0 p1 p2 p3 p4 p5 : Int32} {d mc ms : Nat} {h1 : PH} (hC : CC l Z m_X10_would d mc ms [.ref 0, .int p0, .int p1, .int p2, .int p3, .int p4, .int p5] h (TH iaX h1)) (hK : hp_K h 0 = (10, 19)) : CC l Z m_L_would (d + 1) mc ms [.ref 0, .int p0, .int p1, .int p2, .int p3, .int p4, .int p5, .ref 72] h (RQ (some (.int (nI 1))) (fun h9 => h9 = h1)) := by
  refine ee_entryH hst (by decide +kernel) rfl (by decide) (by simp [Value.category]) (Nat.le_of_ble_eq_true rfl) ?_
  refine ww_lv (lv2 := [.ref 0, .int p0, .int p1, .int p2, .int p3, .int p4, .int p5, .ref 72, UU]) rfl ?_
  refine ww_aload dL_would_0 rfl ?_
  refine ww_iconst (v := nI 0) dL_would_2 (by decide) ?_
  refine ww_aload_n dL_would_3 rfl rfl ?_
  refine ww_iload_n dL_would_4 rfl rfl ?_
  refine ww_iload_n dL_would_5 rfl rfl ?_
  refine ww_iload_n dL_would_6 rfl rfl ?_
  refine ww_iload dL_would_7 rfl ?_
  refine ww_iload dL_would_9 rfl ?_
  refine ww_iload dL_would_11 rfl ?_
  refine ww_cVx (M := m_L_would) (pc := 13) (st := [.int (nI 0), .ref 72]) (As := [.int p0, .int p1, .int p2, .int p3, .int p4, .int p5]) hC vv_X10_would dL_would_13 wg_870 hK rfl rfl rfl (Nat.le_refl _) (Nat.le_of_ble_eq_true rfl) [] (0, 18, 21, 13) [] rfl (Or.inl rfl) (by decide) (by decide) wg_405 wn_416 (i := 8) (ln := 2) (by decide) rfl (Or.inl ⟨dL_would_21, rfl⟩) ?_
  refine ww_iconst (v := nI 1) (pc := 23) dL_would_23 (by decide) ?_
  exact ww_iret dL_would_24 rfl ⟨rfl, rfl⟩
theorem vx_L_would : mm_X m_L_would 8 := ⟨⟨by decide +kernel, by decide +kernel, by decide +kernel⟩, wg_868, wg_0, wg_869, by decide, by decide⟩
set_option maxHeartbeats 4000000 in
theorem c_L_cost_k {l : Launch} {Z : EE} (hst : l.stackTraces = false) {h : PH} {p0 : Int32} {d mc ms : Nat} {P' : Res → PH → Prop} {v : Int32} (hC : CC l Z m_X10_cost d mc ms [.ref 0, .int p0] h P') (hK : hp_K h 0 = (10, 19)) (hP : ∀ r h', P' r h' → r = .inl (some (.int v)) ∧ hp_K h' 72 = (21, 1)) : CC l Z m_L_cost (d + 1) mc ms [.ref 0, .int p0, .ref 72] h (RQ (some (.int (nI 0))) (fun h9 => ∃ h', P' (.inl (some (.int v))) h' ∧ h9 = outS h' v)) := by
  refine ee_entryH hst (by decide +kernel) rfl (by decide) (by simp [Value.category]) (Nat.le_of_ble_eq_true rfl) ?_
  refine ww_lv (lv2 := [.ref 0, .int p0, .ref 72, UU]) rfl ?_
  refine ww_aload_n dL_cost_0 rfl rfl ?_
  refine ww_iconst (v := nI 0) dL_cost_1 (by decide) ?_
  refine ww_aload_n dL_cost_2 rfl rfl ?_
  refine ww_iload_n dL_cost_3 rfl rfl ?_
  refine ww_cVn (M := m_L_cost) (pc := 4) (st := [.int (nI 0), .ref 72]) (As := [.int p0]) hC vv_X10_cost dL_cost_4 wg_878 hK rfl rfl rfl (Nat.le_refl _) (Nat.le_of_ble_eq_true rfl) (fun E h9 q => by cases (hP _ _ q).1) (fun v9 h9 q => ?_)
  obtain ⟨e9, k9⟩ := hP _ _ q
  cases e9
  refine ww_i2l dL_cost_7 ?_
  refine ww_lastN dL_cost_8 k9 (by decide) (by decide) ?_
  refine ww_goto (tgt := 15) dL_cost_9 (by decide) ?_
  refine ww_iconst (v := nI 0) dL_cost_15 (by decide) ?_
  exact ww_iret dL_cost_16 rfl ⟨rfl, h9, q, rfl⟩
set_option maxHeartbeats 4000000 in
theorem c_L_cost_ns {l : Launch} {Z : EE} (hst : l.stackTraces = false) {h : PH} {p0 : Int32} {d mc ms : Nat} {h1 : PH} (hC : CC l Z m_X10_cost d mc ms [.ref 0, .int p0] h (TH nsX h1)) (hK : hp_K h 0 = (10, 19)) : CC l Z m_L_cost (d + 1) mc ms [.ref 0, .int p0, .ref 72] h (RQ (some (.int (nI 1))) (fun h9 => h9 = h1)) := by
  refine ee_entryH hst (by decide +kernel) rfl (by decide) (by simp [Value.category]) (Nat.le_of_ble_eq_true rfl) ?_
  refine ww_lv (lv2 := [.ref 0, .int p0, .ref 72, UU]) rfl ?_
  refine ww_aload_n dL_cost_0 rfl rfl ?_
  refine ww_iconst (v := nI 0) dL_cost_1 (by decide) ?_
  refine ww_aload_n dL_cost_2 rfl rfl ?_
  refine ww_iload_n dL_cost_3 rfl rfl ?_
  refine ww_cVx (M := m_L_cost) (pc := 4) (st := [.int (nI 0), .ref 72]) (As := [.int p0]) hC vv_X10_cost dL_cost_4 wg_878 hK rfl rfl rfl (Nat.le_refl _) (Nat.le_of_ble_eq_true rfl) [] (0, 9, 12, 31) [] rfl (Or.inl rfl) (by decide) (by decide) wg_798 wn_809 (i := 3) (ln := 1) (by decide) rfl (Or.inr ⟨_, rfl, dL_cost_12, rfl⟩) ?_
  refine ww_iconst (v := nI 1) (pc := 13) dL_cost_13 (by decide) ?_
  exact ww_iret dL_cost_14 rfl ⟨rfl, rfl⟩
theorem vx_L_cost : mm_X m_L_cost 3 := ⟨⟨by decide +kernel, by decide +kernel, by decide +kernel⟩, wg_876, wg_0, wg_877, by decide, by decide⟩
set_option maxHeartbeats 4000000 in
theorem c_L_saying_k {l : Launch} {Z : EE} (hst : l.stackTraces = false) {h : PH} {p0 p1 : Int32} {d mc ms : Nat} {P' : Res → PH → Prop} {v : Int32} (hC : CC l Z m_X10_saying d mc ms [.ref 0, .int p0, .int p1] h P') (hK : hp_K h 0 = (10, 19)) (hP : ∀ r h', P' r h' → r = .inl (some (.int v)) ∧ hp_K h' 72 = (21, 1)) : CC l Z m_L_saying (d + 1) mc ms [.ref 0, .int p0, .int p1, .ref 72] h (RQ (some (.int (nI 0))) (fun h9 => ∃ h', P' (.inl (some (.int v))) h' ∧ h9 = outS h' v)) := by
  refine ee_entryH hst (by decide +kernel) rfl (by decide) (by simp [Value.category]) (Nat.le_of_ble_eq_true rfl) ?_
  refine ww_lv (lv2 := [.ref 0, .int p0, .int p1, .ref 72, UU]) rfl ?_
  refine ww_aload_n dL_saying_0 rfl rfl ?_
  refine ww_iconst (v := nI 0) dL_saying_1 (by decide) ?_
  refine ww_aload_n dL_saying_2 rfl rfl ?_
  refine ww_iload_n dL_saying_3 rfl rfl ?_
  refine ww_iload_n dL_saying_4 rfl rfl ?_
  refine ww_cVn (M := m_L_saying) (pc := 5) (st := [.int (nI 0), .ref 72]) (As := [.int p0, .int p1]) hC vv_X10_saying dL_saying_5 wg_918 hK rfl rfl rfl (Nat.le_refl _) (Nat.le_of_ble_eq_true rfl) (fun E h9 q => by cases (hP _ _ q).1) (fun v9 h9 q => ?_)
  obtain ⟨e9, k9⟩ := hP _ _ q
  cases e9
  refine ww_i2l dL_saying_8 ?_
  refine ww_lastN dL_saying_9 k9 (by decide) (by decide) ?_
  refine ww_goto (tgt := 21) dL_saying_10 (by decide) ?_
  refine ww_iconst (v := nI 0) dL_saying_21 (by decide) ?_
  exact ww_iret dL_saying_22 rfl ⟨rfl, h9, q, rfl⟩
set_option maxHeartbeats 4000000 in
theorem c_L_saying_ns {l : Launch} {Z : EE} (hst : l.stackTraces = false) {h : PH} {p0 p1 : Int32} {d mc ms : Nat} {h1 : PH} (hC : CC l Z m_X10_saying d mc ms [.ref 0, .int p0, .int p1] h (TH nsX h1)) (hK : hp_K h 0 = (10, 19)) : CC l Z m_L_saying (d + 1) mc ms [.ref 0, .int p0, .int p1, .ref 72] h (RQ (some (.int (nI 1))) (fun h9 => h9 = h1)) := by
  refine ee_entryH hst (by decide +kernel) rfl (by decide) (by simp [Value.category]) (Nat.le_of_ble_eq_true rfl) ?_
  refine ww_lv (lv2 := [.ref 0, .int p0, .int p1, .ref 72, UU]) rfl ?_
  refine ww_aload_n dL_saying_0 rfl rfl ?_
  refine ww_iconst (v := nI 0) dL_saying_1 (by decide) ?_
  refine ww_aload_n dL_saying_2 rfl rfl ?_
  refine ww_iload_n dL_saying_3 rfl rfl ?_
  refine ww_iload_n dL_saying_4 rfl rfl ?_
  refine ww_cVx (M := m_L_saying) (pc := 5) (st := [.int (nI 0), .ref 72]) (As := [.int p0, .int p1]) hC vv_X10_saying dL_saying_5 wg_918 hK rfl rfl rfl (Nat.le_refl _) (Nat.le_of_ble_eq_true rfl) [] (0, 10, 13, 31) [(0, 10, 17, 13)] rfl (Or.inl rfl) (by decide) (by decide) wg_798 wn_809 (i := 4) (ln := 2) (by decide) rfl (Or.inl ⟨dL_saying_13, rfl⟩) ?_
  refine ww_iconst (v := nI 1) (pc := 15) dL_saying_15 (by decide) ?_
  exact ww_iret dL_saying_16 rfl ⟨rfl, rfl⟩
set_option maxHeartbeats 4000000 in
theorem c_L_saying_ia {l : Launch} {Z : EE} (hst : l.stackTraces = false) {h : PH} {p0 p1 : Int32} {d mc ms : Nat} {h1 : PH} (hC : CC l Z m_X10_saying d mc ms [.ref 0, .int p0, .int p1] h (TH iaX h1)) (hK : hp_K h 0 = (10, 19)) : CC l Z m_L_saying (d + 1) mc ms [.ref 0, .int p0, .int p1, .ref 72] h (RQ (some (.int (nI 2))) (fun h9 => h9 = h1)) := by
  refine ee_entryH hst (by decide +kernel) rfl (by decide) (by simp [Value.category]) (Nat.le_of_ble_eq_true rfl) ?_
  refine ww_lv (lv2 := [.ref 0, .int p0, .int p1, .ref 72, UU]) rfl ?_
  refine ww_aload_n dL_saying_0 rfl rfl ?_
  refine ww_iconst (v := nI 0) dL_saying_1 (by decide) ?_
  refine ww_aload_n dL_saying_2 rfl rfl ?_
  refine ww_iload_n dL_saying_3 rfl rfl ?_
  refine ww_iload_n dL_saying_4 rfl rfl ?_
  refine ww_cVx (M := m_L_saying) (pc := 5) (st := [.int (nI 0), .ref 72]) (As := [.int p0, .int p1]) hC vv_X10_saying dL_saying_5 wg_918 hK rfl rfl rfl (Nat.le_refl _) (Nat.le_of_ble_eq_true rfl) [(0, 10, 13, 31)] (0, 10, 17, 13) [] rfl (Or.inr ⟨_, rfl, by decide, wg_798, rfl⟩) (by decide) (by decide) wg_405 wn_416 (i := 4) (ln := 2) (by decide) rfl (Or.inl ⟨dL_saying_17, rfl⟩) ?_
  refine ww_iconst (v := nI 2) (pc := 19) dL_saying_19 (by decide) ?_
  exact ww_iret dL_saying_20 rfl ⟨rfl, rfl⟩
theorem vx_L_saying : mm_X m_L_saying 4 := ⟨⟨by decide +kernel, by decide +kernel, by decide +kernel⟩, wg_916, wg_0, wg_917, by decide, by decide⟩
set_option maxHeartbeats 4000000 in
theorem c_L_leaves_k {l : Launch} {Z : EE} (hst : l.stackTraces = false) {h : PH} {p0 : Int32} {d mc ms : Nat} {P' : Res → PH → Prop} {v : Int32} (hC : CC l Z m_X10_leaves d mc ms [.ref 0, .int p0] h P') (hK : hp_K h 0 = (10, 19)) (hP : ∀ r h', P' r h' → r = .inl (some (.int v)) ∧ hp_K h' 72 = (21, 1)) : CC l Z m_L_leaves (d + 1) mc ms [.ref 0, .int p0, .ref 72] h (RQ (some (.int (nI 0))) (fun h9 => ∃ h', P' (.inl (some (.int v))) h' ∧ h9 = outS h' v)) := by
  refine ee_entryH hst (by decide +kernel) rfl (by decide) (by simp [Value.category]) (Nat.le_of_ble_eq_true rfl) ?_
  refine ww_lv (lv2 := [.ref 0, .int p0, .ref 72, UU]) rfl ?_
  refine ww_aload_n dL_leaves_0 rfl rfl ?_
  refine ww_iconst (v := nI 0) dL_leaves_1 (by decide) ?_
  refine ww_aload_n dL_leaves_2 rfl rfl ?_
  refine ww_iload_n dL_leaves_3 rfl rfl ?_
  refine ww_cVn (M := m_L_leaves) (pc := 4) (st := [.int (nI 0), .ref 72]) (As := [.int p0]) hC vv_X10_leaves dL_leaves_4 wg_945 hK rfl rfl rfl (Nat.le_refl _) (Nat.le_of_ble_eq_true rfl) (fun E h9 q => by cases (hP _ _ q).1) (fun v9 h9 q => ?_)
  obtain ⟨e9, k9⟩ := hP _ _ q
  cases e9
  refine ww_i2l dL_leaves_7 ?_
  refine ww_lastN dL_leaves_8 k9 (by decide) (by decide) ?_
  refine ww_goto (tgt := 15) dL_leaves_9 (by decide) ?_
  refine ww_iconst (v := nI 0) dL_leaves_15 (by decide) ?_
  exact ww_iret dL_leaves_16 rfl ⟨rfl, h9, q, rfl⟩
set_option maxHeartbeats 4000000 in
theorem c_L_leaves_ns {l : Launch} {Z : EE} (hst : l.stackTraces = false) {h : PH} {p0 : Int32} {d mc ms : Nat} {h1 : PH} (hC : CC l Z m_X10_leaves d mc ms [.ref 0, .int p0] h (TH nsX h1)) (hK : hp_K h 0 = (10, 19)) : CC l Z m_L_leaves (d + 1) mc ms [.ref 0, .int p0, .ref 72] h (RQ (some (.int (nI 1))) (fun h9 => h9 = h1)) := by
  refine ee_entryH hst (by decide +kernel) rfl (by decide) (by simp [Value.category]) (Nat.le_of_ble_eq_true rfl) ?_
  refine ww_lv (lv2 := [.ref 0, .int p0, .ref 72, UU]) rfl ?_
  refine ww_aload_n dL_leaves_0 rfl rfl ?_
  refine ww_iconst (v := nI 0) dL_leaves_1 (by decide) ?_
  refine ww_aload_n dL_leaves_2 rfl rfl ?_
  refine ww_iload_n dL_leaves_3 rfl rfl ?_
  refine ww_cVx (M := m_L_leaves) (pc := 4) (st := [.int (nI 0), .ref 72]) (As := [.int p0]) hC vv_X10_leaves dL_leaves_4 wg_945 hK rfl rfl rfl (Nat.le_refl _) (Nat.le_of_ble_eq_true rfl) [] (0, 9, 12, 31) [] rfl (Or.inl rfl) (by decide) (by decide) wg_798 wn_809 (i := 3) (ln := 1) (by decide) rfl (Or.inr ⟨_, rfl, dL_leaves_12, rfl⟩) ?_
  refine ww_iconst (v := nI 1) (pc := 13) dL_leaves_13 (by decide) ?_
  exact ww_iret dL_leaves_14 rfl ⟨rfl, rfl⟩
theorem vx_L_leaves : mm_X m_L_leaves 3 := ⟨⟨by decide +kernel, by decide +kernel, by decide +kernel⟩, wg_943, wg_0, wg_944, by decide, by decide⟩
set_option maxHeartbeats 4000000 in
theorem c_L_out_k {l : Launch} {Z : EE} (hst : l.stackTraces = false) {h : PH} {p0 : Int32} {d mc ms : Nat} {P' : Res → PH → Prop} {v : Int32} (hC : CC l Z m_X10_out d mc ms [.ref 0, .int p0] h P') (hK : hp_K h 0 = (10, 19)) (hP : ∀ r h', P' r h' → r = .inl (some (.int v)) ∧ hp_K h' 72 = (21, 1)) : CC l Z m_L_out (d + 1) mc ms [.ref 0, .int p0, .ref 72] h (RQ (some (.int (nI 0))) (fun h9 => ∃ h', P' (.inl (some (.int v))) h' ∧ h9 = outS h' v)) := by
  refine ee_entryH hst (by decide +kernel) rfl (by decide) (by simp [Value.category]) (Nat.le_of_ble_eq_true rfl) ?_
  refine ww_lv (lv2 := [.ref 0, .int p0, .ref 72, UU]) rfl ?_
  refine ww_aload_n dL_out_0 rfl rfl ?_
  refine ww_iconst (v := nI 0) dL_out_1 (by decide) ?_
  refine ww_aload_n dL_out_2 rfl rfl ?_
  refine ww_iload_n dL_out_3 rfl rfl ?_
  refine ww_cVn (M := m_L_out) (pc := 4) (st := [.int (nI 0), .ref 72]) (As := [.int p0]) hC vv_X10_out dL_out_4 wg_952 hK rfl rfl rfl (Nat.le_refl _) (Nat.le_of_ble_eq_true rfl) (fun E h9 q => by cases (hP _ _ q).1) (fun v9 h9 q => ?_)
  obtain ⟨e9, k9⟩ := hP _ _ q
  cases e9
  refine ww_i2l dL_out_7 ?_
  refine ww_lastN dL_out_8 k9 (by decide) (by decide) ?_
  refine ww_goto (tgt := 15) dL_out_9 (by decide) ?_
  refine ww_iconst (v := nI 0) dL_out_15 (by decide) ?_
  exact ww_iret dL_out_16 rfl ⟨rfl, h9, q, rfl⟩
set_option maxHeartbeats 4000000 in
theorem c_L_out_ns {l : Launch} {Z : EE} (hst : l.stackTraces = false) {h : PH} {p0 : Int32} {d mc ms : Nat} {h1 : PH} (hC : CC l Z m_X10_out d mc ms [.ref 0, .int p0] h (TH nsX h1)) (hK : hp_K h 0 = (10, 19)) : CC l Z m_L_out (d + 1) mc ms [.ref 0, .int p0, .ref 72] h (RQ (some (.int (nI 1))) (fun h9 => h9 = h1)) := by
  refine ee_entryH hst (by decide +kernel) rfl (by decide) (by simp [Value.category]) (Nat.le_of_ble_eq_true rfl) ?_
  refine ww_lv (lv2 := [.ref 0, .int p0, .ref 72, UU]) rfl ?_
  refine ww_aload_n dL_out_0 rfl rfl ?_
  refine ww_iconst (v := nI 0) dL_out_1 (by decide) ?_
  refine ww_aload_n dL_out_2 rfl rfl ?_
  refine ww_iload_n dL_out_3 rfl rfl ?_
  refine ww_cVx (M := m_L_out) (pc := 4) (st := [.int (nI 0), .ref 72]) (As := [.int p0]) hC vv_X10_out dL_out_4 wg_952 hK rfl rfl rfl (Nat.le_refl _) (Nat.le_of_ble_eq_true rfl) [] (0, 9, 12, 31) [] rfl (Or.inl rfl) (by decide) (by decide) wg_798 wn_809 (i := 3) (ln := 1) (by decide) rfl (Or.inr ⟨_, rfl, dL_out_12, rfl⟩) ?_
  refine ww_iconst (v := nI 1) (pc := 13) dL_out_13 (by decide) ?_
  exact ww_iret dL_out_14 rfl ⟨rfl, rfl⟩
theorem vx_L_out : mm_X m_L_out 3 := ⟨⟨by decide +kernel, by decide +kernel, by decide +kernel⟩, wg_950, wg_0, wg_951, by decide, by decide⟩
set_option maxHeartbeats 4000000 in
theorem c_L_round_k {l : Launch} {Z : EE} (hst : l.stackTraces = false) {h : PH} {p0 p1 p2 : Int32} {d mc ms : Nat} {P' : Res → PH → Prop} {v : Int32} (hC : CC l Z m_X10_round d mc ms [.ref 0, .int p0, .int p1, .int p2] h P') (hK : hp_K h 0 = (10, 19)) (hP : ∀ r h', P' r h' → r = .inl (some (.int v)) ∧ hp_K h' 72 = (21, 1)) : CC l Z m_L_round (d + 1) mc ms [.ref 0, .int p0, .int p1, .int p2, .ref 72] h (RQ (some (.int (nI 0))) (fun h9 => ∃ h', P' (.inl (some (.int v))) h' ∧ h9 = outS h' v)) := by
  refine ee_entryH hst (by decide +kernel) rfl (by decide) (by simp [Value.category]) (Nat.le_of_ble_eq_true rfl) ?_
  refine ww_lv (lv2 := [.ref 0, .int p0, .int p1, .int p2, .ref 72, UU]) rfl ?_
  refine ww_aload dL_round_0 rfl ?_
  refine ww_iconst (v := nI 0) dL_round_2 (by decide) ?_
  refine ww_aload_n dL_round_3 rfl rfl ?_
  refine ww_iload_n dL_round_4 rfl rfl ?_
  refine ww_iload_n dL_round_5 rfl rfl ?_
  refine ww_iload_n dL_round_6 rfl rfl ?_
  refine ww_cVn (M := m_L_round) (pc := 7) (st := [.int (nI 0), .ref 72]) (As := [.int p0, .int p1, .int p2]) hC vv_X10_round dL_round_7 wg_965 hK rfl rfl rfl (Nat.le_refl _) (Nat.le_of_ble_eq_true rfl) (fun E h9 q => by cases (hP _ _ q).1) (fun v9 h9 q => ?_)
  obtain ⟨e9, k9⟩ := hP _ _ q
  cases e9
  refine ww_i2l dL_round_10 ?_
  refine ww_lastN dL_round_11 k9 (by decide) (by decide) ?_
  refine ww_goto (tgt := 23) dL_round_12 (by decide) ?_
  refine ww_iconst (v := nI 0) dL_round_23 (by decide) ?_
  exact ww_iret dL_round_24 rfl ⟨rfl, h9, q, rfl⟩
set_option maxHeartbeats 4000000 in
theorem c_L_round_ns {l : Launch} {Z : EE} (hst : l.stackTraces = false) {h : PH} {p0 p1 p2 : Int32} {d mc ms : Nat} {h1 : PH} (hC : CC l Z m_X10_round d mc ms [.ref 0, .int p0, .int p1, .int p2] h (TH nsX h1)) (hK : hp_K h 0 = (10, 19)) : CC l Z m_L_round (d + 1) mc ms [.ref 0, .int p0, .int p1, .int p2, .ref 72] h (RQ (some (.int (nI 1))) (fun h9 => h9 = h1)) := by
  refine ee_entryH hst (by decide +kernel) rfl (by decide) (by simp [Value.category]) (Nat.le_of_ble_eq_true rfl) ?_
  refine ww_lv (lv2 := [.ref 0, .int p0, .int p1, .int p2, .ref 72, UU]) rfl ?_
  refine ww_aload dL_round_0 rfl ?_
  refine ww_iconst (v := nI 0) dL_round_2 (by decide) ?_
  refine ww_aload_n dL_round_3 rfl rfl ?_
  refine ww_iload_n dL_round_4 rfl rfl ?_
  refine ww_iload_n dL_round_5 rfl rfl ?_
  refine ww_iload_n dL_round_6 rfl rfl ?_
  refine ww_cVx (M := m_L_round) (pc := 7) (st := [.int (nI 0), .ref 72]) (As := [.int p0, .int p1, .int p2]) hC vv_X10_round dL_round_7 wg_965 hK rfl rfl rfl (Nat.le_refl _) (Nat.le_of_ble_eq_true rfl) [] (0, 12, 15, 31) [(0, 12, 19, 13)] rfl (Or.inl rfl) (by decide) (by decide) wg_798 wn_809 (i := 5) (ln := 2) (by decide) rfl (Or.inl ⟨dL_round_15, rfl⟩) ?_
  refine ww_iconst (v := nI 1) (pc := 17) dL_round_17 (by decide) ?_
  exact ww_iret dL_round_18 rfl ⟨rfl, rfl⟩
set_option maxHeartbeats 4000000 in
theorem c_L_round_ia {l : Launch} {Z : EE} (hst : l.stackTraces = false) {h : PH} {p0 p1 p2 : Int32} {d mc ms : Nat} {h1 : PH} (hC : CC l Z m_X10_round d mc ms [.ref 0, .int p0, .int p1, .int p2] h (TH iaX h1)) (hK : hp_K h 0 = (10, 19)) : CC l Z m_L_round (d + 1) mc ms [.ref 0, .int p0, .int p1, .int p2, .ref 72] h (RQ (some (.int (nI 2))) (fun h9 => h9 = h1)) := by
  refine ee_entryH hst (by decide +kernel) rfl (by decide) (by simp [Value.category]) (Nat.le_of_ble_eq_true rfl) ?_
  refine ww_lv (lv2 := [.ref 0, .int p0, .int p1, .int p2, .ref 72, UU]) rfl ?_
  refine ww_aload dL_round_0 rfl ?_
  refine ww_iconst (v := nI 0) dL_round_2 (by decide) ?_
  refine ww_aload_n dL_round_3 rfl rfl ?_
  refine ww_iload_n dL_round_4 rfl rfl ?_
  refine ww_iload_n dL_round_5 rfl rfl ?_
  refine ww_iload_n dL_round_6 rfl rfl ?_
  refine ww_cVx (M := m_L_round) (pc := 7) (st := [.int (nI 0), .ref 72]) (As := [.int p0, .int p1, .int p2]) hC vv_X10_round dL_round_7 wg_965 hK rfl rfl rfl (Nat.le_refl _) (Nat.le_of_ble_eq_true rfl) [(0, 12, 15, 31)] (0, 12, 19, 13) [] rfl (Or.inr ⟨_, rfl, by decide, wg_798, rfl⟩) (by decide) (by decide) wg_405 wn_416 (i := 5) (ln := 2) (by decide) rfl (Or.inl ⟨dL_round_19, rfl⟩) ?_
  refine ww_iconst (v := nI 2) (pc := 21) dL_round_21 (by decide) ?_
  exact ww_iret dL_round_22 rfl ⟨rfl, rfl⟩
theorem vx_L_round : mm_X m_L_round 5 := ⟨⟨by decide +kernel, by decide +kernel, by decide +kernel⟩, wg_963, wg_0, wg_964, by decide, by decide⟩
set_option maxHeartbeats 4000000 in
theorem c_L_buy_k {l : Launch} {Z : EE} (hst : l.stackTraces = false) {h : PH} {p0 p1 : Int32} {d mc ms : Nat} {P' : Res → PH → Prop} {v : Int32} (hC : CC l Z m_X10_buy d mc ms [.ref 0, .int p0, .int p1] h P') (hK : hp_K h 0 = (10, 19)) (hP : ∀ r h', P' r h' → r = .inl (some (.int v)) ∧ hp_K h' 72 = (21, 1)) : CC l Z m_L_buy (d + 1) mc ms [.ref 0, .int p0, .int p1, .ref 72] h (RQ (some (.int (nI 0))) (fun h9 => ∃ h', P' (.inl (some (.int v))) h' ∧ h9 = outS h' v)) := by
  refine ee_entryH hst (by decide +kernel) rfl (by decide) (by simp [Value.category]) (Nat.le_of_ble_eq_true rfl) ?_
  refine ww_lv (lv2 := [.ref 0, .int p0, .int p1, .ref 72, UU]) rfl ?_
  refine ww_aload_n dL_buy_0 rfl rfl ?_
  refine ww_iconst (v := nI 0) dL_buy_1 (by decide) ?_
  refine ww_aload_n dL_buy_2 rfl rfl ?_
  refine ww_iload_n dL_buy_3 rfl rfl ?_
  refine ww_iload_n dL_buy_4 rfl rfl ?_
  refine ww_cVn (M := m_L_buy) (pc := 5) (st := [.int (nI 0), .ref 72]) (As := [.int p0, .int p1]) hC vv_X10_buy dL_buy_5 wg_1009 hK rfl rfl rfl (Nat.le_refl _) (Nat.le_of_ble_eq_true rfl) (fun E h9 q => by cases (hP _ _ q).1) (fun v9 h9 q => ?_)
  obtain ⟨e9, k9⟩ := hP _ _ q
  cases e9
  refine ww_i2l dL_buy_8 ?_
  refine ww_lastN dL_buy_9 k9 (by decide) (by decide) ?_
  refine ww_goto (tgt := 17) dL_buy_10 (by decide) ?_
  refine ww_iconst (v := nI 0) dL_buy_17 (by decide) ?_
  exact ww_iret dL_buy_18 rfl ⟨rfl, h9, q, rfl⟩
set_option maxHeartbeats 4000000 in
theorem c_L_buy_ia {l : Launch} {Z : EE} (hst : l.stackTraces = false) {h : PH} {p0 p1 : Int32} {d mc ms : Nat} {h1 : PH} (hC : CC l Z m_X10_buy d mc ms [.ref 0, .int p0, .int p1] h (TH iaX h1)) (hK : hp_K h 0 = (10, 19)) : CC l Z m_L_buy (d + 1) mc ms [.ref 0, .int p0, .int p1, .ref 72] h (RQ (some (.int (nI 1))) (fun h9 => h9 = h1)) := by
  refine ee_entryH hst (by decide +kernel) rfl (by decide) (by simp [Value.category]) (Nat.le_of_ble_eq_true rfl) ?_
  refine ww_lv (lv2 := [.ref 0, .int p0, .int p1, .ref 72, UU]) rfl ?_
  refine ww_aload_n dL_buy_0 rfl rfl ?_
  refine ww_iconst (v := nI 0) dL_buy_1 (by decide) ?_
  refine ww_aload_n dL_buy_2 rfl rfl ?_
  refine ww_iload_n dL_buy_3 rfl rfl ?_
  refine ww_iload_n dL_buy_4 rfl rfl ?_
  refine ww_cVx (M := m_L_buy) (pc := 5) (st := [.int (nI 0), .ref 72]) (As := [.int p0, .int p1]) hC vv_X10_buy dL_buy_5 wg_1009 hK rfl rfl rfl (Nat.le_refl _) (Nat.le_of_ble_eq_true rfl) [] (0, 10, 13, 13) [] rfl (Or.inl rfl) (by decide) (by decide) wg_405 wn_416 (i := 4) (ln := 2) (by decide) rfl (Or.inl ⟨dL_buy_13, rfl⟩) ?_
  refine ww_iconst (v := nI 1) (pc := 15) dL_buy_15 (by decide) ?_
  exact ww_iret dL_buy_16 rfl ⟨rfl, rfl⟩
theorem vx_L_buy : mm_X m_L_buy 4 := ⟨⟨by decide +kernel, by decide +kernel, by decide +kernel⟩, wg_1007, wg_0, wg_1008, by decide, by decide⟩
set_option maxHeartbeats 4000000 in
theorem c_L_meant_k {l : Launch} {Z : EE} (hst : l.stackTraces = false) {h : PH} {p0 p1 p2 : Int32} {d mc ms : Nat} {P' : Res → PH → Prop} {v : Int32} (hC : CC l Z m_X10_meant d mc ms [.ref 0, .int p0, .int p1, .int p2] h P') (hK : hp_K h 0 = (10, 19)) (hP : ∀ r h', P' r h' → r = .inl (some (.int v)) ∧ hp_K h' 72 = (21, 1)) : CC l Z m_L_meant (d + 1) mc ms [.ref 0, .int p0, .int p1, .int p2, .ref 72] h (RQ (some (.int (nI 0))) (fun h9 => ∃ h', P' (.inl (some (.int v))) h' ∧ h9 = outS h' v)) := by
  refine ee_entryH hst (by decide +kernel) rfl (by decide) (by simp [Value.category]) (Nat.le_of_ble_eq_true rfl) ?_
  refine ww_lv (lv2 := [.ref 0, .int p0, .int p1, .int p2, .ref 72, UU]) rfl ?_
  refine ww_aload dL_meant_0 rfl ?_
  refine ww_iconst (v := nI 0) dL_meant_2 (by decide) ?_
  refine ww_aload_n dL_meant_3 rfl rfl ?_
  refine ww_iload_n dL_meant_4 rfl rfl ?_
  refine ww_iload_n dL_meant_5 rfl rfl ?_
  refine ww_iload_n dL_meant_6 rfl rfl ?_
  refine ww_cVn (M := m_L_meant) (pc := 7) (st := [.int (nI 0), .ref 72]) (As := [.int p0, .int p1, .int p2]) hC vv_X10_meant dL_meant_7 wg_1030 hK rfl rfl rfl (Nat.le_refl _) (Nat.le_of_ble_eq_true rfl) (fun E h9 q => by cases (hP _ _ q).1) (fun v9 h9 q => ?_)
  obtain ⟨e9, k9⟩ := hP _ _ q
  cases e9
  refine ww_i2l dL_meant_10 ?_
  refine ww_lastN dL_meant_11 k9 (by decide) (by decide) ?_
  refine ww_goto (tgt := 19) dL_meant_12 (by decide) ?_
  refine ww_iconst (v := nI 0) dL_meant_19 (by decide) ?_
  exact ww_iret dL_meant_20 rfl ⟨rfl, h9, q, rfl⟩
set_option maxHeartbeats 4000000 in
theorem c_L_meant_ia {l : Launch} {Z : EE} (hst : l.stackTraces = false) {h : PH} {p0 p1 p2 : Int32} {d mc ms : Nat} {h1 : PH} (hC : CC l Z m_X10_meant d mc ms [.ref 0, .int p0, .int p1, .int p2] h (TH iaX h1)) (hK : hp_K h 0 = (10, 19)) : CC l Z m_L_meant (d + 1) mc ms [.ref 0, .int p0, .int p1, .int p2, .ref 72] h (RQ (some (.int (nI 1))) (fun h9 => h9 = h1)) := by
  refine ee_entryH hst (by decide +kernel) rfl (by decide) (by simp [Value.category]) (Nat.le_of_ble_eq_true rfl) ?_
  refine ww_lv (lv2 := [.ref 0, .int p0, .int p1, .int p2, .ref 72, UU]) rfl ?_
  refine ww_aload dL_meant_0 rfl ?_
  refine ww_iconst (v := nI 0) dL_meant_2 (by decide) ?_
  refine ww_aload_n dL_meant_3 rfl rfl ?_
  refine ww_iload_n dL_meant_4 rfl rfl ?_
  refine ww_iload_n dL_meant_5 rfl rfl ?_
  refine ww_iload_n dL_meant_6 rfl rfl ?_
  refine ww_cVx (M := m_L_meant) (pc := 7) (st := [.int (nI 0), .ref 72]) (As := [.int p0, .int p1, .int p2]) hC vv_X10_meant dL_meant_7 wg_1030 hK rfl rfl rfl (Nat.le_refl _) (Nat.le_of_ble_eq_true rfl) [] (0, 12, 15, 13) [] rfl (Or.inl rfl) (by decide) (by decide) wg_405 wn_416 (i := 5) (ln := 2) (by decide) rfl (Or.inl ⟨dL_meant_15, rfl⟩) ?_
  refine ww_iconst (v := nI 1) (pc := 17) dL_meant_17 (by decide) ?_
  exact ww_iret dL_meant_18 rfl ⟨rfl, rfl⟩
theorem vx_L_meant : mm_X m_L_meant 5 := ⟨⟨by decide +kernel, by decide +kernel, by decide +kernel⟩, wg_1028, wg_0, wg_1029, by decide, by decide⟩
set_option maxHeartbeats 4000000 in
theorem c_L_look_k {l : Launch} {Z : EE} (hst : l.stackTraces = false) {h : PH} {p0 p1 p2 : Int32} {d mc ms : Nat} {P' : Res → PH → Prop} {v : Int32} (hC : CC l Z m_X10_look d mc ms [.ref 0, .int p0, .int p1, .int p2] h P') (hK : hp_K h 0 = (10, 19)) (hP : ∀ r h', P' r h' → r = .inl (some (.int v)) ∧ hp_K h' 72 = (21, 1)) : CC l Z m_L_look (d + 1) mc ms [.ref 0, .int p0, .int p1, .int p2, .ref 72] h (RQ (some (.int (nI 0))) (fun h9 => ∃ h', P' (.inl (some (.int v))) h' ∧ h9 = outS h' v)) := by
  refine ee_entryH hst (by decide +kernel) rfl (by decide) (by simp [Value.category]) (Nat.le_of_ble_eq_true rfl) ?_
  refine ww_lv (lv2 := [.ref 0, .int p0, .int p1, .int p2, .ref 72, UU]) rfl ?_
  refine ww_aload dL_look_0 rfl ?_
  refine ww_iconst (v := nI 0) dL_look_2 (by decide) ?_
  refine ww_aload_n dL_look_3 rfl rfl ?_
  refine ww_iload_n dL_look_4 rfl rfl ?_
  refine ww_iload_n dL_look_5 rfl rfl ?_
  refine ww_iload_n dL_look_6 rfl rfl ?_
  refine ww_cVn (M := m_L_look) (pc := 7) (st := [.int (nI 0), .ref 72]) (As := [.int p0, .int p1, .int p2]) hC vv_X10_look dL_look_7 wg_1061 hK rfl rfl rfl (Nat.le_refl _) (Nat.le_of_ble_eq_true rfl) (fun E h9 q => by cases (hP _ _ q).1) (fun v9 h9 q => ?_)
  obtain ⟨e9, k9⟩ := hP _ _ q
  cases e9
  refine ww_i2l dL_look_10 ?_
  refine ww_lastN dL_look_11 k9 (by decide) (by decide) ?_
  refine ww_goto (tgt := 19) dL_look_12 (by decide) ?_
  refine ww_iconst (v := nI 0) dL_look_19 (by decide) ?_
  exact ww_iret dL_look_20 rfl ⟨rfl, h9, q, rfl⟩
set_option maxHeartbeats 4000000 in
theorem c_L_look_ia {l : Launch} {Z : EE} (hst : l.stackTraces = false) {h : PH} {p0 p1 p2 : Int32} {d mc ms : Nat} {h1 : PH} (hC : CC l Z m_X10_look d mc ms [.ref 0, .int p0, .int p1, .int p2] h (TH iaX h1)) (hK : hp_K h 0 = (10, 19)) : CC l Z m_L_look (d + 1) mc ms [.ref 0, .int p0, .int p1, .int p2, .ref 72] h (RQ (some (.int (nI 1))) (fun h9 => h9 = h1)) := by
  refine ee_entryH hst (by decide +kernel) rfl (by decide) (by simp [Value.category]) (Nat.le_of_ble_eq_true rfl) ?_
  refine ww_lv (lv2 := [.ref 0, .int p0, .int p1, .int p2, .ref 72, UU]) rfl ?_
  refine ww_aload dL_look_0 rfl ?_
  refine ww_iconst (v := nI 0) dL_look_2 (by decide) ?_
  refine ww_aload_n dL_look_3 rfl rfl ?_
  refine ww_iload_n dL_look_4 rfl rfl ?_
  refine ww_iload_n dL_look_5 rfl rfl ?_
  refine ww_iload_n dL_look_6 rfl rfl ?_
  refine ww_cVx (M := m_L_look) (pc := 7) (st := [.int (nI 0), .ref 72]) (As := [.int p0, .int p1, .int p2]) hC vv_X10_look dL_look_7 wg_1061 hK rfl rfl rfl (Nat.le_refl _) (Nat.le_of_ble_eq_true rfl) [] (0, 12, 15, 13) [] rfl (Or.inl rfl) (by decide) (by decide) wg_405 wn_416 (i := 5) (ln := 2) (by decide) rfl (Or.inl ⟨dL_look_15, rfl⟩) ?_
  refine ww_iconst (v := nI 1) (pc := 17) dL_look_17 (by decide) ?_
  exact ww_iret dL_look_18 rfl ⟨rfl, rfl⟩
theorem vx_L_look : mm_X m_L_look 5 := ⟨⟨by decide +kernel, by decide +kernel, by decide +kernel⟩, wg_1059, wg_0, wg_1060, by decide, by decide⟩
set_option maxHeartbeats 4000000 in
theorem c_L_dice_k {l : Launch} {Z : EE} (hst : l.stackTraces = false) {h : PH} {p0 p1 : Int32} {d mc ms : Nat} {P' : Res → PH → Prop} {v : Int32} (hC : CC l Z m_X10_dice d mc ms [.ref 0, .int p0, .int p1] h P') (hK : hp_K h 0 = (10, 19)) (hP : ∀ r h', P' r h' → r = .inl (some (.int v)) ∧ hp_K h' 72 = (21, 1)) : CC l Z m_L_dice (d + 1) mc ms [.ref 0, .int p0, .int p1, .ref 72] h (RQ (some (.int (nI 0))) (fun h9 => ∃ h', P' (.inl (some (.int v))) h' ∧ h9 = outS h' v)) := by
  refine ee_entryH hst (by decide +kernel) rfl (by decide) (by simp [Value.category]) (Nat.le_of_ble_eq_true rfl) ?_
  refine ww_lv (lv2 := [.ref 0, .int p0, .int p1, .ref 72, UU]) rfl ?_
  refine ww_aload_n dL_dice_0 rfl rfl ?_
  refine ww_iconst (v := nI 0) dL_dice_1 (by decide) ?_
  refine ww_aload_n dL_dice_2 rfl rfl ?_
  refine ww_iload_n dL_dice_3 rfl rfl ?_
  refine ww_iload_n dL_dice_4 rfl rfl ?_
  refine ww_cVn (M := m_L_dice) (pc := 5) (st := [.int (nI 0), .ref 72]) (As := [.int p0, .int p1]) hC vv_X10_dice dL_dice_5 wg_1078 hK rfl rfl rfl (Nat.le_refl _) (Nat.le_of_ble_eq_true rfl) (fun E h9 q => by cases (hP _ _ q).1) (fun v9 h9 q => ?_)
  obtain ⟨e9, k9⟩ := hP _ _ q
  cases e9
  refine ww_i2l dL_dice_8 ?_
  refine ww_lastN dL_dice_9 k9 (by decide) (by decide) ?_
  refine ww_goto (tgt := 17) dL_dice_10 (by decide) ?_
  refine ww_iconst (v := nI 0) dL_dice_17 (by decide) ?_
  exact ww_iret dL_dice_18 rfl ⟨rfl, h9, q, rfl⟩
set_option maxHeartbeats 4000000 in
theorem c_L_dice_ia {l : Launch} {Z : EE} (hst : l.stackTraces = false) {h : PH} {p0 p1 : Int32} {d mc ms : Nat} {h1 : PH} (hC : CC l Z m_X10_dice d mc ms [.ref 0, .int p0, .int p1] h (TH iaX h1)) (hK : hp_K h 0 = (10, 19)) : CC l Z m_L_dice (d + 1) mc ms [.ref 0, .int p0, .int p1, .ref 72] h (RQ (some (.int (nI 1))) (fun h9 => h9 = h1)) := by
  refine ee_entryH hst (by decide +kernel) rfl (by decide) (by simp [Value.category]) (Nat.le_of_ble_eq_true rfl) ?_
  refine ww_lv (lv2 := [.ref 0, .int p0, .int p1, .ref 72, UU]) rfl ?_
  refine ww_aload_n dL_dice_0 rfl rfl ?_
  refine ww_iconst (v := nI 0) dL_dice_1 (by decide) ?_
  refine ww_aload_n dL_dice_2 rfl rfl ?_
  refine ww_iload_n dL_dice_3 rfl rfl ?_
  refine ww_iload_n dL_dice_4 rfl rfl ?_
  refine ww_cVx (M := m_L_dice) (pc := 5) (st := [.int (nI 0), .ref 72]) (As := [.int p0, .int p1]) hC vv_X10_dice dL_dice_5 wg_1078 hK rfl rfl rfl (Nat.le_refl _) (Nat.le_of_ble_eq_true rfl) [] (0, 10, 13, 13) [] rfl (Or.inl rfl) (by decide) (by decide) wg_405 wn_416 (i := 4) (ln := 2) (by decide) rfl (Or.inl ⟨dL_dice_13, rfl⟩) ?_
  refine ww_iconst (v := nI 1) (pc := 15) dL_dice_15 (by decide) ?_
  exact ww_iret dL_dice_16 rfl ⟨rfl, rfl⟩
theorem vx_L_dice : mm_X m_L_dice 4 := ⟨⟨by decide +kernel, by decide +kernel, by decide +kernel⟩, wg_1076, wg_0, wg_1077, by decide, by decide⟩
set_option maxHeartbeats 4000000 in
theorem c_L_lets_k {l : Launch} {Z : EE} (hst : l.stackTraces = false) {h : PH} {p0 p1 : Int32} {d mc ms : Nat} {P' : Res → PH → Prop} {v : Int32} (hC : CC l Z m_X10_lets d mc ms [.ref 0, .int p0, .int p1] h P') (hK : hp_K h 0 = (10, 19)) (hP : ∀ r h', P' r h' → r = .inl (some (.int v)) ∧ hp_K h' 72 = (21, 1)) : CC l Z m_L_lets (d + 1) mc ms [.ref 0, .int p0, .int p1, .ref 72] h (RQ (some (.int (nI 0))) (fun h9 => ∃ h', P' (.inl (some (.int v))) h' ∧ h9 = outS h' v)) := by
  refine ee_entryH hst (by decide +kernel) rfl (by decide) (by simp [Value.category]) (Nat.le_of_ble_eq_true rfl) ?_
  refine ww_lv (lv2 := [.ref 0, .int p0, .int p1, .ref 72, UU]) rfl ?_
  refine ww_aload_n dL_lets_0 rfl rfl ?_
  refine ww_iconst (v := nI 0) dL_lets_1 (by decide) ?_
  refine ww_aload_n dL_lets_2 rfl rfl ?_
  refine ww_iload_n dL_lets_3 rfl rfl ?_
  refine ww_iload_n dL_lets_4 rfl rfl ?_
  refine ww_cVn (M := m_L_lets) (pc := 5) (st := [.int (nI 0), .ref 72]) (As := [.int p0, .int p1]) hC vv_X10_lets dL_lets_5 wg_1088 hK rfl rfl rfl (Nat.le_refl _) (Nat.le_of_ble_eq_true rfl) (fun E h9 q => by cases (hP _ _ q).1) (fun v9 h9 q => ?_)
  obtain ⟨e9, k9⟩ := hP _ _ q
  cases e9
  refine ww_i2l dL_lets_8 ?_
  refine ww_lastN dL_lets_9 k9 (by decide) (by decide) ?_
  refine ww_goto (tgt := 17) dL_lets_10 (by decide) ?_
  refine ww_iconst (v := nI 0) dL_lets_17 (by decide) ?_
  exact ww_iret dL_lets_18 rfl ⟨rfl, h9, q, rfl⟩
set_option maxHeartbeats 4000000 in
theorem c_L_lets_ia {l : Launch} {Z : EE} (hst : l.stackTraces = false) {h : PH} {p0 p1 : Int32} {d mc ms : Nat} {h1 : PH} (hC : CC l Z m_X10_lets d mc ms [.ref 0, .int p0, .int p1] h (TH iaX h1)) (hK : hp_K h 0 = (10, 19)) : CC l Z m_L_lets (d + 1) mc ms [.ref 0, .int p0, .int p1, .ref 72] h (RQ (some (.int (nI 1))) (fun h9 => h9 = h1)) := by
  refine ee_entryH hst (by decide +kernel) rfl (by decide) (by simp [Value.category]) (Nat.le_of_ble_eq_true rfl) ?_
  refine ww_lv (lv2 := [.ref 0, .int p0, .int p1, .ref 72, UU]) rfl ?_
  refine ww_aload_n dL_lets_0 rfl rfl ?_
  refine ww_iconst (v := nI 0) dL_lets_1 (by decide) ?_
  refine ww_aload_n dL_lets_2 rfl rfl ?_
  refine ww_iload_n dL_lets_3 rfl rfl ?_
  refine ww_iload_n dL_lets_4 rfl rfl ?_
  refine ww_cVx (M := m_L_lets) (pc := 5) (st := [.int (nI 0), .ref 72]) (As := [.int p0, .int p1]) hC vv_X10_lets dL_lets_5 wg_1088 hK rfl rfl rfl (Nat.le_refl _) (Nat.le_of_ble_eq_true rfl) [] (0, 10, 13, 13) [] rfl (Or.inl rfl) (by decide) (by decide) wg_405 wn_416 (i := 4) (ln := 2) (by decide) rfl (Or.inl ⟨dL_lets_13, rfl⟩) ?_
  refine ww_iconst (v := nI 1) (pc := 15) dL_lets_15 (by decide) ?_
  exact ww_iret dL_lets_16 rfl ⟨rfl, rfl⟩
theorem vx_L_lets : mm_X m_L_lets 4 := ⟨⟨by decide +kernel, by decide +kernel, by decide +kernel⟩, wg_1086, wg_0, wg_1087, by decide, by decide⟩
set_option maxHeartbeats 4000000 in
theorem c_L_tax_k {l : Launch} {Z : EE} (hst : l.stackTraces = false) {h : PH} {p0 p1 : Int32} {d mc ms : Nat} {P' : Res → PH → Prop} {v : Int32} (hC : CC l Z m_X10_tax d mc ms [.ref 0, .int p0, .int p1] h P') (hK : hp_K h 0 = (10, 19)) (hP : ∀ r h', P' r h' → r = .inl (some (.int v)) ∧ hp_K h' 72 = (21, 1)) : CC l Z m_L_tax (d + 1) mc ms [.ref 0, .int p0, .int p1, .ref 72] h (RQ (some (.int (nI 0))) (fun h9 => ∃ h', P' (.inl (some (.int v))) h' ∧ h9 = outS h' v)) := by
  refine ee_entryH hst (by decide +kernel) rfl (by decide) (by simp [Value.category]) (Nat.le_of_ble_eq_true rfl) ?_
  refine ww_lv (lv2 := [.ref 0, .int p0, .int p1, .ref 72, UU]) rfl ?_
  refine ww_aload_n dL_tax_0 rfl rfl ?_
  refine ww_iconst (v := nI 0) dL_tax_1 (by decide) ?_
  refine ww_aload_n dL_tax_2 rfl rfl ?_
  refine ww_iload_n dL_tax_3 rfl rfl ?_
  refine ww_iload_n dL_tax_4 rfl rfl ?_
  refine ww_cVn (M := m_L_tax) (pc := 5) (st := [.int (nI 0), .ref 72]) (As := [.int p0, .int p1]) hC vv_X10_tax dL_tax_5 wg_1101 hK rfl rfl rfl (Nat.le_refl _) (Nat.le_of_ble_eq_true rfl) (fun E h9 q => by cases (hP _ _ q).1) (fun v9 h9 q => ?_)
  obtain ⟨e9, k9⟩ := hP _ _ q
  cases e9
  refine ww_i2l dL_tax_8 ?_
  refine ww_lastN dL_tax_9 k9 (by decide) (by decide) ?_
  refine ww_goto (tgt := 21) dL_tax_10 (by decide) ?_
  refine ww_iconst (v := nI 0) dL_tax_21 (by decide) ?_
  exact ww_iret dL_tax_22 rfl ⟨rfl, h9, q, rfl⟩
set_option maxHeartbeats 4000000 in
theorem c_L_tax_ns {l : Launch} {Z : EE} (hst : l.stackTraces = false) {h : PH} {p0 p1 : Int32} {d mc ms : Nat} {h1 : PH} (hC : CC l Z m_X10_tax d mc ms [.ref 0, .int p0, .int p1] h (TH nsX h1)) (hK : hp_K h 0 = (10, 19)) : CC l Z m_L_tax (d + 1) mc ms [.ref 0, .int p0, .int p1, .ref 72] h (RQ (some (.int (nI 1))) (fun h9 => h9 = h1)) := by
  refine ee_entryH hst (by decide +kernel) rfl (by decide) (by simp [Value.category]) (Nat.le_of_ble_eq_true rfl) ?_
  refine ww_lv (lv2 := [.ref 0, .int p0, .int p1, .ref 72, UU]) rfl ?_
  refine ww_aload_n dL_tax_0 rfl rfl ?_
  refine ww_iconst (v := nI 0) dL_tax_1 (by decide) ?_
  refine ww_aload_n dL_tax_2 rfl rfl ?_
  refine ww_iload_n dL_tax_3 rfl rfl ?_
  refine ww_iload_n dL_tax_4 rfl rfl ?_
  refine ww_cVx (M := m_L_tax) (pc := 5) (st := [.int (nI 0), .ref 72]) (As := [.int p0, .int p1]) hC vv_X10_tax dL_tax_5 wg_1101 hK rfl rfl rfl (Nat.le_refl _) (Nat.le_of_ble_eq_true rfl) [] (0, 10, 13, 31) [(0, 10, 17, 13)] rfl (Or.inl rfl) (by decide) (by decide) wg_798 wn_809 (i := 4) (ln := 2) (by decide) rfl (Or.inl ⟨dL_tax_13, rfl⟩) ?_
  refine ww_iconst (v := nI 1) (pc := 15) dL_tax_15 (by decide) ?_
  exact ww_iret dL_tax_16 rfl ⟨rfl, rfl⟩
set_option maxHeartbeats 4000000 in
theorem c_L_tax_ia {l : Launch} {Z : EE} (hst : l.stackTraces = false) {h : PH} {p0 p1 : Int32} {d mc ms : Nat} {h1 : PH} (hC : CC l Z m_X10_tax d mc ms [.ref 0, .int p0, .int p1] h (TH iaX h1)) (hK : hp_K h 0 = (10, 19)) : CC l Z m_L_tax (d + 1) mc ms [.ref 0, .int p0, .int p1, .ref 72] h (RQ (some (.int (nI 2))) (fun h9 => h9 = h1)) := by
  refine ee_entryH hst (by decide +kernel) rfl (by decide) (by simp [Value.category]) (Nat.le_of_ble_eq_true rfl) ?_
  refine ww_lv (lv2 := [.ref 0, .int p0, .int p1, .ref 72, UU]) rfl ?_
  refine ww_aload_n dL_tax_0 rfl rfl ?_
  refine ww_iconst (v := nI 0) dL_tax_1 (by decide) ?_
  refine ww_aload_n dL_tax_2 rfl rfl ?_
  refine ww_iload_n dL_tax_3 rfl rfl ?_
  refine ww_iload_n dL_tax_4 rfl rfl ?_
  refine ww_cVx (M := m_L_tax) (pc := 5) (st := [.int (nI 0), .ref 72]) (As := [.int p0, .int p1]) hC vv_X10_tax dL_tax_5 wg_1101 hK rfl rfl rfl (Nat.le_refl _) (Nat.le_of_ble_eq_true rfl) [(0, 10, 13, 31)] (0, 10, 17, 13) [] rfl (Or.inr ⟨_, rfl, by decide, wg_798, rfl⟩) (by decide) (by decide) wg_405 wn_416 (i := 4) (ln := 2) (by decide) rfl (Or.inl ⟨dL_tax_17, rfl⟩) ?_
  refine ww_iconst (v := nI 2) (pc := 19) dL_tax_19 (by decide) ?_
  exact ww_iret dL_tax_20 rfl ⟨rfl, rfl⟩
theorem vx_L_tax : mm_X m_L_tax 4 := ⟨⟨by decide +kernel, by decide +kernel, by decide +kernel⟩, wg_1099, wg_0, wg_1100, by decide, by decide⟩
set_option maxHeartbeats 4000000 in
theorem c_L_dearest_k {l : Launch} {Z : EE} (hst : l.stackTraces = false) {h : PH} {p0 p1 p2 : Int32} {d mc ms : Nat} {P' : Res → PH → Prop} {v : Int32} (hC : CC l Z m_X10_dearest d mc ms [.ref 0, .int p0, .int p1, .int p2] h P') (hK : hp_K h 0 = (10, 19)) (hP : ∀ r h', P' r h' → r = .inl (some (.int v)) ∧ hp_K h' 72 = (21, 1)) : CC l Z m_L_dearest (d + 1) mc ms [.ref 0, .int p0, .int p1, .int p2, .ref 72] h (RQ (some (.int (nI 0))) (fun h9 => ∃ h', P' (.inl (some (.int v))) h' ∧ h9 = outS h' v)) := by
  refine ee_entryH hst (by decide +kernel) rfl (by decide) (by simp [Value.category]) (Nat.le_of_ble_eq_true rfl) ?_
  refine ww_lv (lv2 := [.ref 0, .int p0, .int p1, .int p2, .ref 72, UU]) rfl ?_
  refine ww_aload dL_dearest_0 rfl ?_
  refine ww_iconst (v := nI 0) dL_dearest_2 (by decide) ?_
  refine ww_aload_n dL_dearest_3 rfl rfl ?_
  refine ww_iload_n dL_dearest_4 rfl rfl ?_
  refine ww_iload_n dL_dearest_5 rfl rfl ?_
  refine ww_iload_n dL_dearest_6 rfl rfl ?_
  refine ww_cVn (M := m_L_dearest) (pc := 7) (st := [.int (nI 0), .ref 72]) (As := [.int p0, .int p1, .int p2]) hC vv_X10_dearest dL_dearest_7 wg_1109 hK rfl rfl rfl (Nat.le_refl _) (Nat.le_of_ble_eq_true rfl) (fun E h9 q => by cases (hP _ _ q).1) (fun v9 h9 q => ?_)
  obtain ⟨e9, k9⟩ := hP _ _ q
  cases e9
  refine ww_i2l dL_dearest_10 ?_
  refine ww_lastN dL_dearest_11 k9 (by decide) (by decide) ?_
  refine ww_goto (tgt := 19) dL_dearest_12 (by decide) ?_
  refine ww_iconst (v := nI 0) dL_dearest_19 (by decide) ?_
  exact ww_iret dL_dearest_20 rfl ⟨rfl, h9, q, rfl⟩
set_option maxHeartbeats 4000000 in
theorem c_L_dearest_ia {l : Launch} {Z : EE} (hst : l.stackTraces = false) {h : PH} {p0 p1 p2 : Int32} {d mc ms : Nat} {h1 : PH} (hC : CC l Z m_X10_dearest d mc ms [.ref 0, .int p0, .int p1, .int p2] h (TH iaX h1)) (hK : hp_K h 0 = (10, 19)) : CC l Z m_L_dearest (d + 1) mc ms [.ref 0, .int p0, .int p1, .int p2, .ref 72] h (RQ (some (.int (nI 1))) (fun h9 => h9 = h1)) := by
  refine ee_entryH hst (by decide +kernel) rfl (by decide) (by simp [Value.category]) (Nat.le_of_ble_eq_true rfl) ?_
  refine ww_lv (lv2 := [.ref 0, .int p0, .int p1, .int p2, .ref 72, UU]) rfl ?_
  refine ww_aload dL_dearest_0 rfl ?_
  refine ww_iconst (v := nI 0) dL_dearest_2 (by decide) ?_
  refine ww_aload_n dL_dearest_3 rfl rfl ?_
  refine ww_iload_n dL_dearest_4 rfl rfl ?_
  refine ww_iload_n dL_dearest_5 rfl rfl ?_
  refine ww_iload_n dL_dearest_6 rfl rfl ?_
  refine ww_cVx (M := m_L_dearest) (pc := 7) (st := [.int (nI 0), .ref 72]) (As := [.int p0, .int p1, .int p2]) hC vv_X10_dearest dL_dearest_7 wg_1109 hK rfl rfl rfl (Nat.le_refl _) (Nat.le_of_ble_eq_true rfl) [] (0, 12, 15, 13) [] rfl (Or.inl rfl) (by decide) (by decide) wg_405 wn_416 (i := 5) (ln := 2) (by decide) rfl (Or.inl ⟨dL_dearest_15, rfl⟩) ?_
  refine ww_iconst (v := nI 1) (pc := 17) dL_dearest_17 (by decide) ?_
  exact ww_iret dL_dearest_18 rfl ⟨rfl, rfl⟩
theorem vx_L_dearest : mm_X m_L_dearest 5 := ⟨⟨by decide +kernel, by decide +kernel, by decide +kernel⟩, wg_1107, wg_0, wg_1108, by decide, by decide⟩
set_option maxHeartbeats 4000000 in
theorem c_L_landlord_k {l : Launch} {Z : EE} (hst : l.stackTraces = false) {h : PH} {p0 : Int32} {d mc ms : Nat} {P' : Res → PH → Prop} {v : Int32} (hC : CC l Z m_X10_landlord d mc ms [.ref 0, .int p0] h P') (hK : hp_K h 0 = (10, 19)) (hP : ∀ r h', P' r h' → r = .inl (some (.int v)) ∧ hp_K h' 72 = (21, 1)) : CC l Z m_L_landlord (d + 1) mc ms [.ref 0, .int p0, .ref 72] h (RQ (some (.int (nI 0))) (fun h9 => ∃ h', P' (.inl (some (.int v))) h' ∧ h9 = outS h' v)) := by
  refine ee_entryH hst (by decide +kernel) rfl (by decide) (by simp [Value.category]) (Nat.le_of_ble_eq_true rfl) ?_
  refine ww_lv (lv2 := [.ref 0, .int p0, .ref 72, UU]) rfl ?_
  refine ww_aload_n dL_landlord_0 rfl rfl ?_
  refine ww_iconst (v := nI 0) dL_landlord_1 (by decide) ?_
  refine ww_aload_n dL_landlord_2 rfl rfl ?_
  refine ww_iload_n dL_landlord_3 rfl rfl ?_
  refine ww_cVn (M := m_L_landlord) (pc := 4) (st := [.int (nI 0), .ref 72]) (As := [.int p0]) hC vv_X10_landlord dL_landlord_4 wg_1116 hK rfl rfl rfl (Nat.le_refl _) (Nat.le_of_ble_eq_true rfl) (fun E h9 q => by cases (hP _ _ q).1) (fun v9 h9 q => ?_)
  obtain ⟨e9, k9⟩ := hP _ _ q
  cases e9
  refine ww_i2l dL_landlord_7 ?_
  refine ww_lastN dL_landlord_8 k9 (by decide) (by decide) ?_
  refine ww_goto (tgt := 15) dL_landlord_9 (by decide) ?_
  refine ww_iconst (v := nI 0) dL_landlord_15 (by decide) ?_
  exact ww_iret dL_landlord_16 rfl ⟨rfl, h9, q, rfl⟩
set_option maxHeartbeats 4000000 in
theorem c_L_landlord_ia {l : Launch} {Z : EE} (hst : l.stackTraces = false) {h : PH} {p0 : Int32} {d mc ms : Nat} {h1 : PH} (hC : CC l Z m_X10_landlord d mc ms [.ref 0, .int p0] h (TH iaX h1)) (hK : hp_K h 0 = (10, 19)) : CC l Z m_L_landlord (d + 1) mc ms [.ref 0, .int p0, .ref 72] h (RQ (some (.int (nI 1))) (fun h9 => h9 = h1)) := by
  refine ee_entryH hst (by decide +kernel) rfl (by decide) (by simp [Value.category]) (Nat.le_of_ble_eq_true rfl) ?_
  refine ww_lv (lv2 := [.ref 0, .int p0, .ref 72, UU]) rfl ?_
  refine ww_aload_n dL_landlord_0 rfl rfl ?_
  refine ww_iconst (v := nI 0) dL_landlord_1 (by decide) ?_
  refine ww_aload_n dL_landlord_2 rfl rfl ?_
  refine ww_iload_n dL_landlord_3 rfl rfl ?_
  refine ww_cVx (M := m_L_landlord) (pc := 4) (st := [.int (nI 0), .ref 72]) (As := [.int p0]) hC vv_X10_landlord dL_landlord_4 wg_1116 hK rfl rfl rfl (Nat.le_refl _) (Nat.le_of_ble_eq_true rfl) [] (0, 9, 12, 13) [] rfl (Or.inl rfl) (by decide) (by decide) wg_405 wn_416 (i := 3) (ln := 1) (by decide) rfl (Or.inr ⟨_, rfl, dL_landlord_12, rfl⟩) ?_
  refine ww_iconst (v := nI 1) (pc := 13) dL_landlord_13 (by decide) ?_
  exact ww_iret dL_landlord_14 rfl ⟨rfl, rfl⟩
theorem vx_L_landlord : mm_X m_L_landlord 3 := ⟨⟨by decide +kernel, by decide +kernel, by decide +kernel⟩, wg_1114, wg_0, wg_1115, by decide, by decide⟩
set_option maxHeartbeats 4000000 in
theorem c_L_common_k {l : Launch} {Z : EE} (hst : l.stackTraces = false) {h : PH} {p0 : Int32} {d mc ms : Nat} {P' : Res → PH → Prop} {v : Int32} (hC : CC l Z m_X10_common d mc ms [.ref 0, .int p0] h P') (hK : hp_K h 0 = (10, 19)) (hP : ∀ r h', P' r h' → r = .inl (some (.int v)) ∧ hp_K h' 72 = (21, 1)) : CC l Z m_L_common (d + 1) mc ms [.ref 0, .int p0, .ref 72] h (RQ (some (.int (nI 0))) (fun h9 => ∃ h', P' (.inl (some (.int v))) h' ∧ h9 = outS h' v)) := by
  refine ee_entryH hst (by decide +kernel) rfl (by decide) (by simp [Value.category]) (Nat.le_of_ble_eq_true rfl) ?_
  refine ww_lv (lv2 := [.ref 0, .int p0, .ref 72, UU]) rfl ?_
  refine ww_aload_n dL_common_0 rfl rfl ?_
  refine ww_iconst (v := nI 0) dL_common_1 (by decide) ?_
  refine ww_aload_n dL_common_2 rfl rfl ?_
  refine ww_iload_n dL_common_3 rfl rfl ?_
  refine ww_cVn (M := m_L_common) (pc := 4) (st := [.int (nI 0), .ref 72]) (As := [.int p0]) hC vv_X10_common dL_common_4 wg_1123 hK rfl rfl rfl (Nat.le_refl _) (Nat.le_of_ble_eq_true rfl) (fun E h9 q => by cases (hP _ _ q).1) (fun v9 h9 q => ?_)
  obtain ⟨e9, k9⟩ := hP _ _ q
  cases e9
  refine ww_i2l dL_common_7 ?_
  refine ww_lastN dL_common_8 k9 (by decide) (by decide) ?_
  refine ww_goto (tgt := 15) dL_common_9 (by decide) ?_
  refine ww_iconst (v := nI 0) dL_common_15 (by decide) ?_
  exact ww_iret dL_common_16 rfl ⟨rfl, h9, q, rfl⟩
set_option maxHeartbeats 4000000 in
theorem c_L_common_ia {l : Launch} {Z : EE} (hst : l.stackTraces = false) {h : PH} {p0 : Int32} {d mc ms : Nat} {h1 : PH} (hC : CC l Z m_X10_common d mc ms [.ref 0, .int p0] h (TH iaX h1)) (hK : hp_K h 0 = (10, 19)) : CC l Z m_L_common (d + 1) mc ms [.ref 0, .int p0, .ref 72] h (RQ (some (.int (nI 1))) (fun h9 => h9 = h1)) := by
  refine ee_entryH hst (by decide +kernel) rfl (by decide) (by simp [Value.category]) (Nat.le_of_ble_eq_true rfl) ?_
  refine ww_lv (lv2 := [.ref 0, .int p0, .ref 72, UU]) rfl ?_
  refine ww_aload_n dL_common_0 rfl rfl ?_
  refine ww_iconst (v := nI 0) dL_common_1 (by decide) ?_
  refine ww_aload_n dL_common_2 rfl rfl ?_
  refine ww_iload_n dL_common_3 rfl rfl ?_
  refine ww_cVx (M := m_L_common) (pc := 4) (st := [.int (nI 0), .ref 72]) (As := [.int p0]) hC vv_X10_common dL_common_4 wg_1123 hK rfl rfl rfl (Nat.le_refl _) (Nat.le_of_ble_eq_true rfl) [] (0, 9, 12, 13) [] rfl (Or.inl rfl) (by decide) (by decide) wg_405 wn_416 (i := 3) (ln := 1) (by decide) rfl (Or.inr ⟨_, rfl, dL_common_12, rfl⟩) ?_
  refine ww_iconst (v := nI 1) (pc := 13) dL_common_13 (by decide) ?_
  exact ww_iret dL_common_14 rfl ⟨rfl, rfl⟩
theorem vx_L_common : mm_X m_L_common 3 := ⟨⟨by decide +kernel, by decide +kernel, by decide +kernel⟩, wg_1121, wg_0, wg_1122, by decide, by decide⟩
set_option maxHeartbeats 4000000 in
theorem c_L_affords_k {l : Launch} {Z : EE} (hst : l.stackTraces = false) {h : PH} {p0 p1 p2 : Int32} {d mc ms : Nat} {P' : Res → PH → Prop} {v : Int32} (hC : CC l Z m_X10_affords d mc ms [.ref 0, .int p0, .int p1, .int p2] h P') (hK : hp_K h 0 = (10, 19)) (hP : ∀ r h', P' r h' → r = .inl (some (.int v)) ∧ hp_K h' 72 = (21, 1)) : CC l Z m_L_affords (d + 1) mc ms [.ref 0, .int p0, .int p1, .int p2, .ref 72] h (RQ (some (.int (nI 0))) (fun h9 => ∃ h', P' (.inl (some (.int v))) h' ∧ h9 = outS h' v)) := by
  refine ee_entryH hst (by decide +kernel) rfl (by decide) (by simp [Value.category]) (Nat.le_of_ble_eq_true rfl) ?_
  refine ww_lv (lv2 := [.ref 0, .int p0, .int p1, .int p2, .ref 72, UU]) rfl ?_
  refine ww_aload dL_affords_0 rfl ?_
  refine ww_iconst (v := nI 0) dL_affords_2 (by decide) ?_
  refine ww_aload_n dL_affords_3 rfl rfl ?_
  refine ww_iload_n dL_affords_4 rfl rfl ?_
  refine ww_iload_n dL_affords_5 rfl rfl ?_
  refine ww_iload_n dL_affords_6 rfl rfl ?_
  refine ww_cVn (M := m_L_affords) (pc := 7) (st := [.int (nI 0), .ref 72]) (As := [.int p0, .int p1, .int p2]) hC vv_X10_affords dL_affords_7 wg_1130 hK rfl rfl rfl (Nat.le_refl _) (Nat.le_of_ble_eq_true rfl) (fun E h9 q => by cases (hP _ _ q).1) (fun v9 h9 q => ?_)
  obtain ⟨e9, k9⟩ := hP _ _ q
  cases e9
  refine ww_i2l dL_affords_10 ?_
  refine ww_lastN dL_affords_11 k9 (by decide) (by decide) ?_
  refine ww_goto (tgt := 23) dL_affords_12 (by decide) ?_
  refine ww_iconst (v := nI 0) dL_affords_23 (by decide) ?_
  exact ww_iret dL_affords_24 rfl ⟨rfl, h9, q, rfl⟩
set_option maxHeartbeats 4000000 in
theorem c_L_affords_ns {l : Launch} {Z : EE} (hst : l.stackTraces = false) {h : PH} {p0 p1 p2 : Int32} {d mc ms : Nat} {h1 : PH} (hC : CC l Z m_X10_affords d mc ms [.ref 0, .int p0, .int p1, .int p2] h (TH nsX h1)) (hK : hp_K h 0 = (10, 19)) : CC l Z m_L_affords (d + 1) mc ms [.ref 0, .int p0, .int p1, .int p2, .ref 72] h (RQ (some (.int (nI 1))) (fun h9 => h9 = h1)) := by
  refine ee_entryH hst (by decide +kernel) rfl (by decide) (by simp [Value.category]) (Nat.le_of_ble_eq_true rfl) ?_
  refine ww_lv (lv2 := [.ref 0, .int p0, .int p1, .int p2, .ref 72, UU]) rfl ?_
  refine ww_aload dL_affords_0 rfl ?_
  refine ww_iconst (v := nI 0) dL_affords_2 (by decide) ?_
  refine ww_aload_n dL_affords_3 rfl rfl ?_
  refine ww_iload_n dL_affords_4 rfl rfl ?_
  refine ww_iload_n dL_affords_5 rfl rfl ?_
  refine ww_iload_n dL_affords_6 rfl rfl ?_
  refine ww_cVx (M := m_L_affords) (pc := 7) (st := [.int (nI 0), .ref 72]) (As := [.int p0, .int p1, .int p2]) hC vv_X10_affords dL_affords_7 wg_1130 hK rfl rfl rfl (Nat.le_refl _) (Nat.le_of_ble_eq_true rfl) [] (0, 12, 15, 31) [(0, 12, 19, 13)] rfl (Or.inl rfl) (by decide) (by decide) wg_798 wn_809 (i := 5) (ln := 2) (by decide) rfl (Or.inl ⟨dL_affords_15, rfl⟩) ?_
  refine ww_iconst (v := nI 1) (pc := 17) dL_affords_17 (by decide) ?_
  exact ww_iret dL_affords_18 rfl ⟨rfl, rfl⟩
set_option maxHeartbeats 4000000 in
theorem c_L_affords_ia {l : Launch} {Z : EE} (hst : l.stackTraces = false) {h : PH} {p0 p1 p2 : Int32} {d mc ms : Nat} {h1 : PH} (hC : CC l Z m_X10_affords d mc ms [.ref 0, .int p0, .int p1, .int p2] h (TH iaX h1)) (hK : hp_K h 0 = (10, 19)) : CC l Z m_L_affords (d + 1) mc ms [.ref 0, .int p0, .int p1, .int p2, .ref 72] h (RQ (some (.int (nI 2))) (fun h9 => h9 = h1)) := by
  refine ee_entryH hst (by decide +kernel) rfl (by decide) (by simp [Value.category]) (Nat.le_of_ble_eq_true rfl) ?_
  refine ww_lv (lv2 := [.ref 0, .int p0, .int p1, .int p2, .ref 72, UU]) rfl ?_
  refine ww_aload dL_affords_0 rfl ?_
  refine ww_iconst (v := nI 0) dL_affords_2 (by decide) ?_
  refine ww_aload_n dL_affords_3 rfl rfl ?_
  refine ww_iload_n dL_affords_4 rfl rfl ?_
  refine ww_iload_n dL_affords_5 rfl rfl ?_
  refine ww_iload_n dL_affords_6 rfl rfl ?_
  refine ww_cVx (M := m_L_affords) (pc := 7) (st := [.int (nI 0), .ref 72]) (As := [.int p0, .int p1, .int p2]) hC vv_X10_affords dL_affords_7 wg_1130 hK rfl rfl rfl (Nat.le_refl _) (Nat.le_of_ble_eq_true rfl) [(0, 12, 15, 31)] (0, 12, 19, 13) [] rfl (Or.inr ⟨_, rfl, by decide, wg_798, rfl⟩) (by decide) (by decide) wg_405 wn_416 (i := 5) (ln := 2) (by decide) rfl (Or.inl ⟨dL_affords_19, rfl⟩) ?_
  refine ww_iconst (v := nI 2) (pc := 21) dL_affords_21 (by decide) ?_
  exact ww_iret dL_affords_22 rfl ⟨rfl, rfl⟩
theorem vx_L_affords : mm_X m_L_affords 5 := ⟨⟨by decide +kernel, by decide +kernel, by decide +kernel⟩, wg_1128, wg_0, wg_1129, by decide, by decide⟩
set_option maxHeartbeats 4000000 in
theorem c_L_worth_k {l : Launch} {Z : EE} (hst : l.stackTraces = false) {h : PH} {p0 : Int32} {d mc ms : Nat} {P' : Res → PH → Prop} {v : Int32} (hC : CC l Z m_X10_worth d mc ms [.ref 0, .int p0] h P') (hK : hp_K h 0 = (10, 19)) (hP : ∀ r h', P' r h' → r = .inl (some (.int v)) ∧ hp_K h' 72 = (21, 1)) : CC l Z m_L_worth (d + 1) mc ms [.ref 0, .int p0, .ref 72] h (RQ (some (.int (nI 0))) (fun h9 => ∃ h', P' (.inl (some (.int v))) h' ∧ h9 = outS h' v)) := by
  refine ee_entryH hst (by decide +kernel) rfl (by decide) (by simp [Value.category]) (Nat.le_of_ble_eq_true rfl) ?_
  refine ww_lv (lv2 := [.ref 0, .int p0, .ref 72, UU]) rfl ?_
  refine ww_aload_n dL_worth_0 rfl rfl ?_
  refine ww_iconst (v := nI 0) dL_worth_1 (by decide) ?_
  refine ww_aload_n dL_worth_2 rfl rfl ?_
  refine ww_iload_n dL_worth_3 rfl rfl ?_
  refine ww_cVn (M := m_L_worth) (pc := 4) (st := [.int (nI 0), .ref 72]) (As := [.int p0]) hC vv_X10_worth dL_worth_4 wg_1137 hK rfl rfl rfl (Nat.le_refl _) (Nat.le_of_ble_eq_true rfl) (fun E h9 q => by cases (hP _ _ q).1) (fun v9 h9 q => ?_)
  obtain ⟨e9, k9⟩ := hP _ _ q
  cases e9
  refine ww_i2l dL_worth_7 ?_
  refine ww_lastN dL_worth_8 k9 (by decide) (by decide) ?_
  refine ww_goto (tgt := 15) dL_worth_9 (by decide) ?_
  refine ww_iconst (v := nI 0) dL_worth_15 (by decide) ?_
  exact ww_iret dL_worth_16 rfl ⟨rfl, h9, q, rfl⟩
set_option maxHeartbeats 4000000 in
theorem c_L_worth_ns {l : Launch} {Z : EE} (hst : l.stackTraces = false) {h : PH} {p0 : Int32} {d mc ms : Nat} {h1 : PH} (hC : CC l Z m_X10_worth d mc ms [.ref 0, .int p0] h (TH nsX h1)) (hK : hp_K h 0 = (10, 19)) : CC l Z m_L_worth (d + 1) mc ms [.ref 0, .int p0, .ref 72] h (RQ (some (.int (nI 1))) (fun h9 => h9 = h1)) := by
  refine ee_entryH hst (by decide +kernel) rfl (by decide) (by simp [Value.category]) (Nat.le_of_ble_eq_true rfl) ?_
  refine ww_lv (lv2 := [.ref 0, .int p0, .ref 72, UU]) rfl ?_
  refine ww_aload_n dL_worth_0 rfl rfl ?_
  refine ww_iconst (v := nI 0) dL_worth_1 (by decide) ?_
  refine ww_aload_n dL_worth_2 rfl rfl ?_
  refine ww_iload_n dL_worth_3 rfl rfl ?_
  refine ww_cVx (M := m_L_worth) (pc := 4) (st := [.int (nI 0), .ref 72]) (As := [.int p0]) hC vv_X10_worth dL_worth_4 wg_1137 hK rfl rfl rfl (Nat.le_refl _) (Nat.le_of_ble_eq_true rfl) [] (0, 9, 12, 31) [] rfl (Or.inl rfl) (by decide) (by decide) wg_798 wn_809 (i := 3) (ln := 1) (by decide) rfl (Or.inr ⟨_, rfl, dL_worth_12, rfl⟩) ?_
  refine ww_iconst (v := nI 1) (pc := 13) dL_worth_13 (by decide) ?_
  exact ww_iret dL_worth_14 rfl ⟨rfl, rfl⟩
theorem vx_L_worth : mm_X m_L_worth 3 := ⟨⟨by decide +kernel, by decide +kernel, by decide +kernel⟩, wg_1135, wg_0, wg_1136, by decide, by decide⟩
set_option maxHeartbeats 4000000 in
theorem c_L_run_k {l : Launch} {Z : EE} (hst : l.stackTraces = false) {h : PH} {p0 p1 : Int32} {d mc ms : Nat} {P' : Res → PH → Prop} {v : Int32} (hC : CC l Z m_X10_run d mc ms [.ref 0, .int p0, .int p1] h P') (hK : hp_K h 0 = (10, 19)) (hP : ∀ r h', P' r h' → r = .inl (some (.int v)) ∧ hp_K h' 72 = (21, 1)) : CC l Z m_L_run (d + 1) mc ms [.ref 0, .int p0, .int p1, .ref 72] h (RQ (some (.int (nI 0))) (fun h9 => ∃ h', P' (.inl (some (.int v))) h' ∧ h9 = outS h' v)) := by
  refine ee_entryH hst (by decide +kernel) rfl (by decide) (by simp [Value.category]) (Nat.le_of_ble_eq_true rfl) ?_
  refine ww_lv (lv2 := [.ref 0, .int p0, .int p1, .ref 72, UU]) rfl ?_
  refine ww_aload_n dL_run_0 rfl rfl ?_
  refine ww_iconst (v := nI 0) dL_run_1 (by decide) ?_
  refine ww_aload_n dL_run_2 rfl rfl ?_
  refine ww_iload_n dL_run_3 rfl rfl ?_
  refine ww_iload_n dL_run_4 rfl rfl ?_
  refine ww_cVn (M := m_L_run) (pc := 5) (st := [.int (nI 0), .ref 72]) (As := [.int p0, .int p1]) hC vv_X10_run dL_run_5 wg_1145 hK rfl rfl rfl (Nat.le_refl _) (Nat.le_of_ble_eq_true rfl) (fun E h9 q => by cases (hP _ _ q).1) (fun v9 h9 q => ?_)
  obtain ⟨e9, k9⟩ := hP _ _ q
  cases e9
  refine ww_i2l dL_run_8 ?_
  refine ww_lastN dL_run_9 k9 (by decide) (by decide) ?_
  refine ww_goto (tgt := 21) dL_run_10 (by decide) ?_
  refine ww_iconst (v := nI 0) dL_run_21 (by decide) ?_
  exact ww_iret dL_run_22 rfl ⟨rfl, h9, q, rfl⟩
set_option maxHeartbeats 4000000 in
theorem c_L_run_ns {l : Launch} {Z : EE} (hst : l.stackTraces = false) {h : PH} {p0 p1 : Int32} {d mc ms : Nat} {h1 : PH} (hC : CC l Z m_X10_run d mc ms [.ref 0, .int p0, .int p1] h (TH nsX h1)) (hK : hp_K h 0 = (10, 19)) : CC l Z m_L_run (d + 1) mc ms [.ref 0, .int p0, .int p1, .ref 72] h (RQ (some (.int (nI 1))) (fun h9 => h9 = h1)) := by
  refine ee_entryH hst (by decide +kernel) rfl (by decide) (by simp [Value.category]) (Nat.le_of_ble_eq_true rfl) ?_
  refine ww_lv (lv2 := [.ref 0, .int p0, .int p1, .ref 72, UU]) rfl ?_
  refine ww_aload_n dL_run_0 rfl rfl ?_
  refine ww_iconst (v := nI 0) dL_run_1 (by decide) ?_
  refine ww_aload_n dL_run_2 rfl rfl ?_
  refine ww_iload_n dL_run_3 rfl rfl ?_
  refine ww_iload_n dL_run_4 rfl rfl ?_
  refine ww_cVx (M := m_L_run) (pc := 5) (st := [.int (nI 0), .ref 72]) (As := [.int p0, .int p1]) hC vv_X10_run dL_run_5 wg_1145 hK rfl rfl rfl (Nat.le_refl _) (Nat.le_of_ble_eq_true rfl) [] (0, 10, 13, 31) [(0, 10, 17, 13)] rfl (Or.inl rfl) (by decide) (by decide) wg_798 wn_809 (i := 4) (ln := 2) (by decide) rfl (Or.inl ⟨dL_run_13, rfl⟩) ?_
  refine ww_iconst (v := nI 1) (pc := 15) dL_run_15 (by decide) ?_
  exact ww_iret dL_run_16 rfl ⟨rfl, rfl⟩
set_option maxHeartbeats 4000000 in
theorem c_L_run_ia {l : Launch} {Z : EE} (hst : l.stackTraces = false) {h : PH} {p0 p1 : Int32} {d mc ms : Nat} {h1 : PH} (hC : CC l Z m_X10_run d mc ms [.ref 0, .int p0, .int p1] h (TH iaX h1)) (hK : hp_K h 0 = (10, 19)) : CC l Z m_L_run (d + 1) mc ms [.ref 0, .int p0, .int p1, .ref 72] h (RQ (some (.int (nI 2))) (fun h9 => h9 = h1)) := by
  refine ee_entryH hst (by decide +kernel) rfl (by decide) (by simp [Value.category]) (Nat.le_of_ble_eq_true rfl) ?_
  refine ww_lv (lv2 := [.ref 0, .int p0, .int p1, .ref 72, UU]) rfl ?_
  refine ww_aload_n dL_run_0 rfl rfl ?_
  refine ww_iconst (v := nI 0) dL_run_1 (by decide) ?_
  refine ww_aload_n dL_run_2 rfl rfl ?_
  refine ww_iload_n dL_run_3 rfl rfl ?_
  refine ww_iload_n dL_run_4 rfl rfl ?_
  refine ww_cVx (M := m_L_run) (pc := 5) (st := [.int (nI 0), .ref 72]) (As := [.int p0, .int p1]) hC vv_X10_run dL_run_5 wg_1145 hK rfl rfl rfl (Nat.le_refl _) (Nat.le_of_ble_eq_true rfl) [(0, 10, 13, 31)] (0, 10, 17, 13) [] rfl (Or.inr ⟨_, rfl, by decide, wg_798, rfl⟩) (by decide) (by decide) wg_405 wn_416 (i := 4) (ln := 2) (by decide) rfl (Or.inl ⟨dL_run_17, rfl⟩) ?_
  refine ww_iconst (v := nI 2) (pc := 19) dL_run_19 (by decide) ?_
  exact ww_iret dL_run_20 rfl ⟨rfl, rfl⟩
theorem vx_L_run : mm_X m_L_run 4 := ⟨⟨by decide +kernel, by decide +kernel, by decide +kernel⟩, wg_1143, wg_0, wg_1144, by decide, by decide⟩
set_option maxHeartbeats 4000000 in
theorem c_L_cheapest_k {l : Launch} {Z : EE} (hst : l.stackTraces = false) {h : PH} {p0 p1 : Int32} {d mc ms : Nat} {P' : Res → PH → Prop} {v : Int32} (hC : CC l Z m_X10_cheapest d mc ms [.ref 0, .int p0, .int p1] h P') (hK : hp_K h 0 = (10, 19)) (hP : ∀ r h', P' r h' → r = .inl (some (.int v)) ∧ hp_K h' 72 = (21, 1)) : CC l Z m_L_cheapest (d + 1) mc ms [.ref 0, .int p0, .int p1, .ref 72] h (RQ (some (.int (nI 0))) (fun h9 => ∃ h', P' (.inl (some (.int v))) h' ∧ h9 = outS h' v)) := by
  refine ee_entryH hst (by decide +kernel) rfl (by decide) (by simp [Value.category]) (Nat.le_of_ble_eq_true rfl) ?_
  refine ww_lv (lv2 := [.ref 0, .int p0, .int p1, .ref 72, UU]) rfl ?_
  refine ww_aload_n dL_cheapest_0 rfl rfl ?_
  refine ww_iconst (v := nI 0) dL_cheapest_1 (by decide) ?_
  refine ww_aload_n dL_cheapest_2 rfl rfl ?_
  refine ww_iload_n dL_cheapest_3 rfl rfl ?_
  refine ww_iload_n dL_cheapest_4 rfl rfl ?_
  refine ww_cVn (M := m_L_cheapest) (pc := 5) (st := [.int (nI 0), .ref 72]) (As := [.int p0, .int p1]) hC vv_X10_cheapest dL_cheapest_5 wg_1152 hK rfl rfl rfl (Nat.le_refl _) (Nat.le_of_ble_eq_true rfl) (fun E h9 q => by cases (hP _ _ q).1) (fun v9 h9 q => ?_)
  obtain ⟨e9, k9⟩ := hP _ _ q
  cases e9
  refine ww_i2l dL_cheapest_8 ?_
  refine ww_lastN dL_cheapest_9 k9 (by decide) (by decide) ?_
  refine ww_goto (tgt := 21) dL_cheapest_10 (by decide) ?_
  refine ww_iconst (v := nI 0) dL_cheapest_21 (by decide) ?_
  exact ww_iret dL_cheapest_22 rfl ⟨rfl, h9, q, rfl⟩
set_option maxHeartbeats 4000000 in
theorem c_L_cheapest_ns {l : Launch} {Z : EE} (hst : l.stackTraces = false) {h : PH} {p0 p1 : Int32} {d mc ms : Nat} {h1 : PH} (hC : CC l Z m_X10_cheapest d mc ms [.ref 0, .int p0, .int p1] h (TH nsX h1)) (hK : hp_K h 0 = (10, 19)) : CC l Z m_L_cheapest (d + 1) mc ms [.ref 0, .int p0, .int p1, .ref 72] h (RQ (some (.int (nI 1))) (fun h9 => h9 = h1)) := by
  refine ee_entryH hst (by decide +kernel) rfl (by decide) (by simp [Value.category]) (Nat.le_of_ble_eq_true rfl) ?_
  refine ww_lv (lv2 := [.ref 0, .int p0, .int p1, .ref 72, UU]) rfl ?_
  refine ww_aload_n dL_cheapest_0 rfl rfl ?_
  refine ww_iconst (v := nI 0) dL_cheapest_1 (by decide) ?_
  refine ww_aload_n dL_cheapest_2 rfl rfl ?_
  refine ww_iload_n dL_cheapest_3 rfl rfl ?_
  refine ww_iload_n dL_cheapest_4 rfl rfl ?_
  refine ww_cVx (M := m_L_cheapest) (pc := 5) (st := [.int (nI 0), .ref 72]) (As := [.int p0, .int p1]) hC vv_X10_cheapest dL_cheapest_5 wg_1152 hK rfl rfl rfl (Nat.le_refl _) (Nat.le_of_ble_eq_true rfl) [] (0, 10, 13, 31) [(0, 10, 17, 13)] rfl (Or.inl rfl) (by decide) (by decide) wg_798 wn_809 (i := 4) (ln := 2) (by decide) rfl (Or.inl ⟨dL_cheapest_13, rfl⟩) ?_
  refine ww_iconst (v := nI 1) (pc := 15) dL_cheapest_15 (by decide) ?_
  exact ww_iret dL_cheapest_16 rfl ⟨rfl, rfl⟩
set_option maxHeartbeats 4000000 in
theorem c_L_cheapest_ia {l : Launch} {Z : EE} (hst : l.stackTraces = false) {h : PH} {p0 p1 : Int32} {d mc ms : Nat} {h1 : PH} (hC : CC l Z m_X10_cheapest d mc ms [.ref 0, .int p0, .int p1] h (TH iaX h1)) (hK : hp_K h 0 = (10, 19)) : CC l Z m_L_cheapest (d + 1) mc ms [.ref 0, .int p0, .int p1, .ref 72] h (RQ (some (.int (nI 2))) (fun h9 => h9 = h1)) := by
  refine ee_entryH hst (by decide +kernel) rfl (by decide) (by simp [Value.category]) (Nat.le_of_ble_eq_true rfl) ?_
  refine ww_lv (lv2 := [.ref 0, .int p0, .int p1, .ref 72, UU]) rfl ?_
  refine ww_aload_n dL_cheapest_0 rfl rfl ?_
  refine ww_iconst (v := nI 0) dL_cheapest_1 (by decide) ?_
  refine ww_aload_n dL_cheapest_2 rfl rfl ?_
  refine ww_iload_n dL_cheapest_3 rfl rfl ?_
  refine ww_iload_n dL_cheapest_4 rfl rfl ?_
  refine ww_cVx (M := m_L_cheapest) (pc := 5) (st := [.int (nI 0), .ref 72]) (As := [.int p0, .int p1]) hC vv_X10_cheapest dL_cheapest_5 wg_1152 hK rfl rfl rfl (Nat.le_refl _) (Nat.le_of_ble_eq_true rfl) [(0, 10, 13, 31)] (0, 10, 17, 13) [] rfl (Or.inr ⟨_, rfl, by decide, wg_798, rfl⟩) (by decide) (by decide) wg_405 wn_416 (i := 4) (ln := 2) (by decide) rfl (Or.inl ⟨dL_cheapest_17, rfl⟩) ?_
  refine ww_iconst (v := nI 2) (pc := 19) dL_cheapest_19 (by decide) ?_
  exact ww_iret dL_cheapest_20 rfl ⟨rfl, rfl⟩
theorem vx_L_cheapest : mm_X m_L_cheapest 4 := ⟨⟨by decide +kernel, by decide +kernel, by decide +kernel⟩, wg_1150, wg_0, wg_1151, by decide, by decide⟩
set_option maxHeartbeats 4000000 in
theorem c_L_primes_k {l : Launch} {Z : EE} (hst : l.stackTraces = false) {h : PH} {p0 : Int32} {d mc ms : Nat} {P' : Res → PH → Prop} {v : Int32} (hC : CC l Z m_X10_primes d mc ms [.ref 0, .int p0] h P') (hK : hp_K h 0 = (10, 19)) (hP : ∀ r h', P' r h' → r = .inl (some (.int v)) ∧ hp_K h' 72 = (21, 1)) : CC l Z m_L_primes (d + 1) mc ms [.ref 0, .int p0, .ref 72] h (RQ (some (.int (nI 0))) (fun h9 => ∃ h', P' (.inl (some (.int v))) h' ∧ h9 = outS h' v)) := by
  refine ee_entryH hst (by decide +kernel) rfl (by decide) (by simp [Value.category]) (Nat.le_of_ble_eq_true rfl) ?_
  refine ww_lv (lv2 := [.ref 0, .int p0, .ref 72, UU]) rfl ?_
  refine ww_aload_n dL_primes_0 rfl rfl ?_
  refine ww_iconst (v := nI 0) dL_primes_1 (by decide) ?_
  refine ww_aload_n dL_primes_2 rfl rfl ?_
  refine ww_iload_n dL_primes_3 rfl rfl ?_
  refine ww_cVn (M := m_L_primes) (pc := 4) (st := [.int (nI 0), .ref 72]) (As := [.int p0]) hC vv_X10_primes dL_primes_4 wg_1159 hK rfl rfl rfl (Nat.le_refl _) (Nat.le_of_ble_eq_true rfl) (fun E h9 q => by cases (hP _ _ q).1) (fun v9 h9 q => ?_)
  obtain ⟨e9, k9⟩ := hP _ _ q
  cases e9
  refine ww_i2l dL_primes_7 ?_
  refine ww_lastN dL_primes_8 k9 (by decide) (by decide) ?_
  refine ww_goto (tgt := 15) dL_primes_9 (by decide) ?_
  refine ww_iconst (v := nI 0) dL_primes_15 (by decide) ?_
  exact ww_iret dL_primes_16 rfl ⟨rfl, h9, q, rfl⟩
set_option maxHeartbeats 4000000 in
theorem c_L_primes_ns {l : Launch} {Z : EE} (hst : l.stackTraces = false) {h : PH} {p0 : Int32} {d mc ms : Nat} {h1 : PH} (hC : CC l Z m_X10_primes d mc ms [.ref 0, .int p0] h (TH nsX h1)) (hK : hp_K h 0 = (10, 19)) : CC l Z m_L_primes (d + 1) mc ms [.ref 0, .int p0, .ref 72] h (RQ (some (.int (nI 1))) (fun h9 => h9 = h1)) := by
  refine ee_entryH hst (by decide +kernel) rfl (by decide) (by simp [Value.category]) (Nat.le_of_ble_eq_true rfl) ?_
  refine ww_lv (lv2 := [.ref 0, .int p0, .ref 72, UU]) rfl ?_
  refine ww_aload_n dL_primes_0 rfl rfl ?_
  refine ww_iconst (v := nI 0) dL_primes_1 (by decide) ?_
  refine ww_aload_n dL_primes_2 rfl rfl ?_
  refine ww_iload_n dL_primes_3 rfl rfl ?_
  refine ww_cVx (M := m_L_primes) (pc := 4) (st := [.int (nI 0), .ref 72]) (As := [.int p0]) hC vv_X10_primes dL_primes_4 wg_1159 hK rfl rfl rfl (Nat.le_refl _) (Nat.le_of_ble_eq_true rfl) [] (0, 9, 12, 31) [] rfl (Or.inl rfl) (by decide) (by decide) wg_798 wn_809 (i := 3) (ln := 1) (by decide) rfl (Or.inr ⟨_, rfl, dL_primes_12, rfl⟩) ?_
  refine ww_iconst (v := nI 1) (pc := 13) dL_primes_13 (by decide) ?_
  exact ww_iret dL_primes_14 rfl ⟨rfl, rfl⟩
theorem vx_L_primes : mm_X m_L_primes 3 := ⟨⟨by decide +kernel, by decide +kernel, by decide +kernel⟩, wg_1157, wg_0, wg_1158, by decide, by decide⟩
set_option maxHeartbeats 4000000 in
theorem c_L_poorest_k {l : Launch} {Z : EE} (hst : l.stackTraces = false) {h : PH} {p0 : Int32} {d mc ms : Nat} {P' : Res → PH → Prop} {v : Int32} (hC : CC l Z m_X10_poorest d mc ms [.ref 0, .int p0] h P') (hK : hp_K h 0 = (10, 19)) (hP : ∀ r h', P' r h' → r = .inl (some (.int v)) ∧ hp_K h' 72 = (21, 1)) : CC l Z m_L_poorest (d + 1) mc ms [.ref 0, .int p0, .ref 72] h (RQ (some (.int (nI 0))) (fun h9 => ∃ h', P' (.inl (some (.int v))) h' ∧ h9 = outS h' v)) := by
  refine ee_entryH hst (by decide +kernel) rfl (by decide) (by simp [Value.category]) (Nat.le_of_ble_eq_true rfl) ?_
  refine ww_lv (lv2 := [.ref 0, .int p0, .ref 72, UU]) rfl ?_
  refine ww_aload_n dL_poorest_0 rfl rfl ?_
  refine ww_iconst (v := nI 0) dL_poorest_1 (by decide) ?_
  refine ww_aload_n dL_poorest_2 rfl rfl ?_
  refine ww_iload_n dL_poorest_3 rfl rfl ?_
  refine ww_cVn (M := m_L_poorest) (pc := 4) (st := [.int (nI 0), .ref 72]) (As := [.int p0]) hC vv_X10_poorest dL_poorest_4 wg_1166 hK rfl rfl rfl (Nat.le_refl _) (Nat.le_of_ble_eq_true rfl) (fun E h9 q => by cases (hP _ _ q).1) (fun v9 h9 q => ?_)
  obtain ⟨e9, k9⟩ := hP _ _ q
  cases e9
  refine ww_i2l dL_poorest_7 ?_
  refine ww_lastN dL_poorest_8 k9 (by decide) (by decide) ?_
  refine ww_goto (tgt := 15) dL_poorest_9 (by decide) ?_
  refine ww_iconst (v := nI 0) dL_poorest_15 (by decide) ?_
  exact ww_iret dL_poorest_16 rfl ⟨rfl, h9, q, rfl⟩
set_option maxHeartbeats 4000000 in
theorem c_L_poorest_ia {l : Launch} {Z : EE} (hst : l.stackTraces = false) {h : PH} {p0 : Int32} {d mc ms : Nat} {h1 : PH} (hC : CC l Z m_X10_poorest d mc ms [.ref 0, .int p0] h (TH iaX h1)) (hK : hp_K h 0 = (10, 19)) : CC l Z m_L_poorest (d + 1) mc ms [.ref 0, .int p0, .ref 72] h (RQ (some (.int (nI 1))) (fun h9 => h9 = h1)) := by
  refine ee_entryH hst (by decide +kernel) rfl (by decide) (by simp [Value.category]) (Nat.le_of_ble_eq_true rfl) ?_
  refine ww_lv (lv2 := [.ref 0, .int p0, .ref 72, UU]) rfl ?_
  refine ww_aload_n dL_poorest_0 rfl rfl ?_
  refine ww_iconst (v := nI 0) dL_poorest_1 (by decide) ?_
  refine ww_aload_n dL_poorest_2 rfl rfl ?_
  refine ww_iload_n dL_poorest_3 rfl rfl ?_
  refine ww_cVx (M := m_L_poorest) (pc := 4) (st := [.int (nI 0), .ref 72]) (As := [.int p0]) hC vv_X10_poorest dL_poorest_4 wg_1166 hK rfl rfl rfl (Nat.le_refl _) (Nat.le_of_ble_eq_true rfl) [] (0, 9, 12, 13) [] rfl (Or.inl rfl) (by decide) (by decide) wg_405 wn_416 (i := 3) (ln := 1) (by decide) rfl (Or.inr ⟨_, rfl, dL_poorest_12, rfl⟩) ?_
  refine ww_iconst (v := nI 1) (pc := 13) dL_poorest_13 (by decide) ?_
  exact ww_iret dL_poorest_14 rfl ⟨rfl, rfl⟩
theorem vx_L_poorest : mm_X m_L_poorest 3 := ⟨⟨by decide +kernel, by decide +kernel, by decide +kernel⟩, wg_1164, wg_0, wg_1165, by decide, by decide⟩
set_option maxHeartbeats 4000000 in
theorem c_L_sayable_k {l : Launch} {Z : EE} (hst : l.stackTraces = false) {h : PH} {p0 p1 : Int32} {d mc ms : Nat} {P' : Res → PH → Prop} {v : Int32} (hC : CC l Z m_X10_sayable d mc ms [.ref 0, .int p0, .int p1] h P') (hK : hp_K h 0 = (10, 19)) (hP : ∀ r h', P' r h' → r = .inl (some (.int v)) ∧ hp_K h' 72 = (21, 1)) : CC l Z m_L_sayable (d + 1) mc ms [.ref 0, .int p0, .int p1, .ref 72] h (RQ (some (.int (nI 0))) (fun h9 => ∃ h', P' (.inl (some (.int v))) h' ∧ h9 = outS h' v)) := by
  refine ee_entryH hst (by decide +kernel) rfl (by decide) (by simp [Value.category]) (Nat.le_of_ble_eq_true rfl) ?_
  refine ww_lv (lv2 := [.ref 0, .int p0, .int p1, .ref 72, UU]) rfl ?_
  refine ww_aload_n dL_sayable_0 rfl rfl ?_
  refine ww_iconst (v := nI 0) dL_sayable_1 (by decide) ?_
  refine ww_aload_n dL_sayable_2 rfl rfl ?_
  refine ww_iload_n dL_sayable_3 rfl rfl ?_
  refine ww_iload_n dL_sayable_4 rfl rfl ?_
  refine ww_cVn (M := m_L_sayable) (pc := 5) (st := [.int (nI 0), .ref 72]) (As := [.int p0, .int p1]) hC vv_X10_sayable dL_sayable_5 wg_1173 hK rfl rfl rfl (Nat.le_refl _) (Nat.le_of_ble_eq_true rfl) (fun E h9 q => by cases (hP _ _ q).1) (fun v9 h9 q => ?_)
  obtain ⟨e9, k9⟩ := hP _ _ q
  cases e9
  refine ww_i2l dL_sayable_8 ?_
  refine ww_lastN dL_sayable_9 k9 (by decide) (by decide) ?_
  refine ww_goto (tgt := 17) dL_sayable_10 (by decide) ?_
  refine ww_iconst (v := nI 0) dL_sayable_17 (by decide) ?_
  exact ww_iret dL_sayable_18 rfl ⟨rfl, h9, q, rfl⟩
set_option maxHeartbeats 4000000 in
theorem c_L_sayable_ia {l : Launch} {Z : EE} (hst : l.stackTraces = false) {h : PH} {p0 p1 : Int32} {d mc ms : Nat} {h1 : PH} (hC : CC l Z m_X10_sayable d mc ms [.ref 0, .int p0, .int p1] h (TH iaX h1)) (hK : hp_K h 0 = (10, 19)) : CC l Z m_L_sayable (d + 1) mc ms [.ref 0, .int p0, .int p1, .ref 72] h (RQ (some (.int (nI 1))) (fun h9 => h9 = h1)) := by
  refine ee_entryH hst (by decide +kernel) rfl (by decide) (by simp [Value.category]) (Nat.le_of_ble_eq_true rfl) ?_
  refine ww_lv (lv2 := [.ref 0, .int p0, .int p1, .ref 72, UU]) rfl ?_
  refine ww_aload_n dL_sayable_0 rfl rfl ?_
  refine ww_iconst (v := nI 0) dL_sayable_1 (by decide) ?_
  refine ww_aload_n dL_sayable_2 rfl rfl ?_
  refine ww_iload_n dL_sayable_3 rfl rfl ?_
  refine ww_iload_n dL_sayable_4 rfl rfl ?_
  refine ww_cVx (M := m_L_sayable) (pc := 5) (st := [.int (nI 0), .ref 72]) (As := [.int p0, .int p1]) hC vv_X10_sayable dL_sayable_5 wg_1173 hK rfl rfl rfl (Nat.le_refl _) (Nat.le_of_ble_eq_true rfl) [] (0, 10, 13, 13) [] rfl (Or.inl rfl) (by decide) (by decide) wg_405 wn_416 (i := 4) (ln := 2) (by decide) rfl (Or.inl ⟨dL_sayable_13, rfl⟩) ?_
  refine ww_iconst (v := nI 1) (pc := 15) dL_sayable_15 (by decide) ?_
  exact ww_iret dL_sayable_16 rfl ⟨rfl, rfl⟩
theorem vx_L_sayable : mm_X m_L_sayable 4 := ⟨⟨by decide +kernel, by decide +kernel, by decide +kernel⟩, wg_1171, wg_0, wg_1172, by decide, by decide⟩
set_option maxHeartbeats 4000000 in
theorem c_L_year_k {l : Launch} {Z : EE} (hst : l.stackTraces = false) {h : PH} {p0 p1 p2 : Int32} {d mc ms : Nat} {P' : Res → PH → Prop} {v : Int32} (hC : CC l Z m_X10_year d mc ms [.ref 0, .int p0, .int p1, .int p2] h P') (hK : hp_K h 0 = (10, 19)) (hP : ∀ r h', P' r h' → r = .inl (some (.int v)) ∧ hp_K h' 72 = (21, 1)) : CC l Z m_L_year (d + 1) mc ms [.ref 0, .int p0, .int p1, .int p2, .ref 72] h (RQ (some (.int (nI 0))) (fun h9 => ∃ h', P' (.inl (some (.int v))) h' ∧ h9 = outS h' v)) := by
  refine ee_entryH hst (by decide +kernel) rfl (by decide) (by simp [Value.category]) (Nat.le_of_ble_eq_true rfl) ?_
  refine ww_lv (lv2 := [.ref 0, .int p0, .int p1, .int p2, .ref 72, UU]) rfl ?_
  refine ww_aload dL_year_0 rfl ?_
  refine ww_iconst (v := nI 0) dL_year_2 (by decide) ?_
  refine ww_aload_n dL_year_3 rfl rfl ?_
  refine ww_iload_n dL_year_4 rfl rfl ?_
  refine ww_iload_n dL_year_5 rfl rfl ?_
  refine ww_iload_n dL_year_6 rfl rfl ?_
  refine ww_cVn (M := m_L_year) (pc := 7) (st := [.int (nI 0), .ref 72]) (As := [.int p0, .int p1, .int p2]) hC vv_X10_year dL_year_7 wg_1180 hK rfl rfl rfl (Nat.le_refl _) (Nat.le_of_ble_eq_true rfl) (fun E h9 q => by cases (hP _ _ q).1) (fun v9 h9 q => ?_)
  obtain ⟨e9, k9⟩ := hP _ _ q
  cases e9
  refine ww_i2l dL_year_10 ?_
  refine ww_lastN dL_year_11 k9 (by decide) (by decide) ?_
  refine ww_goto (tgt := 19) dL_year_12 (by decide) ?_
  refine ww_iconst (v := nI 0) dL_year_19 (by decide) ?_
  exact ww_iret dL_year_20 rfl ⟨rfl, h9, q, rfl⟩
set_option maxHeartbeats 4000000 in
theorem c_L_year_ia {l : Launch} {Z : EE} (hst : l.stackTraces = false) {h : PH} {p0 p1 p2 : Int32} {d mc ms : Nat} {h1 : PH} (hC : CC l Z m_X10_year d mc ms [.ref 0, .int p0, .int p1, .int p2] h (TH iaX h1)) (hK : hp_K h 0 = (10, 19)) : CC l Z m_L_year (d + 1) mc ms [.ref 0, .int p0, .int p1, .int p2, .ref 72] h (RQ (some (.int (nI 1))) (fun h9 => h9 = h1)) := by
  refine ee_entryH hst (by decide +kernel) rfl (by decide) (by simp [Value.category]) (Nat.le_of_ble_eq_true rfl) ?_
  refine ww_lv (lv2 := [.ref 0, .int p0, .int p1, .int p2, .ref 72, UU]) rfl ?_
  refine ww_aload dL_year_0 rfl ?_
  refine ww_iconst (v := nI 0) dL_year_2 (by decide) ?_
  refine ww_aload_n dL_year_3 rfl rfl ?_
  refine ww_iload_n dL_year_4 rfl rfl ?_
  refine ww_iload_n dL_year_5 rfl rfl ?_
  refine ww_iload_n dL_year_6 rfl rfl ?_
  refine ww_cVx (M := m_L_year) (pc := 7) (st := [.int (nI 0), .ref 72]) (As := [.int p0, .int p1, .int p2]) hC vv_X10_year dL_year_7 wg_1180 hK rfl rfl rfl (Nat.le_refl _) (Nat.le_of_ble_eq_true rfl) [] (0, 12, 15, 13) [] rfl (Or.inl rfl) (by decide) (by decide) wg_405 wn_416 (i := 5) (ln := 2) (by decide) rfl (Or.inl ⟨dL_year_15, rfl⟩) ?_
  refine ww_iconst (v := nI 1) (pc := 17) dL_year_17 (by decide) ?_
  exact ww_iret dL_year_18 rfl ⟨rfl, rfl⟩
theorem vx_L_year : mm_X m_L_year 5 := ⟨⟨by decide +kernel, by decide +kernel, by decide +kernel⟩, wg_1178, wg_0, wg_1179, by decide, by decide⟩
set_option maxHeartbeats 4000000 in
theorem c_L_span_k {l : Launch} {Z : EE} (hst : l.stackTraces = false) {h : PH} {p0 p1 p2 p3 : Int32} {d mc ms : Nat} {P' : Res → PH → Prop} {v : Int32} (hC : CC l Z m_X10_span d mc ms [.ref 0, .int p0, .int p1, .int p2, .int p3] h P') (hK : hp_K h 0 = (10, 19)) (hP : ∀ r h', P' r h' → r = .inl (some (.int v)) ∧ hp_K h' 72 = (21, 1)) : CC l Z m_L_span (d + 1) mc ms [.ref 0, .int p0, .int p1, .int p2, .int p3, .ref 72] h (RQ (some (.int (nI 0))) (fun h9 => ∃ h', P' (.inl (some (.int v))) h' ∧ h9 = outS h' v)) := by
  refine ee_entryH hst (by decide +kernel) rfl (by decide) (by simp [Value.category]) (Nat.le_of_ble_eq_true rfl) ?_
  refine ww_lv (lv2 := [.ref 0, .int p0, .int p1, .int p2, .int p3, .ref 72, UU]) rfl ?_
  refine ww_aload dL_span_0 rfl ?_
  refine ww_iconst (v := nI 0) dL_span_2 (by decide) ?_
  refine ww_aload_n dL_span_3 rfl rfl ?_
  refine ww_iload_n dL_span_4 rfl rfl ?_
  refine ww_iload_n dL_span_5 rfl rfl ?_
  refine ww_iload_n dL_span_6 rfl rfl ?_
  refine ww_iload dL_span_7 rfl ?_
  refine ww_cVn (M := m_L_span) (pc := 9) (st := [.int (nI 0), .ref 72]) (As := [.int p0, .int p1, .int p2, .int p3]) hC vv_X10_span dL_span_9 wg_1217 hK rfl rfl rfl (Nat.le_refl _) (Nat.le_of_ble_eq_true rfl) (fun E h9 q => by cases (hP _ _ q).1) (fun v9 h9 q => ?_)
  obtain ⟨e9, k9⟩ := hP _ _ q
  cases e9
  refine ww_i2l dL_span_12 ?_
  refine ww_lastN dL_span_13 k9 (by decide) (by decide) ?_
  refine ww_goto (tgt := 21) dL_span_14 (by decide) ?_
  refine ww_iconst (v := nI 0) dL_span_21 (by decide) ?_
  exact ww_iret dL_span_22 rfl ⟨rfl, h9, q, rfl⟩
set_option maxHeartbeats 4000000 in
theorem c_L_span_ia {l : Launch} {Z : EE} (hst : l.stackTraces = false) {h : PH} {p0 p1 p2 p3 : Int32} {d mc ms : Nat} {h1 : PH} (hC : CC l Z m_X10_span d mc ms [.ref 0, .int p0, .int p1, .int p2, .int p3] h (TH iaX h1)) (hK : hp_K h 0 = (10, 19)) : CC l Z m_L_span (d + 1) mc ms [.ref 0, .int p0, .int p1, .int p2, .int p3, .ref 72] h (RQ (some (.int (nI 1))) (fun h9 => h9 = h1)) := by
  refine ee_entryH hst (by decide +kernel) rfl (by decide) (by simp [Value.category]) (Nat.le_of_ble_eq_true rfl) ?_
  refine ww_lv (lv2 := [.ref 0, .int p0, .int p1, .int p2, .int p3, .ref 72, UU]) rfl ?_
  refine ww_aload dL_span_0 rfl ?_
  refine ww_iconst (v := nI 0) dL_span_2 (by decide) ?_
  refine ww_aload_n dL_span_3 rfl rfl ?_
  refine ww_iload_n dL_span_4 rfl rfl ?_
  refine ww_iload_n dL_span_5 rfl rfl ?_
  refine ww_iload_n dL_span_6 rfl rfl ?_
  refine ww_iload dL_span_7 rfl ?_
  refine ww_cVx (M := m_L_span) (pc := 9) (st := [.int (nI 0), .ref 72]) (As := [.int p0, .int p1, .int p2, .int p3]) hC vv_X10_span dL_span_9 wg_1217 hK rfl rfl rfl (Nat.le_refl _) (Nat.le_of_ble_eq_true rfl) [] (0, 14, 17, 13) [] rfl (Or.inl rfl) (by decide) (by decide) wg_405 wn_416 (i := 6) (ln := 2) (by decide) rfl (Or.inl ⟨dL_span_17, rfl⟩) ?_
  refine ww_iconst (v := nI 1) (pc := 19) dL_span_19 (by decide) ?_
  exact ww_iret dL_span_20 rfl ⟨rfl, rfl⟩
theorem vx_L_span : mm_X m_L_span 6 := ⟨⟨by decide +kernel, by decide +kernel, by decide +kernel⟩, wg_1215, wg_0, wg_1216, by decide, by decide⟩
