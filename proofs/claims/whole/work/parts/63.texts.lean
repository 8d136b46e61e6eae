/-! ===== the texts: fields, bytes, calls on a constant ===== -/
section TXT
variable {l : Launch} {Z : EE} {M : MM} {d bc bs pc : Nat} {lv lv2 st : List Value} {h : PH} {Post : Res → PH → Prop}
theorem ee_cst {ws : va_W} {k : Nat} {v' : Value} (hHR : ee_HR Z ws h) (q0 : ee_VR Z ws (.ref (1000000 + k)) v') : v' = .ref (Z.2.2 k) := by
  rcases q0 with ⟨a9, e9, g1, g2⟩ | ⟨-, g2⟩
  · have hlt := (List.getElem?_eq_some_iff.mp g1).1
    have r9 := hHR.1
    have r8 := hHR.2.1
    omega
  · rw [g2, Nat.add_sub_cancel_left]
theorem ee_cst' (ws : va_W) (k : Nat) : ee_VR Z ws (.ref (1000000 + k)) (.ref (Z.2.2 k)) := Or.inr ⟨Nat.le_add_right _ _, by rw [Nat.add_sub_cancel_left]⟩
theorem ww_txV {i idx : Nat} (hi : i < 21) (hd : decode (mm_c M) pc = .ok (.getfield idx, 3)) (w : Cond.fieldLink (mm_own M) idx "java/lang/String" "value" "[B" ∈ TG) (k : WW l Z M d bc bs (pc + 3) lv ((.ref (1000000 + (101 + i))) :: st) h Post) : WW l Z M d bc bs pc lv ((.ref (1000000 + (1 + i))) :: st) h Post := by
  intro p e s m args below meth c ws0 mc ms ws H locs cells slots rls rst C' S h1 h2
  have C'' := C'
  obtain ⟨hx, hb, hr, hml, hown, hts, hlocks, htab, hK, hZ, hst, hnm⟩ := C''
  obtain ⟨hHR, hP, hD, hS, hL, hF, hE⟩ := S
  obtain ⟨v', r0, e0, qv, F1⟩ := hF.c
  subst e0
  cases (ee_cst hHR qv)
  refine vk_getf hx hb (hZ.2.2.1.1 i hi).2.2.1 hS hown (hts _ w) (fun _ h9 => h9) hd ?_
  exact k p e s m args below meth c ws0 mc ms ws H locs cells slots rls _ C' ⟨hHR, hP, hD, hS, hL, ⟨ee_cst' ws _, F1⟩, hE⟩ h1 h2
theorem ww_txC {i idx : Nat} (hi : i < 21) (hd : decode (mm_c M) pc = .ok (.getfield idx, 3)) (w : Cond.fieldLink (mm_own M) idx "java/lang/String" "coder" "B" ∈ TG) (k : WW l Z M d bc bs (pc + 3) lv ((.int (nI 0)) :: st) h Post) : WW l Z M d bc bs pc lv ((.ref (1000000 + (1 + i))) :: st) h Post := by
  intro p e s m args below meth c ws0 mc ms ws H locs cells slots rls rst C' S h1 h2
  have C'' := C'
  obtain ⟨hx, hb, hr, hml, hown, hts, hlocks, htab, hK, hZ, hst, hnm⟩ := C''
  obtain ⟨hHR, hP, hD, hS, hL, hF, hE⟩ := S
  obtain ⟨v', r0, e0, qv, F1⟩ := hF.c
  subst e0
  cases (ee_cst hHR qv)
  refine vk_getf hx hb (hZ.2.2.1.1 i hi).2.1 hS hown (hts _ w) (fun _ h9 => h9) hd ?_
  exact k p e s m args below meth c ws0 mc ms ws H locs cells slots rls _ C' ⟨hHR, hP, hD, hS, hL, ⟨rfl, F1⟩, hE⟩ h1 h2
theorem ww_txZ {idx : Nat} (hd : decode (mm_c M) pc = .ok (.getstatic idx, 3)) (w : Cond.fieldLink (mm_own M) idx "java/lang/String" "COMPACT_STRINGS" "Z" ∈ TG) (k : WW l Z M d bc bs (pc + 3) lv ((.int (nI 1)) :: st) h Post) : WW l Z M d bc bs pc lv st h Post := by
  intro p e s m args below meth c ws0 mc ms ws H locs cells slots rls rst C' S h1 h2
  have C'' := C'
  obtain ⟨hx, hb, hr, hml, hown, hts, hlocks, htab, hK, hZ, hst, hnm⟩ := C''
  obtain ⟨hHR, hP, hD, hS, hL, hF, hE⟩ := S
  refine va_gets hx hb hZ.2.2.2.2.1.1 hS hown (hts _ w) (fun _ h9 => h9) hd ?_
  exact k p e s m args below meth c ws0 mc ms ws H locs cells slots rls _ C' ⟨hHR, hP, hD, hS, hL, ⟨rfl, hF⟩, hE⟩ h1 h2
theorem ww_txF {idx : Nat} (hd : decode (mm_c M) pc = .ok (.getstatic idx, 3)) (w : Cond.fieldLink (mm_own M) idx "jdk/internal/util/Preconditions" "SIOOBE_FORMATTER" "Ljava/util/function/BiFunction;" ∈ TG) (k : WW l Z M d bc bs (pc + 3) lv ((sfP Z) :: st) h Post) : WW l Z M d bc bs pc lv st h Post := by
  intro p e s m args below meth c ws0 mc ms ws H locs cells slots rls rst C' S h1 h2
  have C'' := C'
  obtain ⟨hx, hb, hr, hml, hown, hts, hlocks, htab, hK, hZ, hst, hnm⟩ := C''
  obtain ⟨hHR, hP, hD, hS, hL, hF, hE⟩ := S
  have hv : ee_VR Z ws (sfP Z) (sfV Z) := by
    unfold sfP sfV
    split
    · rfl
    · exact ee_cst' ws 200
  refine va_gets hx hb hZ.2.2.2.2.1.2 hS hown (hts _ w) (fun _ h9 => h9) hd ?_
  exact k p e s m args below meth c ws0 mc ms ws H locs cells slots rls _ C' ⟨hHR, hP, hD, hS, hL, ⟨hv, hF⟩, hE⟩ h1 h2
theorem ww_txL {i : Nat} (hi : i < 21) (hd : decode (mm_c M) pc = .ok (.arraylength, 1)) (k : WW l Z M d bc bs (pc + 1) lv ((.int (nI (js_len.getD i 0))) :: st) h Post) : WW l Z M d bc bs pc lv ((.ref (1000000 + (101 + i))) :: st) h Post := by
  intro p e s m args below meth c ws0 mc ms ws H locs cells slots rls rst C' S h1 h2
  have C'' := C'
  obtain ⟨hx, hb, hr, hml, hown, hts, hlocks, htab, hK, hZ, hst, hnm⟩ := C''
  obtain ⟨hHR, hP, hD, hS, hL, hF, hE⟩ := S
  obtain ⟨v', r0, e0, qv, F1⟩ := hF.c
  subst e0
  cases (ee_cst hHR qv)
  refine va_tlen hx hb (hZ.2.2.1.1 i hi).2.2.2 hS rfl hd ?_
  exact k p e s m args below meth c ws0 mc ms ws H locs cells slots rls _ C' ⟨hHR, hP, hD, hS, hL, ⟨rfl, F1⟩, hE⟩ h1 h2
theorem ww_txB {i j : Nat} (hi : i < 21) (hj : j < js_len.getD i 0) (hj2 : js_len.getD i 0 < 2 ^ 31) (hd : decode (mm_c M) pc = .ok (.baload, 1)) (k : WW l Z M d bc bs (pc + 1) lv ((.int ((js_byt.getD i []).getD j 0)) :: st) h Post) : WW l Z M d bc bs pc lv ((.int (nI j)) :: (.ref (1000000 + (101 + i))) :: st) h Post := by
  intro p e s m args below meth c ws0 mc ms ws H locs cells slots rls rst C' S h1 h2
  have C'' := C'
  obtain ⟨hx, hb, hr, hml, hown, hts, hlocks, htab, hK, hZ, hst, hnm⟩ := C''
  obtain ⟨hHR, hP, hD, hS, hL, hF, hE⟩ := S
  obtain ⟨v', r0, e0, qv, F1⟩ := hF.c
  subst e0
  cases (show v' = Value.int (nI j) from qv)
  obtain ⟨b0, r1, e1, q0, F2⟩ := F1.c
  subst e1
  cases (ee_cst hHR q0)
  refine va_tb hx hb (hZ.2.2.1.1 i hi).2.2.2 hS (i := nI j) (pk_in j _ hj rfl hj2) rfl hd ?_
  rw [pk_cl j rfl (Nat.lt_trans hj hj2)]
  exact k p e s m args below meth c ws0 mc ms ws H locs cells slots rls _ C' ⟨hHR, hP, hD, hS, hL, ⟨rfl, F2⟩, hE⟩ h1 h2
theorem ww_i2c {x : Int32} (hd : decode (mm_c M) pc = .ok (.i2c, 1)) (hx9 : (x.toUInt32 % 65536).toInt32 = x) (k : WW l Z M d bc bs (pc + 1) lv (.int x :: st) h Post) : WW l Z M d bc bs pc lv (.int x :: st) h Post := by
  intro p e s m args below meth c ws0 mc ms ws H locs cells slots rls rst C S h1 h2
  have C' := C
  obtain ⟨hx, hb, hr, hml, hown, hts, hlocks, htab, hK, hZ, hst, hnm⟩ := C'
  obtain ⟨hHR, hP, hD, hS, hL, hF, hE⟩ := S
  obtain ⟨b0, r0, e0, q0, F1⟩ := hF.c
  subst e0
  cases (show b0 = Value.int x from q0)
  refine lv_i2c hx hb hd hx9 ?_
  exact k p e s m args below meth c ws0 mc ms ws H locs cells slots rls _ C ⟨hHR, hP, hD, hS, hL, ⟨rfl, F1⟩, hE⟩ h1 h2
theorem ww_nret {x : Int32} {ty : FieldType} (hd : decode (mm_c M) pc = .ok (.ireturn, 1)) (hr0 : mm_r M = some ty) (hn0 : narrow ty (.int x) = .int x) (hp : Post (.inl (some (.int x))) h) : WW l Z M d bc bs pc lv [.int x] h Post := by
  intro p e s m args below meth c ws0 mc ms ws H locs cells slots rls rst C S h1 h2
  have C' := C
  obtain ⟨hx, hb, hr, hml, hown, hts, hlocks, htab, hK, hZ, hst, hnm⟩ := C'
  obtain ⟨hHR, hP, hD, hS, hL, hF, hE⟩ := S
  obtain ⟨b0, r0, e0, q0, F1⟩ := hF.c
  subst e0
  cases (show b0 = Value.int x from q0)
  cases r0 with
  | cons _ _ => exact F1.elim
  | nil =>
    have hq : ∀ t : State, t.heap = H → s.WarmedH t.vm → ee_Qc Z ws0 s.heap.size Post args s (.returned (some (.int x))) t := fun t ht _ => ⟨⟨some (.int x), some (.int x), h, ws, rfl, hp, ⟨rfl, trivial⟩, hHR, by rw [ht]; exact hP, hD, hE⟩, hS.F ht⟩
    refine W.widen (k := mc) (n := ms) (by omega) (by omega) ?_
    exact vx_ret (W.zret (v := x) (ty := ty) hx hb (hr.trans hr0) hn0 hq hS.2.2 hd)
theorem ww_callT {N : MM} {i idx n d' mc' ms' : Nat} {As : List Value} {P' : Res → PH → Prop} (hi : i < 21) (hC : CC l Z N d' mc' ms' ((.ref (1000000 + (1 + i))) :: As) h P') (hd : decode (mm_c M) pc = .ok (.invokevirtual idx, 3)) (hh : mm_h M = []) (hhN : mm_h N = []) (hcls : (mm_y N).cls = "java/lang/String") (hok : mm_ok N n) (hn : As.length = n)
    (w1 : Cond.methodLink (mm_own M) idx (mm_y N) ∈ TG) (w2 : Cond.instanceMethod (mm_y N) ∈ TG) (w3 : Cond.selects (mm_y N).cls (mm_y N) (mm_y N) ∈ TG) (w4 : Cond.initialized (mm_y N).cls ∈ TG) (w5 : Cond.code (mm_y N) (mm_c N) (mm_L N) (mm_r N) ∈ TG)
    (hdd : d' + 1 ≤ d) (hLL : mm_L N ≤ 41) (hcat : (st.map fun v => v.category).sum ≤ 8)
    (kk : ∀ v h', P' (.inl v) h' → WW l Z M d bc bs (pc + 3) lv (v.toList ++ st) h' Post) (kx : ∀ E h', P' (.inr E) h' → Post (.inr E) h') : WW l Z M d (bc + mc') (bs + ms') pc lv (As.reverse ++ (.ref (1000000 + (1 + i))) :: st) h Post := by
  intro p e s m args below meth c ws0 mc ms ws H locs cells slots rls rst C' S h1 h2
  have C'' := C'
  obtain ⟨hx, hb, hr, hml, hown, hts, hlocks, htab, hK, hZ, hst, hnm⟩ := C''
  obtain ⟨hHR, hP, hD, hS, hL, hF, hE⟩ := S
  obtain ⟨m1, m2, rfl, G1, G2⟩ := ee_F2.app _ _ _ hF
  obtain ⟨b0, rrest, rfl, q0, F1⟩ := G2.c
  have q1 := q0
  cases (ee_cst hHR q0)
  have G3 := ee_F2.rev _ _ G1
  rw [List.reverse_reverse] at G3
  have z3 : (ee_rm d' mc' ms').frames + 1 ≤ (ee_rm d mc ms).frames := hdd
  have z4 : 8 + (mm_L N + 11) + (ee_rm d' mc' ms').locals ≤ (ee_rm d mc ms).locals := by show 8 + (mm_L N + 11) + 60 * d' ≤ 60 * d; omega
  have hM := hC ws H.size ((.ref (Z.2.2 (1 + i))) :: m1.reverse) hHR ⟨q1, G3⟩
  have hgin : GoodIn TG (wsV (mm_own M) idx (mm_y N).cls (mm_y N) (mm_ws N)) := by
    intro w hw
    have hw2 : w ∈ TG := by
      simp only [wsV, mm_ws, mm_cd_nil hhN, List.mem_append, List.mem_cons, List.not_mem_nil, or_false] at hw
      rcases hw with (rfl | rfl | rfl | rfl) | (rfl | hw)
      · exact w1
      · exact w2
      · exact w3
      · exact w4
      · exact w5
      · exact hw
    exact tg_good w hw2
  have hlen : m1.reverse.length = n := by rw [List.length_reverse, ee_F2.len _ _ G1, List.length_reverse]; exact hn
  have hrec := vk_recv hZ.2.2.1 hi hS
  rw [← hcls] at hrec
  refine ee_after (mc' := mc') (ms' := ms') (st := st) (vx_runV (As := m1.reverse) (rest := rrest) ⟨hx, hb, hml, hown, hts⟩ hM (cwV n hts hgin (by unfold mm_ws; rw [mm_cd_nil hhN]) rfl rfl ⟨rfl, hok⟩ ⟨z3, z4⟩) ⟨ee_PcB, hrec, fun U hU hW => ee_PcU hP hK hZ hD hS U hU hW⟩ rfl hlen hL.1 (by rw [List.reverse_reverse]) (lv_room (by rw [ee_F2.cats _ _ F1]; exact hcat)) hd ⟨?_, ?_⟩) C' hD hS hL F1 hE h1 h2 (ee_noh hh htab pc) kk kx
  · show cells + mc' ≤ mc; omega
  · show slots + ms' ≤ ms; omega
/-- a call on a text, heap as it was -/
theorem ww_cT {N : MM} {i idx n d' : Nat} {As stk : List Value} {v : Value} (hi : i < 21) (hC : CC l Z N d' 0 0 ((.ref (1000000 + (1 + i))) :: As) h (RT (some v) h)) (hV : mm_V N n) (hcls : (mm_y N).cls = "java/lang/String") (hd : decode (mm_c M) pc = .ok (.invokevirtual idx, 3)) (w1 : Cond.methodLink (mm_own M) idx (mm_y N) ∈ TG) (hn : As.length = n) (hs : stk = As.reverse ++ (.ref (1000000 + (1 + i))) :: st) (hh : mm_h M = []) (hdd : d' + 1 ≤ d) (hcat : (st.map fun v => v.category).sum ≤ 8)
    (kk : WW l Z M d bc bs (pc + 3) lv (v :: st) h Post) : WW l Z M d bc bs pc lv stk h Post := by
  obtain ⟨v1, v2, v3, v4, v5, v6, v7⟩ := hV
  subst hs
  exact ww_callT (mc' := 0) (ms' := 0) hi hC hd hh v7 hcls v1 hn w1 v2 v3 v4 v5 hdd v6 hcat (fun v9 h9 hp => by obtain ⟨e1, rfl⟩ := hp; cases e1; exact kk) (fun E h9 hp => by cases hp.1)
theorem ww_cS0 {N : MM} {idx n d' mc' ms' : Nat} {As stk : List Value} {h1 : PH} (hC : CC l Z N d' mc' ms' As h (RT none h1)) (hV : mm_S N n) (hd : decode (mm_c M) pc = .ok (.invokestatic idx, 3)) (w1 : Cond.methodLink (mm_own M) idx (mm_y N) ∈ TG) (hn : As.length = n) (hs : stk = As.reverse ++ st) (hh : mm_h M = []) (hdd : d' + 1 ≤ d) (hcat : (st.map fun v => v.category).sum ≤ 8) {bc0 bs0 : Nat} (hbc : bc + mc' ≤ bc0) (hbs : bs + ms' ≤ bs0)
    (kk : WW l Z M d bc bs (pc + 3) lv st h1 Post) : WW l Z M d bc0 bs0 pc lv stk h Post :=
  ww_cS hC hV hd w1 hn hs hh hdd hcat hbc hbs (fun v9 h9 hp => by obtain ⟨e1, rfl⟩ := hp; cases e1; exact kk) (fun E h9 hp => by cases hp.1)
end TXT
def tcN (i j : Nat) : Nat := ((js_byt.getD i []).getD j 0).toNatClampNeg
def tcL (i : Nat) : Nat := js_len.getD i 0
theorem tx_all : ∀ (i : Fin 21) (j : Fin 48), (js_byt.getD i.val []).getD j.val 0 = nI (tcN i.val j.val) ∧ tcN i.val j.val < 128 := by decide +kernel
theorem tx_len : ∀ (i : Fin 21), js_len.getD i.val 0 ≤ 47 := by decide +kernel
theorem tcL_le {i : Nat} (hi : i < 21) : js_len.getD i 0 ≤ 47 := tx_len ⟨i, hi⟩
theorem tx_at {i j : Nat} (hi : i < 21) (hj : j < 48) : (js_byt.getD i []).getD j 0 = nI (tcN i j) := (tx_all ⟨i, hi⟩ ⟨j, hj⟩).1
theorem tx_lt {i j : Nat} (hi : i < 21) (hj : j < 48) : tcN i j < 128 := (tx_all ⟨i, hi⟩ ⟨j, hj⟩).2
theorem tx_and {k : Nat} (hk : k < 128) : nI k &&& nI 255 = nI k := by
  have h9 := pk_andN (n := k) (by omega) (m := nI 255) 8 (by decide)
  rw [h9, Nat.mod_eq_of_lt (by omega)]
theorem tx_chr {k : Nat} (hk : k < 128) : ((nI k).toUInt32 % 65536).toInt32 = nI k := by
  rw [pk_char, pk_tn (by omega), Nat.mod_eq_of_lt (by omega)]
theorem tx_shr {k : Nat} (hk : k < 2 ^ 31) : nI k >>> (nI 0 &&& 31) = nI k := by
  rw [pk_shrN hk _ 0 (by decide), Nat.pow_zero, Nat.div_one]
theorem sfP_cat (Z : EE) : (sfP Z).category = 1 := by unfold sfP; split <;> rfl
set_option maxHeartbeats 4000000 in
set_option maxRecDepth 100000 in
theorem c_T_coder {l : Launch} {Z : EE} (hst : l.stackTraces = false) (i : Nat) (hi : i < 21) (h : PH) : CC l Z m_J0_coder_7d493 0 0 0 [.ref (1000000 + (1 + i))] h (RT (some (.int (nI 0))) h) := by
  refine ee_entryF hst (by decide +kernel) rfl rfl (by simp [Value.category]) (Nat.le_of_ble_eq_true rfl) ?_
  refine ww_lv (lv2 := [.ref (1000000 + (1 + i))]) rfl ?_
  refine ww_txZ dJ0_coder_7d493_0 wg_515 ?_
  refine ww_if_eqN (tgt := 13) dJ0_coder_7d493_3 (by decide) (by omega) (fun c3 => ?_) (fun c3 => ?_)
  · exact absurd c3 (by decide)
  · refine ww_aload_n dJ0_coder_7d493_6 rfl rfl ?_
    refine ww_txC (i := i) (by omega) dJ0_coder_7d493_7 wg_1818 ?_
    refine ww_goto (tgt := 14) dJ0_coder_7d493_10 (by decide) ?_
    exact ww_nret dJ0_coder_7d493_14 rfl rfl ⟨rfl, rfl⟩
set_option maxHeartbeats 4000000 in
set_option maxRecDepth 100000 in
theorem c_T_latin {l : Launch} {Z : EE} (hst : l.stackTraces = false) (i : Nat) (hi : i < 21) (h : PH) : CC l Z m_J0_isLatin1_aae02 0 0 0 [.ref (1000000 + (1 + i))] h (RT (some (.int (nI 1))) h) := by
  refine ee_entryF hst (by decide +kernel) rfl rfl (by simp [Value.category]) (Nat.le_of_ble_eq_true rfl) ?_
  refine ww_lv (lv2 := [.ref (1000000 + (1 + i))]) rfl ?_
  refine ww_txZ dJ0_isLatin1_aae02_0 wg_515 ?_
  refine ww_if_eqN (tgt := 17) dJ0_isLatin1_aae02_3 (by decide) (by omega) (fun c3 => ?_) (fun c3 => ?_)
  · exact absurd c3 (by decide)
  · refine ww_aload_n dJ0_isLatin1_aae02_6 rfl rfl ?_
    refine ww_txC (i := i) (by omega) dJ0_isLatin1_aae02_7 wg_1818 ?_
    refine ww_if_neN (tgt := 17) dJ0_isLatin1_aae02_10 (by decide) (by omega) (fun c10 => ?_) (fun c10 => ?_)
    · exact absurd c10 (by decide)
    · refine ww_iconst (v := nI 1) dJ0_isLatin1_aae02_13 (by decide) ?_
      refine ww_goto (tgt := 18) dJ0_isLatin1_aae02_14 (by decide) ?_
      exact ww_zret dJ0_isLatin1_aae02_18 rfl (by first | rfl | exact nar_bI _) ⟨rfl, rfl⟩
set_option maxHeartbeats 4000000 in
set_option maxRecDepth 100000 in
theorem c_T_length {l : Launch} {Z : EE} (hst : l.stackTraces = false) (i : Nat) (hi : i < 21) (h : PH) : CC l Z m_J0_length_8abf5 1 0 0 [.ref (1000000 + (1 + i))] h (RT (some (.int (nI (tcL i)))) h) := by
  refine ee_entryF hst (by decide +kernel) rfl rfl (by simp [Value.category]) (Nat.le_of_ble_eq_true rfl) ?_
  refine ww_lv (lv2 := [.ref (1000000 + (1 + i))]) rfl ?_
  have hln := tcL_le hi
  refine ww_aload_n dJ0_length_8abf5_0 rfl rfl ?_
  refine ww_txV (i := i) (by omega) dJ0_length_8abf5_1 wg_1817 ?_
  refine ww_txL (i := i) (by omega) dJ0_length_8abf5_4 ?_
  refine ww_aload_n dJ0_length_8abf5_5 rfl rfl ?_
  refine ww_cT (M := m_J0_length_8abf5) (pc := 6) (d := 1) (v := .int (nI 0)) (st := [.int (nI (js_len.getD i 0))]) (i := i) (by omega) (c_T_coder hst i hi h) vv_J0_coder_7d493 rfl dJ0_length_8abf5_6 wg_511 rfl rfl rfl (Nat.le_of_ble_eq_true rfl) (Nat.le_of_ble_eq_true rfl) ?_
  refine ww_ishr dJ0_length_8abf5_9 ?_
  exact ww_iret dJ0_length_8abf5_10 rfl ⟨by rw [tx_shr (by omega)]; rfl, rfl⟩
set_option maxHeartbeats 4000000 in
set_option maxRecDepth 100000 in
theorem c_T_pre {l : Launch} {Z : EE} (hst : l.stackTraces = false) (j n : Nat) (hj : j < n) (hn : n < 2 ^ 31) (h : PH) : CC l Z m_J3_checkIndex_8e157 0 0 0 [.int (nI j), .int (nI n), sfP Z] h (RT (some (.int (nI j))) h) := by
  refine ee_entryF hst (by decide +kernel) rfl rfl (by intro v hv; simp only [List.mem_cons, List.not_mem_nil, or_false] at hv; rcases hv with rfl | rfl | rfl; rfl; rfl; exact sfP_cat Z) (Nat.le_of_ble_eq_true rfl) ?_
  refine ww_lv (lv2 := [.int (nI j), .int (nI n), sfP Z]) rfl ?_
  refine ww_iload_n dJ3_checkIndex_8e157_0 rfl rfl ?_
  refine ww_if_ltN (tgt := 9) dJ3_checkIndex_8e157_1 (by decide) (by omega) ?_
  refine ww_iload_n dJ3_checkIndex_8e157_4 rfl rfl ?_
  refine ww_iload_n dJ3_checkIndex_8e157_5 rfl rfl ?_
  refine ww_icmp_ltN (tgt := 16) dJ3_checkIndex_8e157_6 (by decide) (by omega) (by omega) (fun c6 => ?_) (fun c6 => ?_)
  · refine ww_iload_n dJ3_checkIndex_8e157_16 rfl rfl ?_
    exact ww_iret dJ3_checkIndex_8e157_17 rfl ⟨rfl, rfl⟩
  · exfalso; omega
set_option maxHeartbeats 4000000 in
set_option maxRecDepth 100000 in
theorem c_T_check {l : Launch} {Z : EE} (hst : l.stackTraces = false) (j n : Nat) (hj : j < n) (hn : n < 2 ^ 31) (h : PH) : CC l Z m_J0_checkIndex_df160 1 0 0 [.int (nI j), .int (nI n)] h (RT none h) := by
  refine ee_entryF hst (by decide +kernel) rfl rfl (by simp [Value.category]) (Nat.le_of_ble_eq_true rfl) ?_
  refine ww_lv (lv2 := [.int (nI j), .int (nI n)]) rfl ?_
  refine ww_iload_n dJ0_checkIndex_df160_0 rfl rfl ?_
  refine ww_iload_n dJ0_checkIndex_df160_1 rfl rfl ?_
  refine ww_txF dJ0_checkIndex_df160_2 wg_531 ?_
  refine ww_cSr (M := m_J0_checkIndex_df160) (pc := 5) (v := .int (nI j)) (h1 := h) (st := []) (d := 1) (bc := 0) (bs := 0) (c_T_pre hst j n hj hn h) vv_J3_checkIndex_8e157 dJ0_checkIndex_df160_5 wg_533 rfl rfl rfl (Nat.le_of_ble_eq_true rfl) (Nat.le_of_ble_eq_true rfl) (Nat.le_of_ble_eq_true rfl) (Nat.le_of_ble_eq_true rfl) ?_
  refine ww_pop dJ0_checkIndex_df160_8 rfl ?_
  exact ww_vret dJ0_checkIndex_df160_9 rfl ⟨rfl, rfl⟩
set_option maxHeartbeats 4000000 in
set_option maxRecDepth 100000 in
theorem c_T_lat1 {l : Launch} {Z : EE} (hst : l.stackTraces = false) (i : Nat) (hi : i < 21) (j : Nat) (hj : j < js_len.getD i 0) (h : PH) : CC l Z m_J1_charAt_3b067 2 0 0 [.ref (1000000 + (101 + i)), .int (nI j)] h (RT (some (.int (nI (tcN i j)))) h) := by
  refine ee_entryF hst (by decide +kernel) rfl rfl (by simp [Value.category]) (Nat.le_of_ble_eq_true rfl) ?_
  refine ww_lv (lv2 := [.ref (1000000 + (101 + i)), .int (nI j)]) rfl ?_
  have hln := tcL_le hi
  refine ww_iload_n dJ1_charAt_3b067_0 rfl rfl ?_
  refine ww_aload_n dJ1_charAt_3b067_1 rfl rfl ?_
  refine ww_txL (i := i) (by omega) dJ1_charAt_3b067_2 ?_
  refine ww_cS0 (M := m_J1_charAt_3b067) (pc := 3) (h1 := h) (st := []) (d := 2) (bc := 0) (bs := 0) (c_T_check hst j (js_len.getD i 0) hj (by omega) h) vv_J0_checkIndex_df160 dJ1_charAt_3b067_3 wg_528 rfl rfl rfl (Nat.le_of_ble_eq_true rfl) (Nat.le_of_ble_eq_true rfl) (Nat.le_of_ble_eq_true rfl) (Nat.le_of_ble_eq_true rfl) ?_
  refine ww_aload_n dJ1_charAt_3b067_6 rfl rfl ?_
  refine ww_iload_n dJ1_charAt_3b067_7 rfl rfl ?_
  refine ww_txB (i := i) (j := j) (by omega) (by omega) (by omega) dJ1_charAt_3b067_8 ?_
  refine ww_sk (st2 := [.int (nI (tcN i j))]) (by rw [tx_at hi (by omega)]) ?_
  refine ww_sipush (v := nI 255) dJ1_charAt_3b067_9 (by decide) ?_
  refine ww_iand dJ1_charAt_3b067_12 ?_
  refine ww_sk (st2 := [.int (nI (tcN i j))]) (by rw [tx_and (tx_lt hi (by omega))]) ?_
  refine ww_i2c dJ1_charAt_3b067_13 (tx_chr (tx_lt hi (by omega))) ?_
  exact ww_nret dJ1_charAt_3b067_14 rfl (pk_charN (by have h9 := tx_lt (j := j) hi (by omega); omega)).1 ⟨rfl, rfl⟩
set_option maxHeartbeats 4000000 in
set_option maxRecDepth 100000 in
theorem c_T_charAt {l : Launch} {Z : EE} (hst : l.stackTraces = false) (i : Nat) (hi : i < 21) (j : Nat) (hj : j < js_len.getD i 0) (h : PH) : CC l Z m_J0_charAt_5068e 3 0 0 [.ref (1000000 + (1 + i)), .int (nI j)] h (RT (some (.int (nI (tcN i j)))) h) := by
  refine ee_entryF hst (by decide +kernel) rfl rfl (by simp [Value.category]) (Nat.le_of_ble_eq_true rfl) ?_
  refine ww_lv (lv2 := [.ref (1000000 + (1 + i)), .int (nI j)]) rfl ?_
  have hln := tcL_le hi
  refine ww_aload_n dJ0_charAt_5068e_0 rfl rfl ?_
  refine ww_cT (M := m_J0_charAt_5068e) (pc := 1) (d := 3) (v := .int (nI 1)) (st := []) (i := i) (by omega) (c_T_latin hst i hi h) vv_J0_isLatin1_aae02 rfl dJ0_charAt_5068e_1 wg_521 rfl rfl rfl (Nat.le_of_ble_eq_true rfl) (Nat.le_of_ble_eq_true rfl) ?_
  refine ww_if_eqN (tgt := 16) dJ0_charAt_5068e_4 (by decide) (by omega) (fun c4 => ?_) (fun c4 => ?_)
  · exact absurd c4 (by decide)
  · refine ww_aload_n dJ0_charAt_5068e_7 rfl rfl ?_
    refine ww_txV (i := i) (by omega) dJ0_charAt_5068e_8 wg_1817 ?_
    refine ww_iload_n dJ0_charAt_5068e_11 rfl rfl ?_
    refine ww_cSr (M := m_J0_charAt_5068e) (pc := 12) (v := .int (nI (tcN i j))) (h1 := h) (st := []) (d := 3) (bc := 0) (bs := 0) (c_T_lat1 hst i hi j hj h) vv_J1_charAt_3b067 dJ0_charAt_5068e_12 wg_525 rfl rfl rfl (Nat.le_of_ble_eq_true rfl) (Nat.le_of_ble_eq_true rfl) (Nat.le_of_ble_eq_true rfl) (Nat.le_of_ble_eq_true rfl) ?_
    exact ww_nret dJ0_charAt_5068e_15 rfl (pk_charN (by have h9 := tx_lt (j := j) hi (by omega); omega)).1 ⟨rfl, rfl⟩
