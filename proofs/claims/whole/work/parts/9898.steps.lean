/-! ===== the law's body: a step of the script ===== -/
/-- the law's own method, by whatever name it is called -/
def mLaw (nm : String) : MM := (RL, ⟨RL, nm, "([I)Z"⟩, cL_law_, 7, some .boolean, [])
section WWS
variable {l : Launch} {Z : EE} {M : MM} {d bc bs pc : Nat} {lv st : List Value} {h : PH} {Post : Res → PH → Prop}
theorem ee_sc {Z : EE} {ws : va_W} {h : PH} {b0 : Value} (hHR : ee_HR Z ws h) (q0 : ee_VR Z ws (.ref (1000000 + 300)) b0) : b0 = .ref (Z.2.2 300) := by
  rcases q0 with ⟨a9, e9, g1, g2⟩ | ⟨-, g2⟩
  · have hlt := (List.getElem?_eq_some_iff.mp g1).1
    have r9 := hHR.1
    have r8 := hHR.2.1
    have hlt' : (1000000 + 300 : Nat) < ws.length := hlt
    omega
  · rw [Nat.add_sub_cancel_left] at g2
    exact g2
/-- an int of the script -/
theorem ww_sald {i : Nat} (hd : decode (mm_c M) pc = .ok (.iaload, 1)) (hi : i < Z.2.2 301) (hn : i < 2 ^ 31) (hN : Z.2.2 301 < 2 ^ 31) (k : WW l Z M d bc bs (pc + 1) lv ((.int (scI Z i)) :: st) h Post) : WW l Z M d bc bs pc lv ((.int (nI i)) :: (.ref (1000000 + 300)) :: st) h Post := by
  intro p e s m args below meth c ws0 mc ms ws H locs cells slots rls rst C' S h1 h2
  have C'' := C'
  obtain ⟨hx, hb, hr, hml, hown, hts, hlocks, htab, hK, hZ, hst, hnm⟩ := C''
  obtain ⟨hHR, hP, hD, hS, hL, hF, hE⟩ := S
  obtain ⟨v', r0, e0, qv, F1⟩ := hF.c
  subst e0
  cases (show v' = Value.int (nI i) from qv)
  obtain ⟨b0, r1, e1, q0, F2⟩ := F1.c
  subst e1
  cases ee_sc hHR q0
  refine va_ti hx hb hZ.2.1.2 hS (vp_in_nI hi hN) (v := .int (scI Z i)) (by rw [nI_clamp hn]) hd ?_
  exact k p e s m args below meth c ws0 mc ms ws H locs cells slots rls _ C' ⟨hHR, hP, hD, hS, hL, ⟨rfl, F2⟩, hE⟩ h1 h2
/-- the script's length -/
theorem ww_slen (hd : decode (mm_c M) pc = .ok (.arraylength, 1)) (k : WW l Z M d bc bs (pc + 1) lv ((.int (nI (Z.2.2 301))) :: st) h Post) : WW l Z M d bc bs pc lv ((.ref (1000000 + 300)) :: st) h Post := by
  intro p e s m args below meth c ws0 mc ms ws H locs cells slots rls rst C' S h1 h2
  have C'' := C'
  obtain ⟨hx, hb, hr, hml, hown, hts, hlocks, htab, hK, hZ, hst, hnm⟩ := C''
  obtain ⟨hHR, hP, hD, hS, hL, hF, hE⟩ := S
  obtain ⟨b0, r1, e1, q0, F2⟩ := hF.c
  subst e1
  cases ee_sc hHR q0
  refine va_tlen hx hb hZ.2.1.2 hS (v := nI (Z.2.2 301)) rfl hd ?_
  exact k p e s m args below meth c ws0 mc ms ws H locs cells slots rls _ C' ⟨hHR, hP, hD, hS, hL, ⟨rfl, F2⟩, hE⟩ h1 h2
end WWS
/-- one call of both through a wrapper: the same end, the same answer -/
def StW (l : Launch) (Z : EE) (N NX : MM) (d mc ms : Nat) (As : List Value) (G : PH → Prop) (h : PH) : Prop :=
  ∃ (k : Nat) (Q1 : PH → Prop) (d1 mc1 ms1 : Nat), (k ≤ 2 ∧ d1 ≤ d ∧ mc1 ≤ mc ∧ ms1 ≤ ms) ∧ CC l Z N d1 mc1 ms1 ((.ref 0) :: (As ++ [.ref 72])) h (RQ (some (.int (nI k))) Q1) ∧
    ∀ h1, Q1 h1 → hp_K h1 46 = (11, 53) ∧ ∃ (v : Int32) (d2 : Nat), d2 ≤ d ∧ CC l Z NX d2 0 0 ((.ref 46) :: As) h1 (RQ (some (.int v)) (fun h2 => G h2 ∧ ModS h2 46 ∧ hp_F h2 46 0 = .int (nI k) ∧ hp_K h2 72 = (21, 1) ∧ (k = 0 → hp_L h2 72 0 = v.toInt64)))
/-- one call of both: the same answer -/
def StD (l : Launch) (Z : EE) (N NX : MM) (d mc ms : Nat) (As : List Value) (G : PH → Prop) (h : PH) : Prop :=
  ∃ (v : Int32) (Q1 : PH → Prop) (d1 mc1 ms1 : Nat), (d1 ≤ d ∧ mc1 ≤ mc ∧ ms1 ≤ ms) ∧ CC l Z N d1 mc1 ms1 ((.ref 0) :: As) h (RQ (some (.int v)) Q1) ∧
    ∀ h1, Q1 h1 → hp_K h1 46 = (11, 53) ∧ ∃ (d2 : Nat), d2 ≤ d ∧ CC l Z NX d2 0 0 ((.ref 46) :: As) h1 (RQ (some (.int v)) G)
theorem lg_cmp_self (x : Int64) : lg_cmp x x = 0 := by
  unfold lg_cmp
  simp
set_option maxHeartbeats 4000000 in
theorem s_0 {l : Launch} {Z : EE} (hst : l.stackTraces = false) {nm : String} {i : Nat} (hi : 7 * i + 7 ≤ Z.2.2 301) (hL : Z.2.2 301 ≤ 3584) {G : PH → Prop} {h : PH} (h0 : hp_K h 0 = (10, 19)) {d mc ms D bc bs : Nat} (hD : d + 1 ≤ D) {Post : Res → PH → Prop} (hW : StD l Z m_X10_feed m_X11_feed d mc ms [.int (scI Z (7 * i + 1)), .int (scI Z (7 * i + 2)), .int (scI Z (7 * i + 3)), .int (scI Z (7 * i + 4)), .int (scI Z (7 * i + 5))] G h)
    (kk : ∀ h2, G h2 → WW l Z (mLaw nm) D bc bs 2553 [.ref (1000000 + 300), .ref 0, .ref 46, .ref 72, .int (nI (7 * i)), UU, UU] [] h2 Post) : WW l Z (mLaw nm) D (bc + mc) (bs + ms) 212 [.ref (1000000 + 300), .ref 0, .ref 46, .ref 72, .int (nI (7 * i)), UU, UU] [] h Post := by
  obtain ⟨v, Q1, d1, mc1, ms1, ⟨hd1, hm1, hs1⟩, c1, c2⟩ := hW
  refine ww_aload_n dL_law__212 rfl rfl ?_
  refine ww_aload_n dL_law__213 rfl rfl ?_
  refine ww_iload dL_law__214 rfl ?_
  refine ww_iconst (v := nI 1) dL_law__216 (by decide) ?_
  refine ww_iaddN dL_law__217 ?_
  refine ww_sald dL_law__218 (by omega) (by omega) (by omega) ?_
  refine ww_aload_n dL_law__219 rfl rfl ?_
  refine ww_iload dL_law__220 rfl ?_
  refine ww_iconst (v := nI 2) dL_law__222 (by decide) ?_
  refine ww_iaddN dL_law__223 ?_
  refine ww_sald dL_law__224 (by omega) (by omega) (by omega) ?_
  refine ww_aload_n dL_law__225 rfl rfl ?_
  refine ww_iload dL_law__226 rfl ?_
  refine ww_iconst (v := nI 3) dL_law__228 (by decide) ?_
  refine ww_iaddN dL_law__229 ?_
  refine ww_sald dL_law__230 (by omega) (by omega) (by omega) ?_
  refine ww_aload_n dL_law__231 rfl rfl ?_
  refine ww_iload dL_law__232 rfl ?_
  refine ww_iconst (v := nI 4) dL_law__234 (by decide) ?_
  refine ww_iaddN dL_law__235 ?_
  refine ww_sald dL_law__236 (by omega) (by omega) (by omega) ?_
  refine ww_aload_n dL_law__237 rfl rfl ?_
  refine ww_iload dL_law__238 rfl ?_
  refine ww_iconst (v := nI 5) dL_law__240 (by decide) ?_
  refine ww_iaddN dL_law__241 ?_
  refine ww_sald dL_law__242 (by omega) (by omega) (by omega) ?_
  refine ww_cVq (M := mLaw nm) (pc := 243) (As := [.int (scI Z (7 * i + 1)), .int (scI Z (7 * i + 2)), .int (scI Z (7 * i + 3)), .int (scI Z (7 * i + 4)), .int (scI Z (7 * i + 5))]) (st := []) (d := D) (bc := bc) (bs := bs) (bc0 := bc + mc) (bs0 := bs + ms) c1 vv_X10_feed dL_law__243 wg_322 h0 rfl rfl rfl rfl (by omega) (Nat.le_of_ble_eq_true rfl) (by omega) (by omega) (fun h1 q1 => ?_)
  obtain ⟨m1, d2, hd2, c3⟩ := c2 h1 q1
  refine ww_aload_n dL_law__246 rfl rfl ?_
  refine ww_aload_n dL_law__247 rfl rfl ?_
  refine ww_iload dL_law__248 rfl ?_
  refine ww_iconst (v := nI 1) dL_law__250 (by decide) ?_
  refine ww_iaddN dL_law__251 ?_
  refine ww_sald dL_law__252 (by omega) (by omega) (by omega) ?_
  refine ww_aload_n dL_law__253 rfl rfl ?_
  refine ww_iload dL_law__254 rfl ?_
  refine ww_iconst (v := nI 2) dL_law__256 (by decide) ?_
  refine ww_iaddN dL_law__257 ?_
  refine ww_sald dL_law__258 (by omega) (by omega) (by omega) ?_
  refine ww_aload_n dL_law__259 rfl rfl ?_
  refine ww_iload dL_law__260 rfl ?_
  refine ww_iconst (v := nI 3) dL_law__262 (by decide) ?_
  refine ww_iaddN dL_law__263 ?_
  refine ww_sald dL_law__264 (by omega) (by omega) (by omega) ?_
  refine ww_aload_n dL_law__265 rfl rfl ?_
  refine ww_iload dL_law__266 rfl ?_
  refine ww_iconst (v := nI 4) dL_law__268 (by decide) ?_
  refine ww_iaddN dL_law__269 ?_
  refine ww_sald dL_law__270 (by omega) (by omega) (by omega) ?_
  refine ww_aload_n dL_law__271 rfl rfl ?_
  refine ww_iload dL_law__272 rfl ?_
  refine ww_iconst (v := nI 5) dL_law__274 (by decide) ?_
  refine ww_iaddN dL_law__275 ?_
  refine ww_sald dL_law__276 (by omega) (by omega) (by omega) ?_
  refine ww_cVq (M := mLaw nm) (pc := 277) (As := [.int (scI Z (7 * i + 1)), .int (scI Z (7 * i + 2)), .int (scI Z (7 * i + 3)), .int (scI Z (7 * i + 4)), .int (scI Z (7 * i + 5))]) (st := [.int v]) (d := D) (bc := bc) (bs := bs) (bc0 := bc) (bs0 := bs) c3 vv_X11_feed dL_law__277 wg_1401 m1 rfl rfl rfl rfl (by omega) (Nat.le_of_ble_eq_true rfl) (Nat.le_refl _) (Nat.le_refl _) (fun h2 q2 => ?_)
  refine ww_icmp_eq (tgt := 2553) dL_law__280 (by decide) (fun _ => kk h2 q2) (fun q => absurd rfl q)
set_option maxHeartbeats 4000000 in
theorem s_1 {l : Launch} {Z : EE} (hst : l.stackTraces = false) {nm : String} {i : Nat} (hi : 7 * i + 7 ≤ Z.2.2 301) (hL : Z.2.2 301 ≤ 3584) {G : PH → Prop} {h : PH} (h0 : hp_K h 0 = (10, 19)) {d mc ms D bc bs : Nat} (hD : d + 1 ≤ D) {Post : Res → PH → Prop} (hW : StW l Z m_L_land m_X11_land d mc ms [.int (scI Z (7 * i + 1))] G h)
    (kk : ∀ h2, G h2 → WW l Z (mLaw nm) D bc bs 2553 [.ref (1000000 + 300), .ref 0, .ref 46, .ref 72, .int (nI (7 * i)), UU, UU] [] h2 Post) : WW l Z (mLaw nm) D (bc + mc) (bs + ms) 285 [.ref (1000000 + 300), .ref 0, .ref 46, .ref 72, .int (nI (7 * i)), UU, UU] [] h Post := by
  obtain ⟨k, Q1, d1, mc1, ms1, ⟨hk, hd1, hm1, hs1⟩, c1, c2⟩ := hW
  refine ww_aload_n dL_law__285 rfl rfl ?_
  refine ww_aload_n dL_law__286 rfl rfl ?_
  refine ww_iload dL_law__287 rfl ?_
  refine ww_iconst (v := nI 1) dL_law__289 (by decide) ?_
  refine ww_iaddN dL_law__290 ?_
  refine ww_sald dL_law__291 (by omega) (by omega) (by omega) ?_
  refine ww_aload_n dL_law__292 rfl rfl ?_
  refine ww_cSXq (M := mLaw nm) (pc := 293) (As := (.ref 0) :: ([.int (scI Z (7 * i + 1))] ++ [.ref 72])) (st := []) (d := D) (bc := bc) (bs := bs) (bc0 := bc + mc) (bs0 := bs + ms) c1 vx_L_land dL_law__293 wg_402 rfl rfl (by omega) (Nat.le_of_ble_eq_true rfl) (by omega) (by omega) (fun h1 q1 => ?_)
  obtain ⟨m1, v, d2, hd2, c3⟩ := c2 h1 q1
  refine ww_sti (lv2 := [.ref (1000000 + 300), .ref 0, .ref 46, .ref 72, .int (nI (7 * i)), .int (nI k), UU]) dL_law__296 rfl (Nat.le_of_ble_eq_true rfl) rfl ?_
  refine ww_aload_n dL_law__298 rfl rfl ?_
  refine ww_aload_n dL_law__299 rfl rfl ?_
  refine ww_iload dL_law__300 rfl ?_
  refine ww_iconst (v := nI 1) dL_law__302 (by decide) ?_
  refine ww_iaddN dL_law__303 ?_
  refine ww_sald dL_law__304 (by omega) (by omega) (by omega) ?_
  refine ww_cVq (M := mLaw nm) (pc := 305) (As := [.int (scI Z (7 * i + 1))]) (st := []) (d := D) (bc := bc) (bs := bs) (bc0 := bc) (bs0 := bs) c3 vv_X11_land dL_law__305 wg_1409 m1 rfl rfl rfl rfl (by omega) (Nat.le_of_ble_eq_true rfl) (Nat.le_refl _) (Nat.le_refl _) (fun h2 q2 => ?_)
  obtain ⟨g2, m2, t2, k2, e2⟩ := q2
  refine ww_sti (lv2 := [.ref (1000000 + 300), .ref 0, .ref 46, .ref 72, .int (nI (7 * i)), .int (nI k), .int v]) dL_law__308 rfl (Nat.le_of_ble_eq_true rfl) rfl ?_
  refine ww_aload_n dL_law__310 rfl rfl ?_
  refine ww_cVr (M := mLaw nm) (pc := 311) (As := []) (st := []) (d := D) (bc := bc) (bs := bs) (bc0 := bc) (bs0 := bs) (c_M_thrown hst m2 _ t2) vv_X11_thrown dL_law__311 wg_1222 m2.K0 rfl rfl rfl rfl (by omega) (Nat.le_of_ble_eq_true rfl) (Nat.le_refl _) (Nat.le_refl _) ?_
  refine ww_iload dL_law__314 rfl ?_
  refine ww_icmp_eq (tgt := 321) dL_law__316 (by decide) (fun _ => ?_) (fun q => absurd rfl q)
  refine ww_iload dL_law__321 rfl ?_
  refine ww_if_neN (tgt := 338) dL_law__323 (by decide) (by omega) (fun _ => ?_) (fun k0 => ?_)
  · refine ww_goto (tgt := 2553) dL_law__338 (by decide) ?_
    exact ww_fg (lv2 := [.ref (1000000 + 300), .ref 0, .ref 46, .ref 72, .int (nI (7 * i)), UU, UU]) ⟨Or.inr rfl, Or.inr rfl, Or.inr rfl, Or.inr rfl, Or.inr rfl, Or.inl rfl, Or.inl rfl, trivial⟩ (kk h2 g2)
  · refine ww_aload_n dL_law__326 rfl rfl ?_
    refine ww_iconst (v := nI 0) dL_law__327 (by decide) ?_
    refine ww_laldN dL_law__328 k2 (by decide) (by decide) ?_
    refine ww_iload dL_law__329 rfl ?_
    refine ww_i2l dL_law__331 ?_
    refine ww_lcmp dL_law__332 ?_
    refine ww_if_eq (tgt := 338) dL_law__333 (by decide) (fun _ => ?_) (fun q => absurd (by rw [e2 k0]; exact lg_cmp_self _) q)
    refine ww_goto (tgt := 2553) dL_law__338 (by decide) ?_
    exact ww_fg (lv2 := [.ref (1000000 + 300), .ref 0, .ref 46, .ref 72, .int (nI (7 * i)), UU, UU]) ⟨Or.inr rfl, Or.inr rfl, Or.inr rfl, Or.inr rfl, Or.inr rfl, Or.inl rfl, Or.inl rfl, trivial⟩ (kk h2 g2)
set_option maxHeartbeats 4000000 in
theorem s_2 {l : Launch} {Z : EE} (hst : l.stackTraces = false) {nm : String} {i : Nat} (hi : 7 * i + 7 ≤ Z.2.2 301) (hL : Z.2.2 301 ≤ 3584) {G : PH → Prop} {h : PH} (h0 : hp_K h 0 = (10, 19)) {d mc ms D bc bs : Nat} (hD : d + 1 ≤ D) {Post : Res → PH → Prop} (hW : StW l Z m_L_law m_X11_law d mc ms [.int (scI Z (7 * i + 1))] G h)
    (kk : ∀ h2, G h2 → WW l Z (mLaw nm) D bc bs 2553 [.ref (1000000 + 300), .ref 0, .ref 46, .ref 72, .int (nI (7 * i)), UU, UU] [] h2 Post) : WW l Z (mLaw nm) D (bc + mc) (bs + ms) 341 [.ref (1000000 + 300), .ref 0, .ref 46, .ref 72, .int (nI (7 * i)), UU, UU] [] h Post := by
  obtain ⟨k, Q1, d1, mc1, ms1, ⟨hk, hd1, hm1, hs1⟩, c1, c2⟩ := hW
  refine ww_aload_n dL_law__341 rfl rfl ?_
  refine ww_aload_n dL_law__342 rfl rfl ?_
  refine ww_iload dL_law__343 rfl ?_
  refine ww_iconst (v := nI 1) dL_law__345 (by decide) ?_
  refine ww_iaddN dL_law__346 ?_
  refine ww_sald dL_law__347 (by omega) (by omega) (by omega) ?_
  refine ww_aload_n dL_law__348 rfl rfl ?_
  refine ww_cSXq (M := mLaw nm) (pc := 349) (As := (.ref 0) :: ([.int (scI Z (7 * i + 1))] ++ [.ref 72])) (st := []) (d := D) (bc := bc) (bs := bs) (bc0 := bc + mc) (bs0 := bs + ms) c1 vx_L_law dL_law__349 wg_596 rfl rfl (by omega) (Nat.le_of_ble_eq_true rfl) (by omega) (by omega) (fun h1 q1 => ?_)
  obtain ⟨m1, v, d2, hd2, c3⟩ := c2 h1 q1
  refine ww_sti (lv2 := [.ref (1000000 + 300), .ref 0, .ref 46, .ref 72, .int (nI (7 * i)), .int (nI k), UU]) dL_law__352 rfl (Nat.le_of_ble_eq_true rfl) rfl ?_
  refine ww_aload_n dL_law__354 rfl rfl ?_
  refine ww_aload_n dL_law__355 rfl rfl ?_
  refine ww_iload dL_law__356 rfl ?_
  refine ww_iconst (v := nI 1) dL_law__358 (by decide) ?_
  refine ww_iaddN dL_law__359 ?_
  refine ww_sald dL_law__360 (by omega) (by omega) (by omega) ?_
  refine ww_cVq (M := mLaw nm) (pc := 361) (As := [.int (scI Z (7 * i + 1))]) (st := []) (d := D) (bc := bc) (bs := bs) (bc0 := bc) (bs0 := bs) c3 vv_X11_law dL_law__361 wg_1475 m1 rfl rfl rfl rfl (by omega) (Nat.le_of_ble_eq_true rfl) (Nat.le_refl _) (Nat.le_refl _) (fun h2 q2 => ?_)
  obtain ⟨g2, m2, t2, k2, e2⟩ := q2
  refine ww_sti (lv2 := [.ref (1000000 + 300), .ref 0, .ref 46, .ref 72, .int (nI (7 * i)), .int (nI k), .int v]) dL_law__364 rfl (Nat.le_of_ble_eq_true rfl) rfl ?_
  refine ww_aload_n dL_law__366 rfl rfl ?_
  refine ww_cVr (M := mLaw nm) (pc := 367) (As := []) (st := []) (d := D) (bc := bc) (bs := bs) (bc0 := bc) (bs0 := bs) (c_M_thrown hst m2 _ t2) vv_X11_thrown dL_law__367 wg_1222 m2.K0 rfl rfl rfl rfl (by omega) (Nat.le_of_ble_eq_true rfl) (Nat.le_refl _) (Nat.le_refl _) ?_
  refine ww_iload dL_law__370 rfl ?_
  refine ww_icmp_eq (tgt := 377) dL_law__372 (by decide) (fun _ => ?_) (fun q => absurd rfl q)
  refine ww_iload dL_law__377 rfl ?_
  refine ww_if_neN (tgt := 394) dL_law__379 (by decide) (by omega) (fun _ => ?_) (fun k0 => ?_)
  · refine ww_goto (tgt := 2553) dL_law__394 (by decide) ?_
    exact ww_fg (lv2 := [.ref (1000000 + 300), .ref 0, .ref 46, .ref 72, .int (nI (7 * i)), UU, UU]) ⟨Or.inr rfl, Or.inr rfl, Or.inr rfl, Or.inr rfl, Or.inr rfl, Or.inl rfl, Or.inl rfl, trivial⟩ (kk h2 g2)
  · refine ww_aload_n dL_law__382 rfl rfl ?_
    refine ww_iconst (v := nI 0) dL_law__383 (by decide) ?_
    refine ww_laldN dL_law__384 k2 (by decide) (by decide) ?_
    refine ww_iload dL_law__385 rfl ?_
    refine ww_i2l dL_law__387 ?_
    refine ww_lcmp dL_law__388 ?_
    refine ww_if_eq (tgt := 394) dL_law__389 (by decide) (fun _ => ?_) (fun q => absurd (by rw [e2 k0]; exact lg_cmp_self _) q)
    refine ww_goto (tgt := 2553) dL_law__394 (by decide) ?_
    exact ww_fg (lv2 := [.ref (1000000 + 300), .ref 0, .ref 46, .ref 72, .int (nI (7 * i)), UU, UU]) ⟨Or.inr rfl, Or.inr rfl, Or.inr rfl, Or.inr rfl, Or.inr rfl, Or.inl rfl, Or.inl rfl, trivial⟩ (kk h2 g2)
set_option maxHeartbeats 4000000 in
theorem s_3 {l : Launch} {Z : EE} (hst : l.stackTraces = false) {nm : String} {i : Nat} (hi : 7 * i + 7 ≤ Z.2.2 301) (hL : Z.2.2 301 ≤ 3584) {G : PH → Prop} {h : PH} (h0 : hp_K h 0 = (10, 19)) {d mc ms D bc bs : Nat} (hD : d + 1 ≤ D) {Post : Res → PH → Prop} (hW : StW l Z m_L_work m_X11_work d mc ms [.int (scI Z (7 * i + 1))] G h)
    (kk : ∀ h2, G h2 → WW l Z (mLaw nm) D bc bs 2553 [.ref (1000000 + 300), .ref 0, .ref 46, .ref 72, .int (nI (7 * i)), UU, UU] [] h2 Post) : WW l Z (mLaw nm) D (bc + mc) (bs + ms) 397 [.ref (1000000 + 300), .ref 0, .ref 46, .ref 72, .int (nI (7 * i)), UU, UU] [] h Post := by
  obtain ⟨k, Q1, d1, mc1, ms1, ⟨hk, hd1, hm1, hs1⟩, c1, c2⟩ := hW
  refine ww_aload_n dL_law__397 rfl rfl ?_
  refine ww_aload_n dL_law__398 rfl rfl ?_
  refine ww_iload dL_law__399 rfl ?_
  refine ww_iconst (v := nI 1) dL_law__401 (by decide) ?_
  refine ww_iaddN dL_law__402 ?_
  refine ww_sald dL_law__403 (by omega) (by omega) (by omega) ?_
  refine ww_aload_n dL_law__404 rfl rfl ?_
  refine ww_cSXq (M := mLaw nm) (pc := 405) (As := (.ref 0) :: ([.int (scI Z (7 * i + 1))] ++ [.ref 72])) (st := []) (d := D) (bc := bc) (bs := bs) (bc0 := bc + mc) (bs0 := bs + ms) c1 vx_L_work dL_law__405 wg_638 rfl rfl (by omega) (Nat.le_of_ble_eq_true rfl) (by omega) (by omega) (fun h1 q1 => ?_)
  obtain ⟨m1, v, d2, hd2, c3⟩ := c2 h1 q1
  refine ww_sti (lv2 := [.ref (1000000 + 300), .ref 0, .ref 46, .ref 72, .int (nI (7 * i)), .int (nI k), UU]) dL_law__408 rfl (Nat.le_of_ble_eq_true rfl) rfl ?_
  refine ww_aload_n dL_law__410 rfl rfl ?_
  refine ww_aload_n dL_law__411 rfl rfl ?_
  refine ww_iload dL_law__412 rfl ?_
  refine ww_iconst (v := nI 1) dL_law__414 (by decide) ?_
  refine ww_iaddN dL_law__415 ?_
  refine ww_sald dL_law__416 (by omega) (by omega) (by omega) ?_
  refine ww_cVq (M := mLaw nm) (pc := 417) (As := [.int (scI Z (7 * i + 1))]) (st := []) (d := D) (bc := bc) (bs := bs) (bc0 := bc) (bs0 := bs) c3 vv_X11_work dL_law__417 wg_1520 m1 rfl rfl rfl rfl (by omega) (Nat.le_of_ble_eq_true rfl) (Nat.le_refl _) (Nat.le_refl _) (fun h2 q2 => ?_)
  obtain ⟨g2, m2, t2, k2, e2⟩ := q2
  refine ww_sti (lv2 := [.ref (1000000 + 300), .ref 0, .ref 46, .ref 72, .int (nI (7 * i)), .int (nI k), .int v]) dL_law__420 rfl (Nat.le_of_ble_eq_true rfl) rfl ?_
  refine ww_aload_n dL_law__422 rfl rfl ?_
  refine ww_cVr (M := mLaw nm) (pc := 423) (As := []) (st := []) (d := D) (bc := bc) (bs := bs) (bc0 := bc) (bs0 := bs) (c_M_thrown hst m2 _ t2) vv_X11_thrown dL_law__423 wg_1222 m2.K0 rfl rfl rfl rfl (by omega) (Nat.le_of_ble_eq_true rfl) (Nat.le_refl _) (Nat.le_refl _) ?_
  refine ww_iload dL_law__426 rfl ?_
  refine ww_icmp_eq (tgt := 433) dL_law__428 (by decide) (fun _ => ?_) (fun q => absurd rfl q)
  refine ww_iload dL_law__433 rfl ?_
  refine ww_if_neN (tgt := 450) dL_law__435 (by decide) (by omega) (fun _ => ?_) (fun k0 => ?_)
  · refine ww_goto (tgt := 2553) dL_law__450 (by decide) ?_
    exact ww_fg (lv2 := [.ref (1000000 + 300), .ref 0, .ref 46, .ref 72, .int (nI (7 * i)), UU, UU]) ⟨Or.inr rfl, Or.inr rfl, Or.inr rfl, Or.inr rfl, Or.inr rfl, Or.inl rfl, Or.inl rfl, trivial⟩ (kk h2 g2)
  · refine ww_aload_n dL_law__438 rfl rfl ?_
    refine ww_iconst (v := nI 0) dL_law__439 (by decide) ?_
    refine ww_laldN dL_law__440 k2 (by decide) (by decide) ?_
    refine ww_iload dL_law__441 rfl ?_
    refine ww_i2l dL_law__443 ?_
    refine ww_lcmp dL_law__444 ?_
    refine ww_if_eq (tgt := 450) dL_law__445 (by decide) (fun _ => ?_) (fun q => absurd (by rw [e2 k0]; exact lg_cmp_self _) q)
    refine ww_goto (tgt := 2553) dL_law__450 (by decide) ?_
    exact ww_fg (lv2 := [.ref (1000000 + 300), .ref 0, .ref 46, .ref 72, .int (nI (7 * i)), UU, UU]) ⟨Or.inr rfl, Or.inr rfl, Or.inr rfl, Or.inr rfl, Or.inr rfl, Or.inl rfl, Or.inl rfl, trivial⟩ (kk h2 g2)
set_option maxHeartbeats 4000000 in
theorem s_4 {l : Launch} {Z : EE} (hst : l.stackTraces = false) {nm : String} {i : Nat} (hi : 7 * i + 7 ≤ Z.2.2 301) (hL : Z.2.2 301 ≤ 3584) {G : PH → Prop} {h : PH} (h0 : hp_K h 0 = (10, 19)) {d mc ms D bc bs : Nat} (hD : d + 1 ≤ D) {Post : Res → PH → Prop} (hW : StW l Z m_L_book m_X11_book d mc ms [.int (scI Z (7 * i + 1))] G h)
    (kk : ∀ h2, G h2 → WW l Z (mLaw nm) D bc bs 2553 [.ref (1000000 + 300), .ref 0, .ref 46, .ref 72, .int (nI (7 * i)), UU, UU] [] h2 Post) : WW l Z (mLaw nm) D (bc + mc) (bs + ms) 453 [.ref (1000000 + 300), .ref 0, .ref 46, .ref 72, .int (nI (7 * i)), UU, UU] [] h Post := by
  obtain ⟨k, Q1, d1, mc1, ms1, ⟨hk, hd1, hm1, hs1⟩, c1, c2⟩ := hW
  refine ww_aload_n dL_law__453 rfl rfl ?_
  refine ww_aload_n dL_law__454 rfl rfl ?_
  refine ww_iload dL_law__455 rfl ?_
  refine ww_iconst (v := nI 1) dL_law__457 (by decide) ?_
  refine ww_iaddN dL_law__458 ?_
  refine ww_sald dL_law__459 (by omega) (by omega) (by omega) ?_
  refine ww_aload_n dL_law__460 rfl rfl ?_
  refine ww_cSXq (M := mLaw nm) (pc := 461) (As := (.ref 0) :: ([.int (scI Z (7 * i + 1))] ++ [.ref 72])) (st := []) (d := D) (bc := bc) (bs := bs) (bc0 := bc + mc) (bs0 := bs + ms) c1 vx_L_book dL_law__461 wg_747 rfl rfl (by omega) (Nat.le_of_ble_eq_true rfl) (by omega) (by omega) (fun h1 q1 => ?_)
  obtain ⟨m1, v, d2, hd2, c3⟩ := c2 h1 q1
  refine ww_sti (lv2 := [.ref (1000000 + 300), .ref 0, .ref 46, .ref 72, .int (nI (7 * i)), .int (nI k), UU]) dL_law__464 rfl (Nat.le_of_ble_eq_true rfl) rfl ?_
  refine ww_aload_n dL_law__466 rfl rfl ?_
  refine ww_aload_n dL_law__467 rfl rfl ?_
  refine ww_iload dL_law__468 rfl ?_
  refine ww_iconst (v := nI 1) dL_law__470 (by decide) ?_
  refine ww_iaddN dL_law__471 ?_
  refine ww_sald dL_law__472 (by omega) (by omega) (by omega) ?_
  refine ww_cVq (M := mLaw nm) (pc := 473) (As := [.int (scI Z (7 * i + 1))]) (st := []) (d := D) (bc := bc) (bs := bs) (bc0 := bc) (bs0 := bs) c3 vv_X11_book dL_law__473 wg_1589 m1 rfl rfl rfl rfl (by omega) (Nat.le_of_ble_eq_true rfl) (Nat.le_refl _) (Nat.le_refl _) (fun h2 q2 => ?_)
  obtain ⟨g2, m2, t2, k2, e2⟩ := q2
  refine ww_sti (lv2 := [.ref (1000000 + 300), .ref 0, .ref 46, .ref 72, .int (nI (7 * i)), .int (nI k), .int v]) dL_law__476 rfl (Nat.le_of_ble_eq_true rfl) rfl ?_
  refine ww_aload_n dL_law__478 rfl rfl ?_
  refine ww_cVr (M := mLaw nm) (pc := 479) (As := []) (st := []) (d := D) (bc := bc) (bs := bs) (bc0 := bc) (bs0 := bs) (c_M_thrown hst m2 _ t2) vv_X11_thrown dL_law__479 wg_1222 m2.K0 rfl rfl rfl rfl (by omega) (Nat.le_of_ble_eq_true rfl) (Nat.le_refl _) (Nat.le_refl _) ?_
  refine ww_iload dL_law__482 rfl ?_
  refine ww_icmp_eq (tgt := 489) dL_law__484 (by decide) (fun _ => ?_) (fun q => absurd rfl q)
  refine ww_iload dL_law__489 rfl ?_
  refine ww_if_neN (tgt := 506) dL_law__491 (by decide) (by omega) (fun _ => ?_) (fun k0 => ?_)
  · refine ww_goto (tgt := 2553) dL_law__506 (by decide) ?_
    exact ww_fg (lv2 := [.ref (1000000 + 300), .ref 0, .ref 46, .ref 72, .int (nI (7 * i)), UU, UU]) ⟨Or.inr rfl, Or.inr rfl, Or.inr rfl, Or.inr rfl, Or.inr rfl, Or.inl rfl, Or.inl rfl, trivial⟩ (kk h2 g2)
  · refine ww_aload_n dL_law__494 rfl rfl ?_
    refine ww_iconst (v := nI 0) dL_law__495 (by decide) ?_
    refine ww_laldN dL_law__496 k2 (by decide) (by decide) ?_
    refine ww_iload dL_law__497 rfl ?_
    refine ww_i2l dL_law__499 ?_
    refine ww_lcmp dL_law__500 ?_
    refine ww_if_eq (tgt := 506) dL_law__501 (by decide) (fun _ => ?_) (fun q => absurd (by rw [e2 k0]; exact lg_cmp_self _) q)
    refine ww_goto (tgt := 2553) dL_law__506 (by decide) ?_
    exact ww_fg (lv2 := [.ref (1000000 + 300), .ref 0, .ref 46, .ref 72, .int (nI (7 * i)), UU, UU]) ⟨Or.inr rfl, Or.inr rfl, Or.inr rfl, Or.inr rfl, Or.inr rfl, Or.inl rfl, Or.inl rfl, trivial⟩ (kk h2 g2)
set_option maxHeartbeats 4000000 in
theorem s_5 {l : Launch} {Z : EE} (hst : l.stackTraces = false) {nm : String} {i : Nat} (hi : 7 * i + 7 ≤ Z.2.2 301) (hL : Z.2.2 301 ≤ 3584) {G : PH → Prop} {h : PH} (h0 : hp_K h 0 = (10, 19)) {d mc ms D bc bs : Nat} (hD : d + 1 ≤ D) {Post : Res → PH → Prop} (hW : StD l Z m_X10_fault m_X11_fault d mc ms [] G h)
    (kk : ∀ h2, G h2 → WW l Z (mLaw nm) D bc bs 2553 [.ref (1000000 + 300), .ref 0, .ref 46, .ref 72, .int (nI (7 * i)), UU, UU] [] h2 Post) : WW l Z (mLaw nm) D (bc + mc) (bs + ms) 509 [.ref (1000000 + 300), .ref 0, .ref 46, .ref 72, .int (nI (7 * i)), UU, UU] [] h Post := by
  obtain ⟨v, Q1, d1, mc1, ms1, ⟨hd1, hm1, hs1⟩, c1, c2⟩ := hW
  refine ww_aload_n dL_law__509 rfl rfl ?_
  refine ww_cVq (M := mLaw nm) (pc := 510) (As := []) (st := []) (d := D) (bc := bc) (bs := bs) (bc0 := bc + mc) (bs0 := bs + ms) c1 vv_X10_fault dL_law__510 wg_334 h0 rfl rfl rfl rfl (by omega) (Nat.le_of_ble_eq_true rfl) (by omega) (by omega) (fun h1 q1 => ?_)
  obtain ⟨m1, d2, hd2, c3⟩ := c2 h1 q1
  refine ww_aload_n dL_law__513 rfl rfl ?_
  refine ww_cVq (M := mLaw nm) (pc := 514) (As := []) (st := [.int v]) (d := D) (bc := bc) (bs := bs) (bc0 := bc) (bs0 := bs) c3 vv_X11_fault dL_law__514 wg_1405 m1 rfl rfl rfl rfl (by omega) (Nat.le_of_ble_eq_true rfl) (Nat.le_refl _) (Nat.le_refl _) (fun h2 q2 => ?_)
  refine ww_icmp_eq (tgt := 2553) dL_law__517 (by decide) (fun _ => kk h2 q2) (fun q => absurd rfl q)
set_option maxHeartbeats 4000000 in
theorem s_6 {l : Launch} {Z : EE} (hst : l.stackTraces = false) {nm : String} {i : Nat} (hi : 7 * i + 7 ≤ Z.2.2 301) (hL : Z.2.2 301 ≤ 3584) {G : PH → Prop} {h : PH} (h0 : hp_K h 0 = (10, 19)) {d mc ms D bc bs : Nat} (hD : d + 1 ≤ D) {Post : Res → PH → Prop} (hW : StD l Z m_X10_undo m_X11_undo d mc ms [] G h)
    (kk : ∀ h2, G h2 → WW l Z (mLaw nm) D bc bs 2553 [.ref (1000000 + 300), .ref 0, .ref 46, .ref 72, .int (nI (7 * i)), UU, UU] [] h2 Post) : WW l Z (mLaw nm) D (bc + mc) (bs + ms) 522 [.ref (1000000 + 300), .ref 0, .ref 46, .ref 72, .int (nI (7 * i)), UU, UU] [] h Post := by
  obtain ⟨v, Q1, d1, mc1, ms1, ⟨hd1, hm1, hs1⟩, c1, c2⟩ := hW
  refine ww_aload_n dL_law__522 rfl rfl ?_
  refine ww_cVq (M := mLaw nm) (pc := 523) (As := []) (st := []) (d := D) (bc := bc) (bs := bs) (bc0 := bc + mc) (bs0 := bs + ms) c1 vv_X10_undo dL_law__523 wg_338 h0 rfl rfl rfl rfl (by omega) (Nat.le_of_ble_eq_true rfl) (by omega) (by omega) (fun h1 q1 => ?_)
  obtain ⟨m1, d2, hd2, c3⟩ := c2 h1 q1
  refine ww_aload_n dL_law__526 rfl rfl ?_
  refine ww_cVq (M := mLaw nm) (pc := 527) (As := []) (st := [.int v]) (d := D) (bc := bc) (bs := bs) (bc0 := bc) (bs0 := bs) c3 vv_X11_undo dL_law__527 wg_1593 m1 rfl rfl rfl rfl (by omega) (Nat.le_of_ble_eq_true rfl) (Nat.le_refl _) (Nat.le_refl _) (fun h2 q2 => ?_)
  refine ww_icmp_eq (tgt := 2553) dL_law__530 (by decide) (fun _ => kk h2 q2) (fun q => absurd rfl q)
set_option maxHeartbeats 4000000 in
theorem s_7 {l : Launch} {Z : EE} (hst : l.stackTraces = false) {nm : String} {i : Nat} (hi : 7 * i + 7 ≤ Z.2.2 301) (hL : Z.2.2 301 ≤ 3584) {G : PH → Prop} {h : PH} (h0 : hp_K h 0 = (10, 19)) {d mc ms D bc bs : Nat} (hD : d + 1 ≤ D) {Post : Res → PH → Prop} (hW : StW l Z m_L_told m_X11_told d mc ms [.int (scI Z (7 * i + 1))] G h)
    (kk : ∀ h2, G h2 → WW l Z (mLaw nm) D bc bs 2553 [.ref (1000000 + 300), .ref 0, .ref 46, .ref 72, .int (nI (7 * i)), UU, UU] [] h2 Post) : WW l Z (mLaw nm) D (bc + mc) (bs + ms) 535 [.ref (1000000 + 300), .ref 0, .ref 46, .ref 72, .int (nI (7 * i)), UU, UU] [] h Post := by
  obtain ⟨k, Q1, d1, mc1, ms1, ⟨hk, hd1, hm1, hs1⟩, c1, c2⟩ := hW
  refine ww_aload_n dL_law__535 rfl rfl ?_
  refine ww_aload_n dL_law__536 rfl rfl ?_
  refine ww_iload dL_law__537 rfl ?_
  refine ww_iconst (v := nI 1) dL_law__539 (by decide) ?_
  refine ww_iaddN dL_law__540 ?_
  refine ww_sald dL_law__541 (by omega) (by omega) (by omega) ?_
  refine ww_aload_n dL_law__542 rfl rfl ?_
  refine ww_cSXq (M := mLaw nm) (pc := 543) (As := (.ref 0) :: ([.int (scI Z (7 * i + 1))] ++ [.ref 72])) (st := []) (d := D) (bc := bc) (bs := bs) (bc0 := bc + mc) (bs0 := bs + ms) c1 vx_L_told dL_law__543 wg_771 rfl rfl (by omega) (Nat.le_of_ble_eq_true rfl) (by omega) (by omega) (fun h1 q1 => ?_)
  obtain ⟨m1, v, d2, hd2, c3⟩ := c2 h1 q1
  refine ww_sti (lv2 := [.ref (1000000 + 300), .ref 0, .ref 46, .ref 72, .int (nI (7 * i)), .int (nI k), UU]) dL_law__546 rfl (Nat.le_of_ble_eq_true rfl) rfl ?_
  refine ww_aload_n dL_law__548 rfl rfl ?_
  refine ww_aload_n dL_law__549 rfl rfl ?_
  refine ww_iload dL_law__550 rfl ?_
  refine ww_iconst (v := nI 1) dL_law__552 (by decide) ?_
  refine ww_iaddN dL_law__553 ?_
  refine ww_sald dL_law__554 (by omega) (by omega) (by omega) ?_
  refine ww_cVq (M := mLaw nm) (pc := 555) (As := [.int (scI Z (7 * i + 1))]) (st := []) (d := D) (bc := bc) (bs := bs) (bc0 := bc) (bs0 := bs) c3 vv_X11_told dL_law__555 wg_1597 m1 rfl rfl rfl rfl (by omega) (Nat.le_of_ble_eq_true rfl) (Nat.le_refl _) (Nat.le_refl _) (fun h2 q2 => ?_)
  obtain ⟨g2, m2, t2, k2, e2⟩ := q2
  refine ww_sti (lv2 := [.ref (1000000 + 300), .ref 0, .ref 46, .ref 72, .int (nI (7 * i)), .int (nI k), .int v]) dL_law__558 rfl (Nat.le_of_ble_eq_true rfl) rfl ?_
  refine ww_aload_n dL_law__560 rfl rfl ?_
  refine ww_cVr (M := mLaw nm) (pc := 561) (As := []) (st := []) (d := D) (bc := bc) (bs := bs) (bc0 := bc) (bs0 := bs) (c_M_thrown hst m2 _ t2) vv_X11_thrown dL_law__561 wg_1222 m2.K0 rfl rfl rfl rfl (by omega) (Nat.le_of_ble_eq_true rfl) (Nat.le_refl _) (Nat.le_refl _) ?_
  refine ww_iload dL_law__564 rfl ?_
  refine ww_icmp_eq (tgt := 571) dL_law__566 (by decide) (fun _ => ?_) (fun q => absurd rfl q)
  refine ww_iload dL_law__571 rfl ?_
  refine ww_if_neN (tgt := 588) dL_law__573 (by decide) (by omega) (fun _ => ?_) (fun k0 => ?_)
  · refine ww_goto (tgt := 2553) dL_law__588 (by decide) ?_
    exact ww_fg (lv2 := [.ref (1000000 + 300), .ref 0, .ref 46, .ref 72, .int (nI (7 * i)), UU, UU]) ⟨Or.inr rfl, Or.inr rfl, Or.inr rfl, Or.inr rfl, Or.inr rfl, Or.inl rfl, Or.inl rfl, trivial⟩ (kk h2 g2)
  · refine ww_aload_n dL_law__576 rfl rfl ?_
    refine ww_iconst (v := nI 0) dL_law__577 (by decide) ?_
    refine ww_laldN dL_law__578 k2 (by decide) (by decide) ?_
    refine ww_iload dL_law__579 rfl ?_
    refine ww_i2l dL_law__581 ?_
    refine ww_lcmp dL_law__582 ?_
    refine ww_if_eq (tgt := 588) dL_law__583 (by decide) (fun _ => ?_) (fun q => absurd (by rw [e2 k0]; exact lg_cmp_self _) q)
    refine ww_goto (tgt := 2553) dL_law__588 (by decide) ?_
    exact ww_fg (lv2 := [.ref (1000000 + 300), .ref 0, .ref 46, .ref 72, .int (nI (7 * i)), UU, UU]) ⟨Or.inr rfl, Or.inr rfl, Or.inr rfl, Or.inr rfl, Or.inr rfl, Or.inl rfl, Or.inl rfl, trivial⟩ (kk h2 g2)
set_option maxHeartbeats 4000000 in
theorem s_8 {l : Launch} {Z : EE} (hst : l.stackTraces = false) {nm : String} {i : Nat} (hi : 7 * i + 7 ≤ Z.2.2 301) (hL : Z.2.2 301 ≤ 3584) {G : PH → Prop} {h : PH} (h0 : hp_K h 0 = (10, 19)) {d mc ms D bc bs : Nat} (hD : d + 1 ≤ D) {Post : Res → PH → Prop} (hW : StW l Z m_L_person m_X11_person d mc ms [.int (scI Z (7 * i + 1)), .int (scI Z (7 * i + 2))] G h)
    (kk : ∀ h2, G h2 → WW l Z (mLaw nm) D bc bs 2553 [.ref (1000000 + 300), .ref 0, .ref 46, .ref 72, .int (nI (7 * i)), UU, UU] [] h2 Post) : WW l Z (mLaw nm) D (bc + mc) (bs + ms) 591 [.ref (1000000 + 300), .ref 0, .ref 46, .ref 72, .int (nI (7 * i)), UU, UU] [] h Post := by
  obtain ⟨k, Q1, d1, mc1, ms1, ⟨hk, hd1, hm1, hs1⟩, c1, c2⟩ := hW
  refine ww_aload_n dL_law__591 rfl rfl ?_
  refine ww_aload_n dL_law__592 rfl rfl ?_
  refine ww_iload dL_law__593 rfl ?_
  refine ww_iconst (v := nI 1) dL_law__595 (by decide) ?_
  refine ww_iaddN dL_law__596 ?_
  refine ww_sald dL_law__597 (by omega) (by omega) (by omega) ?_
  refine ww_aload_n dL_law__598 rfl rfl ?_
  refine ww_iload dL_law__599 rfl ?_
  refine ww_iconst (v := nI 2) dL_law__601 (by decide) ?_
  refine ww_iaddN dL_law__602 ?_
  refine ww_sald dL_law__603 (by omega) (by omega) (by omega) ?_
  refine ww_aload_n dL_law__604 rfl rfl ?_
  refine ww_cSXq (M := mLaw nm) (pc := 605) (As := (.ref 0) :: ([.int (scI Z (7 * i + 1)), .int (scI Z (7 * i + 2))] ++ [.ref 72])) (st := []) (d := D) (bc := bc) (bs := bs) (bc0 := bc + mc) (bs0 := bs + ms) c1 vx_L_person dL_law__605 wg_795 rfl rfl (by omega) (Nat.le_of_ble_eq_true rfl) (by omega) (by omega) (fun h1 q1 => ?_)
  obtain ⟨m1, v, d2, hd2, c3⟩ := c2 h1 q1
  refine ww_sti (lv2 := [.ref (1000000 + 300), .ref 0, .ref 46, .ref 72, .int (nI (7 * i)), .int (nI k), UU]) dL_law__608 rfl (Nat.le_of_ble_eq_true rfl) rfl ?_
  refine ww_aload_n dL_law__610 rfl rfl ?_
  refine ww_aload_n dL_law__611 rfl rfl ?_
  refine ww_iload dL_law__612 rfl ?_
  refine ww_iconst (v := nI 1) dL_law__614 (by decide) ?_
  refine ww_iaddN dL_law__615 ?_
  refine ww_sald dL_law__616 (by omega) (by omega) (by omega) ?_
  refine ww_aload_n dL_law__617 rfl rfl ?_
  refine ww_iload dL_law__618 rfl ?_
  refine ww_iconst (v := nI 2) dL_law__620 (by decide) ?_
  refine ww_iaddN dL_law__621 ?_
  refine ww_sald dL_law__622 (by omega) (by omega) (by omega) ?_
  refine ww_cVq (M := mLaw nm) (pc := 623) (As := [.int (scI Z (7 * i + 1)), .int (scI Z (7 * i + 2))]) (st := []) (d := D) (bc := bc) (bs := bs) (bc0 := bc) (bs0 := bs) c3 vv_X11_person dL_law__623 wg_1608 m1 rfl rfl rfl rfl (by omega) (Nat.le_of_ble_eq_true rfl) (Nat.le_refl _) (Nat.le_refl _) (fun h2 q2 => ?_)
  obtain ⟨g2, m2, t2, k2, e2⟩ := q2
  refine ww_sti (lv2 := [.ref (1000000 + 300), .ref 0, .ref 46, .ref 72, .int (nI (7 * i)), .int (nI k), .int v]) dL_law__626 rfl (Nat.le_of_ble_eq_true rfl) rfl ?_
  refine ww_aload_n dL_law__628 rfl rfl ?_
  refine ww_cVr (M := mLaw nm) (pc := 629) (As := []) (st := []) (d := D) (bc := bc) (bs := bs) (bc0 := bc) (bs0 := bs) (c_M_thrown hst m2 _ t2) vv_X11_thrown dL_law__629 wg_1222 m2.K0 rfl rfl rfl rfl (by omega) (Nat.le_of_ble_eq_true rfl) (Nat.le_refl _) (Nat.le_refl _) ?_
  refine ww_iload dL_law__632 rfl ?_
  refine ww_icmp_eq (tgt := 639) dL_law__634 (by decide) (fun _ => ?_) (fun q => absurd rfl q)
  refine ww_iload dL_law__639 rfl ?_
  refine ww_if_neN (tgt := 656) dL_law__641 (by decide) (by omega) (fun _ => ?_) (fun k0 => ?_)
  · refine ww_goto (tgt := 2553) dL_law__656 (by decide) ?_
    exact ww_fg (lv2 := [.ref (1000000 + 300), .ref 0, .ref 46, .ref 72, .int (nI (7 * i)), UU, UU]) ⟨Or.inr rfl, Or.inr rfl, Or.inr rfl, Or.inr rfl, Or.inr rfl, Or.inl rfl, Or.inl rfl, trivial⟩ (kk h2 g2)
  · refine ww_aload_n dL_law__644 rfl rfl ?_
    refine ww_iconst (v := nI 0) dL_law__645 (by decide) ?_
    refine ww_laldN dL_law__646 k2 (by decide) (by decide) ?_
    refine ww_iload dL_law__647 rfl ?_
    refine ww_i2l dL_law__649 ?_
    refine ww_lcmp dL_law__650 ?_
    refine ww_if_eq (tgt := 656) dL_law__651 (by decide) (fun _ => ?_) (fun q => absurd (by rw [e2 k0]; exact lg_cmp_self _) q)
    refine ww_goto (tgt := 2553) dL_law__656 (by decide) ?_
    exact ww_fg (lv2 := [.ref (1000000 + 300), .ref 0, .ref 46, .ref 72, .int (nI (7 * i)), UU, UU]) ⟨Or.inr rfl, Or.inr rfl, Or.inr rfl, Or.inr rfl, Or.inr rfl, Or.inl rfl, Or.inl rfl, trivial⟩ (kk h2 g2)
set_option maxHeartbeats 4000000 in
theorem s_9 {l : Launch} {Z : EE} (hst : l.stackTraces = false) {nm : String} {i : Nat} (hi : 7 * i + 7 ≤ Z.2.2 301) (hL : Z.2.2 301 ≤ 3584) {G : PH → Prop} {h : PH} (h0 : hp_K h 0 = (10, 19)) {d mc ms D bc bs : Nat} (hD : d + 1 ≤ D) {Post : Res → PH → Prop} (hW : StW l Z m_L_number m_X11_number d mc ms [.int (scI Z (7 * i + 1)), .int (scI Z (7 * i + 2))] G h)
    (kk : ∀ h2, G h2 → WW l Z (mLaw nm) D bc bs 2553 [.ref (1000000 + 300), .ref 0, .ref 46, .ref 72, .int (nI (7 * i)), UU, UU] [] h2 Post) : WW l Z (mLaw nm) D (bc + mc) (bs + ms) 659 [.ref (1000000 + 300), .ref 0, .ref 46, .ref 72, .int (nI (7 * i)), UU, UU] [] h Post := by
  obtain ⟨k, Q1, d1, mc1, ms1, ⟨hk, hd1, hm1, hs1⟩, c1, c2⟩ := hW
  refine ww_aload_n dL_law__659 rfl rfl ?_
  refine ww_aload_n dL_law__660 rfl rfl ?_
  refine ww_iload dL_law__661 rfl ?_
  refine ww_iconst (v := nI 1) dL_law__663 (by decide) ?_
  refine ww_iaddN dL_law__664 ?_
  refine ww_sald dL_law__665 (by omega) (by omega) (by omega) ?_
  refine ww_aload_n dL_law__666 rfl rfl ?_
  refine ww_iload dL_law__667 rfl ?_
  refine ww_iconst (v := nI 2) dL_law__669 (by decide) ?_
  refine ww_iaddN dL_law__670 ?_
  refine ww_sald dL_law__671 (by omega) (by omega) (by omega) ?_
  refine ww_aload_n dL_law__672 rfl rfl ?_
  refine ww_cSXq (M := mLaw nm) (pc := 673) (As := (.ref 0) :: ([.int (scI Z (7 * i + 1)), .int (scI Z (7 * i + 2))] ++ [.ref 72])) (st := []) (d := D) (bc := bc) (bs := bs) (bc0 := bc + mc) (bs0 := bs + ms) c1 vx_L_number dL_law__673 wg_840 rfl rfl (by omega) (Nat.le_of_ble_eq_true rfl) (by omega) (by omega) (fun h1 q1 => ?_)
  obtain ⟨m1, v, d2, hd2, c3⟩ := c2 h1 q1
  refine ww_sti (lv2 := [.ref (1000000 + 300), .ref 0, .ref 46, .ref 72, .int (nI (7 * i)), .int (nI k), UU]) dL_law__676 rfl (Nat.le_of_ble_eq_true rfl) rfl ?_
  refine ww_aload_n dL_law__678 rfl rfl ?_
  refine ww_aload_n dL_law__679 rfl rfl ?_
  refine ww_iload dL_law__680 rfl ?_
  refine ww_iconst (v := nI 1) dL_law__682 (by decide) ?_
  refine ww_iaddN dL_law__683 ?_
  refine ww_sald dL_law__684 (by omega) (by omega) (by omega) ?_
  refine ww_aload_n dL_law__685 rfl rfl ?_
  refine ww_iload dL_law__686 rfl ?_
  refine ww_iconst (v := nI 2) dL_law__688 (by decide) ?_
  refine ww_iaddN dL_law__689 ?_
  refine ww_sald dL_law__690 (by omega) (by omega) (by omega) ?_
  refine ww_cVq (M := mLaw nm) (pc := 691) (As := [.int (scI Z (7 * i + 1)), .int (scI Z (7 * i + 2))]) (st := []) (d := D) (bc := bc) (bs := bs) (bc0 := bc) (bs0 := bs) c3 vv_X11_number dL_law__691 wg_1616 m1 rfl rfl rfl rfl (by omega) (Nat.le_of_ble_eq_true rfl) (Nat.le_refl _) (Nat.le_refl _) (fun h2 q2 => ?_)
  obtain ⟨g2, m2, t2, k2, e2⟩ := q2
  refine ww_sti (lv2 := [.ref (1000000 + 300), .ref 0, .ref 46, .ref 72, .int (nI (7 * i)), .int (nI k), .int v]) dL_law__694 rfl (Nat.le_of_ble_eq_true rfl) rfl ?_
  refine ww_aload_n dL_law__696 rfl rfl ?_
  refine ww_cVr (M := mLaw nm) (pc := 697) (As := []) (st := []) (d := D) (bc := bc) (bs := bs) (bc0 := bc) (bs0 := bs) (c_M_thrown hst m2 _ t2) vv_X11_thrown dL_law__697 wg_1222 m2.K0 rfl rfl rfl rfl (by omega) (Nat.le_of_ble_eq_true rfl) (Nat.le_refl _) (Nat.le_refl _) ?_
  refine ww_iload dL_law__700 rfl ?_
  refine ww_icmp_eq (tgt := 707) dL_law__702 (by decide) (fun _ => ?_) (fun q => absurd rfl q)
  refine ww_iload dL_law__707 rfl ?_
  refine ww_if_neN (tgt := 724) dL_law__709 (by decide) (by omega) (fun _ => ?_) (fun k0 => ?_)
  · refine ww_goto (tgt := 2553) dL_law__724 (by decide) ?_
    exact ww_fg (lv2 := [.ref (1000000 + 300), .ref 0, .ref 46, .ref 72, .int (nI (7 * i)), UU, UU]) ⟨Or.inr rfl, Or.inr rfl, Or.inr rfl, Or.inr rfl, Or.inr rfl, Or.inl rfl, Or.inl rfl, trivial⟩ (kk h2 g2)
  · refine ww_aload_n dL_law__712 rfl rfl ?_
    refine ww_iconst (v := nI 0) dL_law__713 (by decide) ?_
    refine ww_laldN dL_law__714 k2 (by decide) (by decide) ?_
    refine ww_iload dL_law__715 rfl ?_
    refine ww_i2l dL_law__717 ?_
    refine ww_lcmp dL_law__718 ?_
    refine ww_if_eq (tgt := 724) dL_law__719 (by decide) (fun _ => ?_) (fun q => absurd (by rw [e2 k0]; exact lg_cmp_self _) q)
    refine ww_goto (tgt := 2553) dL_law__724 (by decide) ?_
    exact ww_fg (lv2 := [.ref (1000000 + 300), .ref 0, .ref 46, .ref 72, .int (nI (7 * i)), UU, UU]) ⟨Or.inr rfl, Or.inr rfl, Or.inr rfl, Or.inr rfl, Or.inr rfl, Or.inl rfl, Or.inl rfl, trivial⟩ (kk h2 g2)
set_option maxHeartbeats 4000000 in
theorem s_10 {l : Launch} {Z : EE} (hst : l.stackTraces = false) {nm : String} {i : Nat} (hi : 7 * i + 7 ≤ Z.2.2 301) (hL : Z.2.2 301 ≤ 3584) {G : PH → Prop} {h : PH} (h0 : hp_K h 0 = (10, 19)) {d mc ms D bc bs : Nat} (hD : d + 1 ≤ D) {Post : Res → PH → Prop} (hW : StW l Z m_L_fare m_X11_fare d mc ms [.int (scI Z (7 * i + 1)), .int (scI Z (7 * i + 2))] G h)
    (kk : ∀ h2, G h2 → WW l Z (mLaw nm) D bc bs 2553 [.ref (1000000 + 300), .ref 0, .ref 46, .ref 72, .int (nI (7 * i)), UU, UU] [] h2 Post) : WW l Z (mLaw nm) D (bc + mc) (bs + ms) 727 [.ref (1000000 + 300), .ref 0, .ref 46, .ref 72, .int (nI (7 * i)), UU, UU] [] h Post := by
  obtain ⟨k, Q1, d1, mc1, ms1, ⟨hk, hd1, hm1, hs1⟩, c1, c2⟩ := hW
  refine ww_aload_n dL_law__727 rfl rfl ?_
  refine ww_aload_n dL_law__728 rfl rfl ?_
  refine ww_iload dL_law__729 rfl ?_
  refine ww_iconst (v := nI 1) dL_law__731 (by decide) ?_
  refine ww_iaddN dL_law__732 ?_
  refine ww_sald dL_law__733 (by omega) (by omega) (by omega) ?_
  refine ww_aload_n dL_law__734 rfl rfl ?_
  refine ww_iload dL_law__735 rfl ?_
  refine ww_iconst (v := nI 2) dL_law__737 (by decide) ?_
  refine ww_iaddN dL_law__738 ?_
  refine ww_sald dL_law__739 (by omega) (by omega) (by omega) ?_
  refine ww_aload_n dL_law__740 rfl rfl ?_
  refine ww_cSXq (M := mLaw nm) (pc := 741) (As := (.ref 0) :: ([.int (scI Z (7 * i + 1)), .int (scI Z (7 * i + 2))] ++ [.ref 72])) (st := []) (d := D) (bc := bc) (bs := bs) (bc0 := bc + mc) (bs0 := bs + ms) c1 vx_L_fare dL_law__741 wg_859 rfl rfl (by omega) (Nat.le_of_ble_eq_true rfl) (by omega) (by omega) (fun h1 q1 => ?_)
  obtain ⟨m1, v, d2, hd2, c3⟩ := c2 h1 q1
  refine ww_sti (lv2 := [.ref (1000000 + 300), .ref 0, .ref 46, .ref 72, .int (nI (7 * i)), .int (nI k), UU]) dL_law__744 rfl (Nat.le_of_ble_eq_true rfl) rfl ?_
  refine ww_aload_n dL_law__746 rfl rfl ?_
  refine ww_aload_n dL_law__747 rfl rfl ?_
  refine ww_iload dL_law__748 rfl ?_
  refine ww_iconst (v := nI 1) dL_law__750 (by decide) ?_
  refine ww_iaddN dL_law__751 ?_
  refine ww_sald dL_law__752 (by omega) (by omega) (by omega) ?_
  refine ww_aload_n dL_law__753 rfl rfl ?_
  refine ww_iload dL_law__754 rfl ?_
  refine ww_iconst (v := nI 2) dL_law__756 (by decide) ?_
  refine ww_iaddN dL_law__757 ?_
  refine ww_sald dL_law__758 (by omega) (by omega) (by omega) ?_
  refine ww_cVq (M := mLaw nm) (pc := 759) (As := [.int (scI Z (7 * i + 1)), .int (scI Z (7 * i + 2))]) (st := []) (d := D) (bc := bc) (bs := bs) (bc0 := bc) (bs0 := bs) c3 vv_X11_fare dL_law__759 wg_1624 m1 rfl rfl rfl rfl (by omega) (Nat.le_of_ble_eq_true rfl) (Nat.le_refl _) (Nat.le_refl _) (fun h2 q2 => ?_)
  obtain ⟨g2, m2, t2, k2, e2⟩ := q2
  refine ww_sti (lv2 := [.ref (1000000 + 300), .ref 0, .ref 46, .ref 72, .int (nI (7 * i)), .int (nI k), .int v]) dL_law__762 rfl (Nat.le_of_ble_eq_true rfl) rfl ?_
  refine ww_aload_n dL_law__764 rfl rfl ?_
  refine ww_cVr (M := mLaw nm) (pc := 765) (As := []) (st := []) (d := D) (bc := bc) (bs := bs) (bc0 := bc) (bs0 := bs) (c_M_thrown hst m2 _ t2) vv_X11_thrown dL_law__765 wg_1222 m2.K0 rfl rfl rfl rfl (by omega) (Nat.le_of_ble_eq_true rfl) (Nat.le_refl _) (Nat.le_refl _) ?_
  refine ww_iload dL_law__768 rfl ?_
  refine ww_icmp_eq (tgt := 775) dL_law__770 (by decide) (fun _ => ?_) (fun q => absurd rfl q)
  refine ww_iload dL_law__775 rfl ?_
  refine ww_if_neN (tgt := 792) dL_law__777 (by decide) (by omega) (fun _ => ?_) (fun k0 => ?_)
  · refine ww_goto (tgt := 2553) dL_law__792 (by decide) ?_
    exact ww_fg (lv2 := [.ref (1000000 + 300), .ref 0, .ref 46, .ref 72, .int (nI (7 * i)), UU, UU]) ⟨Or.inr rfl, Or.inr rfl, Or.inr rfl, Or.inr rfl, Or.inr rfl, Or.inl rfl, Or.inl rfl, trivial⟩ (kk h2 g2)
  · refine ww_aload_n dL_law__780 rfl rfl ?_
    refine ww_iconst (v := nI 0) dL_law__781 (by decide) ?_
    refine ww_laldN dL_law__782 k2 (by decide) (by decide) ?_
    refine ww_iload dL_law__783 rfl ?_
    refine ww_i2l dL_law__785 ?_
    refine ww_lcmp dL_law__786 ?_
    refine ww_if_eq (tgt := 792) dL_law__787 (by decide) (fun _ => ?_) (fun q => absurd (by rw [e2 k0]; exact lg_cmp_self _) q)
    refine ww_goto (tgt := 2553) dL_law__792 (by decide) ?_
    exact ww_fg (lv2 := [.ref (1000000 + 300), .ref 0, .ref 46, .ref 72, .int (nI (7 * i)), UU, UU]) ⟨Or.inr rfl, Or.inr rfl, Or.inr rfl, Or.inr rfl, Or.inr rfl, Or.inl rfl, Or.inl rfl, trivial⟩ (kk h2 g2)
set_option maxHeartbeats 4000000 in
theorem s_11 {l : Launch} {Z : EE} (hst : l.stackTraces = false) {nm : String} {i : Nat} (hi : 7 * i + 7 ≤ Z.2.2 301) (hL : Z.2.2 301 ≤ 3584) {G : PH → Prop} {h : PH} (h0 : hp_K h 0 = (10, 19)) {d mc ms D bc bs : Nat} (hD : d + 1 ≤ D) {Post : Res → PH → Prop} (hW : StW l Z m_L_would m_X11_would d mc ms [.int (scI Z (7 * i + 1)), .int (scI Z (7 * i + 2)), .int (scI Z (7 * i + 3)), .int (scI Z (7 * i + 4)), .int (scI Z (7 * i + 5)), .int (scI Z (7 * i + 6))] G h)
    (kk : ∀ h2, G h2 → WW l Z (mLaw nm) D bc bs 2553 [.ref (1000000 + 300), .ref 0, .ref 46, .ref 72, .int (nI (7 * i)), UU, UU] [] h2 Post) : WW l Z (mLaw nm) D (bc + mc) (bs + ms) 795 [.ref (1000000 + 300), .ref 0, .ref 46, .ref 72, .int (nI (7 * i)), UU, UU] [] h Post := by
  obtain ⟨k, Q1, d1, mc1, ms1, ⟨hk, hd1, hm1, hs1⟩, c1, c2⟩ := hW
  refine ww_aload_n dL_law__795 rfl rfl ?_
  refine ww_aload_n dL_law__796 rfl rfl ?_
  refine ww_iload dL_law__797 rfl ?_
  refine ww_iconst (v := nI 1) dL_law__799 (by decide) ?_
  refine ww_iaddN dL_law__800 ?_
  refine ww_sald dL_law__801 (by omega) (by omega) (by omega) ?_
  refine ww_aload_n dL_law__802 rfl rfl ?_
  refine ww_iload dL_law__803 rfl ?_
  refine ww_iconst (v := nI 2) dL_law__805 (by decide) ?_
  refine ww_iaddN dL_law__806 ?_
  refine ww_sald dL_law__807 (by omega) (by omega) (by omega) ?_
  refine ww_aload_n dL_law__808 rfl rfl ?_
  refine ww_iload dL_law__809 rfl ?_
  refine ww_iconst (v := nI 3) dL_law__811 (by decide) ?_
  refine ww_iaddN dL_law__812 ?_
  refine ww_sald dL_law__813 (by omega) (by omega) (by omega) ?_
  refine ww_aload_n dL_law__814 rfl rfl ?_
  refine ww_iload dL_law__815 rfl ?_
  refine ww_iconst (v := nI 4) dL_law__817 (by decide) ?_
  refine ww_iaddN dL_law__818 ?_
  refine ww_sald dL_law__819 (by omega) (by omega) (by omega) ?_
  refine ww_aload_n dL_law__820 rfl rfl ?_
  refine ww_iload dL_law__821 rfl ?_
  refine ww_iconst (v := nI 5) dL_law__823 (by decide) ?_
  refine ww_iaddN dL_law__824 ?_
  refine ww_sald dL_law__825 (by omega) (by omega) (by omega) ?_
  refine ww_aload_n dL_law__826 rfl rfl ?_
  refine ww_iload dL_law__827 rfl ?_
  refine ww_bipush (v := nI 6) dL_law__829 (by decide) ?_
  refine ww_iaddN dL_law__831 ?_
  refine ww_sald dL_law__832 (by omega) (by omega) (by omega) ?_
  refine ww_aload_n dL_law__833 rfl rfl ?_
  refine ww_cSXq (M := mLaw nm) (pc := 834) (As := (.ref 0) :: ([.int (scI Z (7 * i + 1)), .int (scI Z (7 * i + 2)), .int (scI Z (7 * i + 3)), .int (scI Z (7 * i + 4)), .int (scI Z (7 * i + 5)), .int (scI Z (7 * i + 6))] ++ [.ref 72])) (st := []) (d := D) (bc := bc) (bs := bs) (bc0 := bc + mc) (bs0 := bs + ms) c1 vx_L_would dL_law__834 wg_867 rfl rfl (by omega) (Nat.le_of_ble_eq_true rfl) (by omega) (by omega) (fun h1 q1 => ?_)
  obtain ⟨m1, v, d2, hd2, c3⟩ := c2 h1 q1
  refine ww_sti (lv2 := [.ref (1000000 + 300), .ref 0, .ref 46, .ref 72, .int (nI (7 * i)), .int (nI k), UU]) dL_law__837 rfl (Nat.le_of_ble_eq_true rfl) rfl ?_
  refine ww_aload_n dL_law__839 rfl rfl ?_
  refine ww_aload_n dL_law__840 rfl rfl ?_
  refine ww_iload dL_law__841 rfl ?_
  refine ww_iconst (v := nI 1) dL_law__843 (by decide) ?_
  refine ww_iaddN dL_law__844 ?_
  refine ww_sald dL_law__845 (by omega) (by omega) (by omega) ?_
  refine ww_aload_n dL_law__846 rfl rfl ?_
  refine ww_iload dL_law__847 rfl ?_
  refine ww_iconst (v := nI 2) dL_law__849 (by decide) ?_
  refine ww_iaddN dL_law__850 ?_
  refine ww_sald dL_law__851 (by omega) (by omega) (by omega) ?_
  refine ww_aload_n dL_law__852 rfl rfl ?_
  refine ww_iload dL_law__853 rfl ?_
  refine ww_iconst (v := nI 3) dL_law__855 (by decide) ?_
  refine ww_iaddN dL_law__856 ?_
  refine ww_sald dL_law__857 (by omega) (by omega) (by omega) ?_
  refine ww_aload_n dL_law__858 rfl rfl ?_
  refine ww_iload dL_law__859 rfl ?_
  refine ww_iconst (v := nI 4) dL_law__861 (by decide) ?_
  refine ww_iaddN dL_law__862 ?_
  refine ww_sald dL_law__863 (by omega) (by omega) (by omega) ?_
  refine ww_aload_n dL_law__864 rfl rfl ?_
  refine ww_iload dL_law__865 rfl ?_
  refine ww_iconst (v := nI 5) dL_law__867 (by decide) ?_
  refine ww_iaddN dL_law__868 ?_
  refine ww_sald dL_law__869 (by omega) (by omega) (by omega) ?_
  refine ww_aload_n dL_law__870 rfl rfl ?_
  refine ww_iload dL_law__871 rfl ?_
  refine ww_bipush (v := nI 6) dL_law__873 (by decide) ?_
  refine ww_iaddN dL_law__875 ?_
  refine ww_sald dL_law__876 (by omega) (by omega) (by omega) ?_
  refine ww_cVq (M := mLaw nm) (pc := 877) (As := [.int (scI Z (7 * i + 1)), .int (scI Z (7 * i + 2)), .int (scI Z (7 * i + 3)), .int (scI Z (7 * i + 4)), .int (scI Z (7 * i + 5)), .int (scI Z (7 * i + 6))]) (st := []) (d := D) (bc := bc) (bs := bs) (bc0 := bc) (bs0 := bs) c3 vv_X11_would dL_law__877 wg_1628 m1 rfl rfl rfl rfl (by omega) (Nat.le_of_ble_eq_true rfl) (Nat.le_refl _) (Nat.le_refl _) (fun h2 q2 => ?_)
  obtain ⟨g2, m2, t2, k2, e2⟩ := q2
  refine ww_sti (lv2 := [.ref (1000000 + 300), .ref 0, .ref 46, .ref 72, .int (nI (7 * i)), .int (nI k), .int v]) dL_law__880 rfl (Nat.le_of_ble_eq_true rfl) rfl ?_
  refine ww_aload_n dL_law__882 rfl rfl ?_
  refine ww_cVr (M := mLaw nm) (pc := 883) (As := []) (st := []) (d := D) (bc := bc) (bs := bs) (bc0 := bc) (bs0 := bs) (c_M_thrown hst m2 _ t2) vv_X11_thrown dL_law__883 wg_1222 m2.K0 rfl rfl rfl rfl (by omega) (Nat.le_of_ble_eq_true rfl) (Nat.le_refl _) (Nat.le_refl _) ?_
  refine ww_iload dL_law__886 rfl ?_
  refine ww_icmp_eq (tgt := 893) dL_law__888 (by decide) (fun _ => ?_) (fun q => absurd rfl q)
  refine ww_iload dL_law__893 rfl ?_
  refine ww_if_neN (tgt := 910) dL_law__895 (by decide) (by omega) (fun _ => ?_) (fun k0 => ?_)
  · refine ww_goto (tgt := 2553) dL_law__910 (by decide) ?_
    exact ww_fg (lv2 := [.ref (1000000 + 300), .ref 0, .ref 46, .ref 72, .int (nI (7 * i)), UU, UU]) ⟨Or.inr rfl, Or.inr rfl, Or.inr rfl, Or.inr rfl, Or.inr rfl, Or.inl rfl, Or.inl rfl, trivial⟩ (kk h2 g2)
  · refine ww_aload_n dL_law__898 rfl rfl ?_
    refine ww_iconst (v := nI 0) dL_law__899 (by decide) ?_
    refine ww_laldN dL_law__900 k2 (by decide) (by decide) ?_
    refine ww_iload dL_law__901 rfl ?_
    refine ww_i2l dL_law__903 ?_
    refine ww_lcmp dL_law__904 ?_
    refine ww_if_eq (tgt := 910) dL_law__905 (by decide) (fun _ => ?_) (fun q => absurd (by rw [e2 k0]; exact lg_cmp_self _) q)
    refine ww_goto (tgt := 2553) dL_law__910 (by decide) ?_
    exact ww_fg (lv2 := [.ref (1000000 + 300), .ref 0, .ref 46, .ref 72, .int (nI (7 * i)), UU, UU]) ⟨Or.inr rfl, Or.inr rfl, Or.inr rfl, Or.inr rfl, Or.inr rfl, Or.inl rfl, Or.inl rfl, trivial⟩ (kk h2 g2)
set_option maxHeartbeats 4000000 in
theorem s_12 {l : Launch} {Z : EE} (hst : l.stackTraces = false) {nm : String} {i : Nat} (hi : 7 * i + 7 ≤ Z.2.2 301) (hL : Z.2.2 301 ≤ 3584) {G : PH → Prop} {h : PH} (h0 : hp_K h 0 = (10, 19)) {d mc ms D bc bs : Nat} (hD : d + 1 ≤ D) {Post : Res → PH → Prop} (hW : StW l Z m_L_cost m_X11_cost d mc ms [.int (scI Z (7 * i + 1))] G h)
    (kk : ∀ h2, G h2 → WW l Z (mLaw nm) D bc bs 2553 [.ref (1000000 + 300), .ref 0, .ref 46, .ref 72, .int (nI (7 * i)), UU, UU] [] h2 Post) : WW l Z (mLaw nm) D (bc + mc) (bs + ms) 913 [.ref (1000000 + 300), .ref 0, .ref 46, .ref 72, .int (nI (7 * i)), UU, UU] [] h Post := by
  obtain ⟨k, Q1, d1, mc1, ms1, ⟨hk, hd1, hm1, hs1⟩, c1, c2⟩ := hW
  refine ww_aload_n dL_law__913 rfl rfl ?_
  refine ww_aload_n dL_law__914 rfl rfl ?_
  refine ww_iload dL_law__915 rfl ?_
  refine ww_iconst (v := nI 1) dL_law__917 (by decide) ?_
  refine ww_iaddN dL_law__918 ?_
  refine ww_sald dL_law__919 (by omega) (by omega) (by omega) ?_
  refine ww_aload_n dL_law__920 rfl rfl ?_
  refine ww_cSXq (M := mLaw nm) (pc := 921) (As := (.ref 0) :: ([.int (scI Z (7 * i + 1))] ++ [.ref 72])) (st := []) (d := D) (bc := bc) (bs := bs) (bc0 := bc + mc) (bs0 := bs + ms) c1 vx_L_cost dL_law__921 wg_875 rfl rfl (by omega) (Nat.le_of_ble_eq_true rfl) (by omega) (by omega) (fun h1 q1 => ?_)
  obtain ⟨m1, v, d2, hd2, c3⟩ := c2 h1 q1
  refine ww_sti (lv2 := [.ref (1000000 + 300), .ref 0, .ref 46, .ref 72, .int (nI (7 * i)), .int (nI k), UU]) dL_law__924 rfl (Nat.le_of_ble_eq_true rfl) rfl ?_
  refine ww_aload_n dL_law__926 rfl rfl ?_
  refine ww_aload_n dL_law__927 rfl rfl ?_
  refine ww_iload dL_law__928 rfl ?_
  refine ww_iconst (v := nI 1) dL_law__930 (by decide) ?_
  refine ww_iaddN dL_law__931 ?_
  refine ww_sald dL_law__932 (by omega) (by omega) (by omega) ?_
  refine ww_cVq (M := mLaw nm) (pc := 933) (As := [.int (scI Z (7 * i + 1))]) (st := []) (d := D) (bc := bc) (bs := bs) (bc0 := bc) (bs0 := bs) c3 vv_X11_cost dL_law__933 wg_1632 m1 rfl rfl rfl rfl (by omega) (Nat.le_of_ble_eq_true rfl) (Nat.le_refl _) (Nat.le_refl _) (fun h2 q2 => ?_)
  obtain ⟨g2, m2, t2, k2, e2⟩ := q2
  refine ww_sti (lv2 := [.ref (1000000 + 300), .ref 0, .ref 46, .ref 72, .int (nI (7 * i)), .int (nI k), .int v]) dL_law__936 rfl (Nat.le_of_ble_eq_true rfl) rfl ?_
  refine ww_aload_n dL_law__938 rfl rfl ?_
  refine ww_cVr (M := mLaw nm) (pc := 939) (As := []) (st := []) (d := D) (bc := bc) (bs := bs) (bc0 := bc) (bs0 := bs) (c_M_thrown hst m2 _ t2) vv_X11_thrown dL_law__939 wg_1222 m2.K0 rfl rfl rfl rfl (by omega) (Nat.le_of_ble_eq_true rfl) (Nat.le_refl _) (Nat.le_refl _) ?_
  refine ww_iload dL_law__942 rfl ?_
  refine ww_icmp_eq (tgt := 949) dL_law__944 (by decide) (fun _ => ?_) (fun q => absurd rfl q)
  refine ww_iload dL_law__949 rfl ?_
  refine ww_if_neN (tgt := 966) dL_law__951 (by decide) (by omega) (fun _ => ?_) (fun k0 => ?_)
  · refine ww_goto (tgt := 2553) dL_law__966 (by decide) ?_
    exact ww_fg (lv2 := [.ref (1000000 + 300), .ref 0, .ref 46, .ref 72, .int (nI (7 * i)), UU, UU]) ⟨Or.inr rfl, Or.inr rfl, Or.inr rfl, Or.inr rfl, Or.inr rfl, Or.inl rfl, Or.inl rfl, trivial⟩ (kk h2 g2)
  · refine ww_aload_n dL_law__954 rfl rfl ?_
    refine ww_iconst (v := nI 0) dL_law__955 (by decide) ?_
    refine ww_laldN dL_law__956 k2 (by decide) (by decide) ?_
    refine ww_iload dL_law__957 rfl ?_
    refine ww_i2l dL_law__959 ?_
    refine ww_lcmp dL_law__960 ?_
    refine ww_if_eq (tgt := 966) dL_law__961 (by decide) (fun _ => ?_) (fun q => absurd (by rw [e2 k0]; exact lg_cmp_self _) q)
    refine ww_goto (tgt := 2553) dL_law__966 (by decide) ?_
    exact ww_fg (lv2 := [.ref (1000000 + 300), .ref 0, .ref 46, .ref 72, .int (nI (7 * i)), UU, UU]) ⟨Or.inr rfl, Or.inr rfl, Or.inr rfl, Or.inr rfl, Or.inr rfl, Or.inl rfl, Or.inl rfl, trivial⟩ (kk h2 g2)
set_option maxHeartbeats 4000000 in
theorem s_13 {l : Launch} {Z : EE} (hst : l.stackTraces = false) {nm : String} {i : Nat} (hi : 7 * i + 7 ≤ Z.2.2 301) (hL : Z.2.2 301 ≤ 3584) {G : PH → Prop} {h : PH} (h0 : hp_K h 0 = (10, 19)) {d mc ms D bc bs : Nat} (hD : d + 1 ≤ D) {Post : Res → PH → Prop} (hW : StW l Z m_L_saying m_X11_saying d mc ms [.int (scI Z (7 * i + 1)), .int (scI Z (7 * i + 2))] G h)
    (kk : ∀ h2, G h2 → WW l Z (mLaw nm) D bc bs 2553 [.ref (1000000 + 300), .ref 0, .ref 46, .ref 72, .int (nI (7 * i)), UU, UU] [] h2 Post) : WW l Z (mLaw nm) D (bc + mc) (bs + ms) 969 [.ref (1000000 + 300), .ref 0, .ref 46, .ref 72, .int (nI (7 * i)), UU, UU] [] h Post := by
  obtain ⟨k, Q1, d1, mc1, ms1, ⟨hk, hd1, hm1, hs1⟩, c1, c2⟩ := hW
  refine ww_aload_n dL_law__969 rfl rfl ?_
  refine ww_aload_n dL_law__970 rfl rfl ?_
  refine ww_iload dL_law__971 rfl ?_
  refine ww_iconst (v := nI 1) dL_law__973 (by decide) ?_
  refine ww_iaddN dL_law__974 ?_
  refine ww_sald dL_law__975 (by omega) (by omega) (by omega) ?_
  refine ww_aload_n dL_law__976 rfl rfl ?_
  refine ww_iload dL_law__977 rfl ?_
  refine ww_iconst (v := nI 2) dL_law__979 (by decide) ?_
  refine ww_iaddN dL_law__980 ?_
  refine ww_sald dL_law__981 (by omega) (by omega) (by omega) ?_
  refine ww_aload_n dL_law__982 rfl rfl ?_
  refine ww_cSXq (M := mLaw nm) (pc := 983) (As := (.ref 0) :: ([.int (scI Z (7 * i + 1)), .int (scI Z (7 * i + 2))] ++ [.ref 72])) (st := []) (d := D) (bc := bc) (bs := bs) (bc0 := bc + mc) (bs0 := bs + ms) c1 vx_L_saying dL_law__983 wg_915 rfl rfl (by omega) (Nat.le_of_ble_eq_true rfl) (by omega) (by omega) (fun h1 q1 => ?_)
  obtain ⟨m1, v, d2, hd2, c3⟩ := c2 h1 q1
  refine ww_sti (lv2 := [.ref (1000000 + 300), .ref 0, .ref 46, .ref 72, .int (nI (7 * i)), .int (nI k), UU]) dL_law__986 rfl (Nat.le_of_ble_eq_true rfl) rfl ?_
  refine ww_aload_n dL_law__988 rfl rfl ?_
  refine ww_aload_n dL_law__989 rfl rfl ?_
  refine ww_iload dL_law__990 rfl ?_
  refine ww_iconst (v := nI 1) dL_law__992 (by decide) ?_
  refine ww_iaddN dL_law__993 ?_
  refine ww_sald dL_law__994 (by omega) (by omega) (by omega) ?_
  refine ww_aload_n dL_law__995 rfl rfl ?_
  refine ww_iload dL_law__996 rfl ?_
  refine ww_iconst (v := nI 2) dL_law__998 (by decide) ?_
  refine ww_iaddN dL_law__999 ?_
  refine ww_sald dL_law__1000 (by omega) (by omega) (by omega) ?_
  refine ww_cVq (M := mLaw nm) (pc := 1001) (As := [.int (scI Z (7 * i + 1)), .int (scI Z (7 * i + 2))]) (st := []) (d := D) (bc := bc) (bs := bs) (bc0 := bc) (bs0 := bs) c3 vv_X11_saying dL_law__1001 wg_1648 m1 rfl rfl rfl rfl (by omega) (Nat.le_of_ble_eq_true rfl) (Nat.le_refl _) (Nat.le_refl _) (fun h2 q2 => ?_)
  obtain ⟨g2, m2, t2, k2, e2⟩ := q2
  refine ww_sti (lv2 := [.ref (1000000 + 300), .ref 0, .ref 46, .ref 72, .int (nI (7 * i)), .int (nI k), .int v]) dL_law__1004 rfl (Nat.le_of_ble_eq_true rfl) rfl ?_
  refine ww_aload_n dL_law__1006 rfl rfl ?_
  refine ww_cVr (M := mLaw nm) (pc := 1007) (As := []) (st := []) (d := D) (bc := bc) (bs := bs) (bc0 := bc) (bs0 := bs) (c_M_thrown hst m2 _ t2) vv_X11_thrown dL_law__1007 wg_1222 m2.K0 rfl rfl rfl rfl (by omega) (Nat.le_of_ble_eq_true rfl) (Nat.le_refl _) (Nat.le_refl _) ?_
  refine ww_iload dL_law__1010 rfl ?_
  refine ww_icmp_eq (tgt := 1017) dL_law__1012 (by decide) (fun _ => ?_) (fun q => absurd rfl q)
  refine ww_iload dL_law__1017 rfl ?_
  refine ww_if_neN (tgt := 1034) dL_law__1019 (by decide) (by omega) (fun _ => ?_) (fun k0 => ?_)
  · refine ww_goto (tgt := 2553) dL_law__1034 (by decide) ?_
    exact ww_fg (lv2 := [.ref (1000000 + 300), .ref 0, .ref 46, .ref 72, .int (nI (7 * i)), UU, UU]) ⟨Or.inr rfl, Or.inr rfl, Or.inr rfl, Or.inr rfl, Or.inr rfl, Or.inl rfl, Or.inl rfl, trivial⟩ (kk h2 g2)
  · refine ww_aload_n dL_law__1022 rfl rfl ?_
    refine ww_iconst (v := nI 0) dL_law__1023 (by decide) ?_
    refine ww_laldN dL_law__1024 k2 (by decide) (by decide) ?_
    refine ww_iload dL_law__1025 rfl ?_
    refine ww_i2l dL_law__1027 ?_
    refine ww_lcmp dL_law__1028 ?_
    refine ww_if_eq (tgt := 1034) dL_law__1029 (by decide) (fun _ => ?_) (fun q => absurd (by rw [e2 k0]; exact lg_cmp_self _) q)
    refine ww_goto (tgt := 2553) dL_law__1034 (by decide) ?_
    exact ww_fg (lv2 := [.ref (1000000 + 300), .ref 0, .ref 46, .ref 72, .int (nI (7 * i)), UU, UU]) ⟨Or.inr rfl, Or.inr rfl, Or.inr rfl, Or.inr rfl, Or.inr rfl, Or.inl rfl, Or.inl rfl, trivial⟩ (kk h2 g2)
set_option maxHeartbeats 4000000 in
theorem s_14 {l : Launch} {Z : EE} (hst : l.stackTraces = false) {nm : String} {i : Nat} (hi : 7 * i + 7 ≤ Z.2.2 301) (hL : Z.2.2 301 ≤ 3584) {G : PH → Prop} {h : PH} (h0 : hp_K h 0 = (10, 19)) {d mc ms D bc bs : Nat} (hD : d + 1 ≤ D) {Post : Res → PH → Prop} (hW : StW l Z m_L_leaves m_X11_leaves d mc ms [.int (scI Z (7 * i + 1))] G h)
    (kk : ∀ h2, G h2 → WW l Z (mLaw nm) D bc bs 2553 [.ref (1000000 + 300), .ref 0, .ref 46, .ref 72, .int (nI (7 * i)), UU, UU] [] h2 Post) : WW l Z (mLaw nm) D (bc + mc) (bs + ms) 1037 [.ref (1000000 + 300), .ref 0, .ref 46, .ref 72, .int (nI (7 * i)), UU, UU] [] h Post := by
  obtain ⟨k, Q1, d1, mc1, ms1, ⟨hk, hd1, hm1, hs1⟩, c1, c2⟩ := hW
  refine ww_aload_n dL_law__1037 rfl rfl ?_
  refine ww_aload_n dL_law__1038 rfl rfl ?_
  refine ww_iload dL_law__1039 rfl ?_
  refine ww_iconst (v := nI 1) dL_law__1041 (by decide) ?_
  refine ww_iaddN dL_law__1042 ?_
  refine ww_sald dL_law__1043 (by omega) (by omega) (by omega) ?_
  refine ww_aload_n dL_law__1044 rfl rfl ?_
  refine ww_cSXq (M := mLaw nm) (pc := 1045) (As := (.ref 0) :: ([.int (scI Z (7 * i + 1))] ++ [.ref 72])) (st := []) (d := D) (bc := bc) (bs := bs) (bc0 := bc + mc) (bs0 := bs + ms) c1 vx_L_leaves dL_law__1045 wg_942 rfl rfl (by omega) (Nat.le_of_ble_eq_true rfl) (by omega) (by omega) (fun h1 q1 => ?_)
  obtain ⟨m1, v, d2, hd2, c3⟩ := c2 h1 q1
  refine ww_sti (lv2 := [.ref (1000000 + 300), .ref 0, .ref 46, .ref 72, .int (nI (7 * i)), .int (nI k), UU]) dL_law__1048 rfl (Nat.le_of_ble_eq_true rfl) rfl ?_
  refine ww_aload_n dL_law__1050 rfl rfl ?_
  refine ww_aload_n dL_law__1051 rfl rfl ?_
  refine ww_iload dL_law__1052 rfl ?_
  refine ww_iconst (v := nI 1) dL_law__1054 (by decide) ?_
  refine ww_iaddN dL_law__1055 ?_
  refine ww_sald dL_law__1056 (by omega) (by omega) (by omega) ?_
  refine ww_cVq (M := mLaw nm) (pc := 1057) (As := [.int (scI Z (7 * i + 1))]) (st := []) (d := D) (bc := bc) (bs := bs) (bc0 := bc) (bs0 := bs) c3 vv_X11_leaves dL_law__1057 wg_1644 m1 rfl rfl rfl rfl (by omega) (Nat.le_of_ble_eq_true rfl) (Nat.le_refl _) (Nat.le_refl _) (fun h2 q2 => ?_)
  obtain ⟨g2, m2, t2, k2, e2⟩ := q2
  refine ww_sti (lv2 := [.ref (1000000 + 300), .ref 0, .ref 46, .ref 72, .int (nI (7 * i)), .int (nI k), .int v]) dL_law__1060 rfl (Nat.le_of_ble_eq_true rfl) rfl ?_
  refine ww_aload_n dL_law__1062 rfl rfl ?_
  refine ww_cVr (M := mLaw nm) (pc := 1063) (As := []) (st := []) (d := D) (bc := bc) (bs := bs) (bc0 := bc) (bs0 := bs) (c_M_thrown hst m2 _ t2) vv_X11_thrown dL_law__1063 wg_1222 m2.K0 rfl rfl rfl rfl (by omega) (Nat.le_of_ble_eq_true rfl) (Nat.le_refl _) (Nat.le_refl _) ?_
  refine ww_iload dL_law__1066 rfl ?_
  refine ww_icmp_eq (tgt := 1073) dL_law__1068 (by decide) (fun _ => ?_) (fun q => absurd rfl q)
  refine ww_iload dL_law__1073 rfl ?_
  refine ww_if_neN (tgt := 1090) dL_law__1075 (by decide) (by omega) (fun _ => ?_) (fun k0 => ?_)
  · refine ww_goto (tgt := 2553) dL_law__1090 (by decide) ?_
    exact ww_fg (lv2 := [.ref (1000000 + 300), .ref 0, .ref 46, .ref 72, .int (nI (7 * i)), UU, UU]) ⟨Or.inr rfl, Or.inr rfl, Or.inr rfl, Or.inr rfl, Or.inr rfl, Or.inl rfl, Or.inl rfl, trivial⟩ (kk h2 g2)
  · refine ww_aload_n dL_law__1078 rfl rfl ?_
    refine ww_iconst (v := nI 0) dL_law__1079 (by decide) ?_
    refine ww_laldN dL_law__1080 k2 (by decide) (by decide) ?_
    refine ww_iload dL_law__1081 rfl ?_
    refine ww_i2l dL_law__1083 ?_
    refine ww_lcmp dL_law__1084 ?_
    refine ww_if_eq (tgt := 1090) dL_law__1085 (by decide) (fun _ => ?_) (fun q => absurd (by rw [e2 k0]; exact lg_cmp_self _) q)
    refine ww_goto (tgt := 2553) dL_law__1090 (by decide) ?_
    exact ww_fg (lv2 := [.ref (1000000 + 300), .ref 0, .ref 46, .ref 72, .int (nI (7 * i)), UU, UU]) ⟨Or.inr rfl, Or.inr rfl, Or.inr rfl, Or.inr rfl, Or.inr rfl, Or.inl rfl, Or.inl rfl, trivial⟩ (kk h2 g2)
set_option maxHeartbeats 4000000 in
theorem s_15 {l : Launch} {Z : EE} (hst : l.stackTraces = false) {nm : String} {i : Nat} (hi : 7 * i + 7 ≤ Z.2.2 301) (hL : Z.2.2 301 ≤ 3584) {G : PH → Prop} {h : PH} (h0 : hp_K h 0 = (10, 19)) {d mc ms D bc bs : Nat} (hD : d + 1 ≤ D) {Post : Res → PH → Prop} (hW : StW l Z m_L_out m_X11_out d mc ms [.int (scI Z (7 * i + 1))] G h)
    (kk : ∀ h2, G h2 → WW l Z (mLaw nm) D bc bs 2553 [.ref (1000000 + 300), .ref 0, .ref 46, .ref 72, .int (nI (7 * i)), UU, UU] [] h2 Post) : WW l Z (mLaw nm) D (bc + mc) (bs + ms) 1093 [.ref (1000000 + 300), .ref 0, .ref 46, .ref 72, .int (nI (7 * i)), UU, UU] [] h Post := by
  obtain ⟨k, Q1, d1, mc1, ms1, ⟨hk, hd1, hm1, hs1⟩, c1, c2⟩ := hW
  refine ww_aload_n dL_law__1093 rfl rfl ?_
  refine ww_aload_n dL_law__1094 rfl rfl ?_
  refine ww_iload dL_law__1095 rfl ?_
  refine ww_iconst (v := nI 1) dL_law__1097 (by decide) ?_
  refine ww_iaddN dL_law__1098 ?_
  refine ww_sald dL_law__1099 (by omega) (by omega) (by omega) ?_
  refine ww_aload_n dL_law__1100 rfl rfl ?_
  refine ww_cSXq (M := mLaw nm) (pc := 1101) (As := (.ref 0) :: ([.int (scI Z (7 * i + 1))] ++ [.ref 72])) (st := []) (d := D) (bc := bc) (bs := bs) (bc0 := bc + mc) (bs0 := bs + ms) c1 vx_L_out dL_law__1101 wg_949 rfl rfl (by omega) (Nat.le_of_ble_eq_true rfl) (by omega) (by omega) (fun h1 q1 => ?_)
  obtain ⟨m1, v, d2, hd2, c3⟩ := c2 h1 q1
  refine ww_sti (lv2 := [.ref (1000000 + 300), .ref 0, .ref 46, .ref 72, .int (nI (7 * i)), .int (nI k), UU]) dL_law__1104 rfl (Nat.le_of_ble_eq_true rfl) rfl ?_
  refine ww_aload_n dL_law__1106 rfl rfl ?_
  refine ww_aload_n dL_law__1107 rfl rfl ?_
  refine ww_iload dL_law__1108 rfl ?_
  refine ww_iconst (v := nI 1) dL_law__1110 (by decide) ?_
  refine ww_iaddN dL_law__1111 ?_
  refine ww_sald dL_law__1112 (by omega) (by omega) (by omega) ?_
  refine ww_cVq (M := mLaw nm) (pc := 1113) (As := [.int (scI Z (7 * i + 1))]) (st := []) (d := D) (bc := bc) (bs := bs) (bc0 := bc) (bs0 := bs) c3 vv_X11_out dL_law__1113 wg_1652 m1 rfl rfl rfl rfl (by omega) (Nat.le_of_ble_eq_true rfl) (Nat.le_refl _) (Nat.le_refl _) (fun h2 q2 => ?_)
  obtain ⟨g2, m2, t2, k2, e2⟩ := q2
  refine ww_sti (lv2 := [.ref (1000000 + 300), .ref 0, .ref 46, .ref 72, .int (nI (7 * i)), .int (nI k), .int v]) dL_law__1116 rfl (Nat.le_of_ble_eq_true rfl) rfl ?_
  refine ww_aload_n dL_law__1118 rfl rfl ?_
  refine ww_cVr (M := mLaw nm) (pc := 1119) (As := []) (st := []) (d := D) (bc := bc) (bs := bs) (bc0 := bc) (bs0 := bs) (c_M_thrown hst m2 _ t2) vv_X11_thrown dL_law__1119 wg_1222 m2.K0 rfl rfl rfl rfl (by omega) (Nat.le_of_ble_eq_true rfl) (Nat.le_refl _) (Nat.le_refl _) ?_
  refine ww_iload dL_law__1122 rfl ?_
  refine ww_icmp_eq (tgt := 1129) dL_law__1124 (by decide) (fun _ => ?_) (fun q => absurd rfl q)
  refine ww_iload dL_law__1129 rfl ?_
  refine ww_if_neN (tgt := 1146) dL_law__1131 (by decide) (by omega) (fun _ => ?_) (fun k0 => ?_)
  · refine ww_goto (tgt := 2553) dL_law__1146 (by decide) ?_
    exact ww_fg (lv2 := [.ref (1000000 + 300), .ref 0, .ref 46, .ref 72, .int (nI (7 * i)), UU, UU]) ⟨Or.inr rfl, Or.inr rfl, Or.inr rfl, Or.inr rfl, Or.inr rfl, Or.inl rfl, Or.inl rfl, trivial⟩ (kk h2 g2)
  · refine ww_aload_n dL_law__1134 rfl rfl ?_
    refine ww_iconst (v := nI 0) dL_law__1135 (by decide) ?_
    refine ww_laldN dL_law__1136 k2 (by decide) (by decide) ?_
    refine ww_iload dL_law__1137 rfl ?_
    refine ww_i2l dL_law__1139 ?_
    refine ww_lcmp dL_law__1140 ?_
    refine ww_if_eq (tgt := 1146) dL_law__1141 (by decide) (fun _ => ?_) (fun q => absurd (by rw [e2 k0]; exact lg_cmp_self _) q)
    refine ww_goto (tgt := 2553) dL_law__1146 (by decide) ?_
    exact ww_fg (lv2 := [.ref (1000000 + 300), .ref 0, .ref 46, .ref 72, .int (nI (7 * i)), UU, UU]) ⟨Or.inr rfl, Or.inr rfl, Or.inr rfl, Or.inr rfl, Or.inr rfl, Or.inl rfl, Or.inl rfl, trivial⟩ (kk h2 g2)
set_option maxHeartbeats 4000000 in
theorem s_16 {l : Launch} {Z : EE} (hst : l.stackTraces = false) {nm : String} {i : Nat} (hi : 7 * i + 7 ≤ Z.2.2 301) (hL : Z.2.2 301 ≤ 3584) {G : PH → Prop} {h : PH} (h0 : hp_K h 0 = (10, 19)) {d mc ms D bc bs : Nat} (hD : d + 1 ≤ D) {Post : Res → PH → Prop} (hW : StW l Z m_L_round m_X11_round d mc ms [.int (scI Z (7 * i + 1)), .int (scI Z (7 * i + 2)), .int (scI Z (7 * i + 3))] G h)
    (kk : ∀ h2, G h2 → WW l Z (mLaw nm) D bc bs 2553 [.ref (1000000 + 300), .ref 0, .ref 46, .ref 72, .int (nI (7 * i)), UU, UU] [] h2 Post) : WW l Z (mLaw nm) D (bc + mc) (bs + ms) 1149 [.ref (1000000 + 300), .ref 0, .ref 46, .ref 72, .int (nI (7 * i)), UU, UU] [] h Post := by
  obtain ⟨k, Q1, d1, mc1, ms1, ⟨hk, hd1, hm1, hs1⟩, c1, c2⟩ := hW
  refine ww_aload_n dL_law__1149 rfl rfl ?_
  refine ww_aload_n dL_law__1150 rfl rfl ?_
  refine ww_iload dL_law__1151 rfl ?_
  refine ww_iconst (v := nI 1) dL_law__1153 (by decide) ?_
  refine ww_iaddN dL_law__1154 ?_
  refine ww_sald dL_law__1155 (by omega) (by omega) (by omega) ?_
  refine ww_aload_n dL_law__1156 rfl rfl ?_
  refine ww_iload dL_law__1157 rfl ?_
  refine ww_iconst (v := nI 2) dL_law__1159 (by decide) ?_
  refine ww_iaddN dL_law__1160 ?_
  refine ww_sald dL_law__1161 (by omega) (by omega) (by omega) ?_
  refine ww_aload_n dL_law__1162 rfl rfl ?_
  refine ww_iload dL_law__1163 rfl ?_
  refine ww_iconst (v := nI 3) dL_law__1165 (by decide) ?_
  refine ww_iaddN dL_law__1166 ?_
  refine ww_sald dL_law__1167 (by omega) (by omega) (by omega) ?_
  refine ww_aload_n dL_law__1168 rfl rfl ?_
  refine ww_cSXq (M := mLaw nm) (pc := 1169) (As := (.ref 0) :: ([.int (scI Z (7 * i + 1)), .int (scI Z (7 * i + 2)), .int (scI Z (7 * i + 3))] ++ [.ref 72])) (st := []) (d := D) (bc := bc) (bs := bs) (bc0 := bc + mc) (bs0 := bs + ms) c1 vx_L_round dL_law__1169 wg_962 rfl rfl (by omega) (Nat.le_of_ble_eq_true rfl) (by omega) (by omega) (fun h1 q1 => ?_)
  obtain ⟨m1, v, d2, hd2, c3⟩ := c2 h1 q1
  refine ww_sti (lv2 := [.ref (1000000 + 300), .ref 0, .ref 46, .ref 72, .int (nI (7 * i)), .int (nI k), UU]) dL_law__1172 rfl (Nat.le_of_ble_eq_true rfl) rfl ?_
  refine ww_aload_n dL_law__1174 rfl rfl ?_
  refine ww_aload_n dL_law__1175 rfl rfl ?_
  refine ww_iload dL_law__1176 rfl ?_
  refine ww_iconst (v := nI 1) dL_law__1178 (by decide) ?_
  refine ww_iaddN dL_law__1179 ?_
  refine ww_sald dL_law__1180 (by omega) (by omega) (by omega) ?_
  refine ww_aload_n dL_law__1181 rfl rfl ?_
  refine ww_iload dL_law__1182 rfl ?_
  refine ww_iconst (v := nI 2) dL_law__1184 (by decide) ?_
  refine ww_iaddN dL_law__1185 ?_
  refine ww_sald dL_law__1186 (by omega) (by omega) (by omega) ?_
  refine ww_aload_n dL_law__1187 rfl rfl ?_
  refine ww_iload dL_law__1188 rfl ?_
  refine ww_iconst (v := nI 3) dL_law__1190 (by decide) ?_
  refine ww_iaddN dL_law__1191 ?_
  refine ww_sald dL_law__1192 (by omega) (by omega) (by omega) ?_
  refine ww_cVq (M := mLaw nm) (pc := 1193) (As := [.int (scI Z (7 * i + 1)), .int (scI Z (7 * i + 2)), .int (scI Z (7 * i + 3))]) (st := []) (d := D) (bc := bc) (bs := bs) (bc0 := bc) (bs0 := bs) c3 vv_X11_round dL_law__1193 wg_1657 m1 rfl rfl rfl rfl (by omega) (Nat.le_of_ble_eq_true rfl) (Nat.le_refl _) (Nat.le_refl _) (fun h2 q2 => ?_)
  obtain ⟨g2, m2, t2, k2, e2⟩ := q2
  refine ww_sti (lv2 := [.ref (1000000 + 300), .ref 0, .ref 46, .ref 72, .int (nI (7 * i)), .int (nI k), .int v]) dL_law__1196 rfl (Nat.le_of_ble_eq_true rfl) rfl ?_
  refine ww_aload_n dL_law__1198 rfl rfl ?_
  refine ww_cVr (M := mLaw nm) (pc := 1199) (As := []) (st := []) (d := D) (bc := bc) (bs := bs) (bc0 := bc) (bs0 := bs) (c_M_thrown hst m2 _ t2) vv_X11_thrown dL_law__1199 wg_1222 m2.K0 rfl rfl rfl rfl (by omega) (Nat.le_of_ble_eq_true rfl) (Nat.le_refl _) (Nat.le_refl _) ?_
  refine ww_iload dL_law__1202 rfl ?_
  refine ww_icmp_eq (tgt := 1209) dL_law__1204 (by decide) (fun _ => ?_) (fun q => absurd rfl q)
  refine ww_iload dL_law__1209 rfl ?_
  refine ww_if_neN (tgt := 1226) dL_law__1211 (by decide) (by omega) (fun _ => ?_) (fun k0 => ?_)
  · refine ww_goto (tgt := 2553) dL_law__1226 (by decide) ?_
    exact ww_fg (lv2 := [.ref (1000000 + 300), .ref 0, .ref 46, .ref 72, .int (nI (7 * i)), UU, UU]) ⟨Or.inr rfl, Or.inr rfl, Or.inr rfl, Or.inr rfl, Or.inr rfl, Or.inl rfl, Or.inl rfl, trivial⟩ (kk h2 g2)
  · refine ww_aload_n dL_law__1214 rfl rfl ?_
    refine ww_iconst (v := nI 0) dL_law__1215 (by decide) ?_
    refine ww_laldN dL_law__1216 k2 (by decide) (by decide) ?_
    refine ww_iload dL_law__1217 rfl ?_
    refine ww_i2l dL_law__1219 ?_
    refine ww_lcmp dL_law__1220 ?_
    refine ww_if_eq (tgt := 1226) dL_law__1221 (by decide) (fun _ => ?_) (fun q => absurd (by rw [e2 k0]; exact lg_cmp_self _) q)
    refine ww_goto (tgt := 2553) dL_law__1226 (by decide) ?_
    exact ww_fg (lv2 := [.ref (1000000 + 300), .ref 0, .ref 46, .ref 72, .int (nI (7 * i)), UU, UU]) ⟨Or.inr rfl, Or.inr rfl, Or.inr rfl, Or.inr rfl, Or.inr rfl, Or.inl rfl, Or.inl rfl, trivial⟩ (kk h2 g2)
set_option maxHeartbeats 4000000 in
theorem s_17 {l : Launch} {Z : EE} (hst : l.stackTraces = false) {nm : String} {i : Nat} (hi : 7 * i + 7 ≤ Z.2.2 301) (hL : Z.2.2 301 ≤ 3584) {G : PH → Prop} {h : PH} (h0 : hp_K h 0 = (10, 19)) {d mc ms D bc bs : Nat} (hD : d + 1 ≤ D) {Post : Res → PH → Prop} (hW : StW l Z m_L_buy m_X11_buy d mc ms [.int (scI Z (7 * i + 1)), .int (scI Z (7 * i + 2))] G h)
    (kk : ∀ h2, G h2 → WW l Z (mLaw nm) D bc bs 2553 [.ref (1000000 + 300), .ref 0, .ref 46, .ref 72, .int (nI (7 * i)), UU, UU] [] h2 Post) : WW l Z (mLaw nm) D (bc + mc) (bs + ms) 1229 [.ref (1000000 + 300), .ref 0, .ref 46, .ref 72, .int (nI (7 * i)), UU, UU] [] h Post := by
  obtain ⟨k, Q1, d1, mc1, ms1, ⟨hk, hd1, hm1, hs1⟩, c1, c2⟩ := hW
  refine ww_aload_n dL_law__1229 rfl rfl ?_
  refine ww_aload_n dL_law__1230 rfl rfl ?_
  refine ww_iload dL_law__1231 rfl ?_
  refine ww_iconst (v := nI 1) dL_law__1233 (by decide) ?_
  refine ww_iaddN dL_law__1234 ?_
  refine ww_sald dL_law__1235 (by omega) (by omega) (by omega) ?_
  refine ww_aload_n dL_law__1236 rfl rfl ?_
  refine ww_iload dL_law__1237 rfl ?_
  refine ww_iconst (v := nI 2) dL_law__1239 (by decide) ?_
  refine ww_iaddN dL_law__1240 ?_
  refine ww_sald dL_law__1241 (by omega) (by omega) (by omega) ?_
  refine ww_aload_n dL_law__1242 rfl rfl ?_
  refine ww_cSXq (M := mLaw nm) (pc := 1243) (As := (.ref 0) :: ([.int (scI Z (7 * i + 1)), .int (scI Z (7 * i + 2))] ++ [.ref 72])) (st := []) (d := D) (bc := bc) (bs := bs) (bc0 := bc + mc) (bs0 := bs + ms) c1 vx_L_buy dL_law__1243 wg_1006 rfl rfl (by omega) (Nat.le_of_ble_eq_true rfl) (by omega) (by omega) (fun h1 q1 => ?_)
  obtain ⟨m1, v, d2, hd2, c3⟩ := c2 h1 q1
  refine ww_sti (lv2 := [.ref (1000000 + 300), .ref 0, .ref 46, .ref 72, .int (nI (7 * i)), .int (nI k), UU]) dL_law__1246 rfl (Nat.le_of_ble_eq_true rfl) rfl ?_
  refine ww_aload_n dL_law__1248 rfl rfl ?_
  refine ww_aload_n dL_law__1249 rfl rfl ?_
  refine ww_iload dL_law__1250 rfl ?_
  refine ww_iconst (v := nI 1) dL_law__1252 (by decide) ?_
  refine ww_iaddN dL_law__1253 ?_
  refine ww_sald dL_law__1254 (by omega) (by omega) (by omega) ?_
  refine ww_aload_n dL_law__1255 rfl rfl ?_
  refine ww_iload dL_law__1256 rfl ?_
  refine ww_iconst (v := nI 2) dL_law__1258 (by decide) ?_
  refine ww_iaddN dL_law__1259 ?_
  refine ww_sald dL_law__1260 (by omega) (by omega) (by omega) ?_
  refine ww_cVq (M := mLaw nm) (pc := 1261) (As := [.int (scI Z (7 * i + 1)), .int (scI Z (7 * i + 2))]) (st := []) (d := D) (bc := bc) (bs := bs) (bc0 := bc) (bs0 := bs) c3 vv_X11_buy dL_law__1261 wg_1670 m1 rfl rfl rfl rfl (by omega) (Nat.le_of_ble_eq_true rfl) (Nat.le_refl _) (Nat.le_refl _) (fun h2 q2 => ?_)
  obtain ⟨g2, m2, t2, k2, e2⟩ := q2
  refine ww_sti (lv2 := [.ref (1000000 + 300), .ref 0, .ref 46, .ref 72, .int (nI (7 * i)), .int (nI k), .int v]) dL_law__1264 rfl (Nat.le_of_ble_eq_true rfl) rfl ?_
  refine ww_aload_n dL_law__1266 rfl rfl ?_
  refine ww_cVr (M := mLaw nm) (pc := 1267) (As := []) (st := []) (d := D) (bc := bc) (bs := bs) (bc0 := bc) (bs0 := bs) (c_M_thrown hst m2 _ t2) vv_X11_thrown dL_law__1267 wg_1222 m2.K0 rfl rfl rfl rfl (by omega) (Nat.le_of_ble_eq_true rfl) (Nat.le_refl _) (Nat.le_refl _) ?_
  refine ww_iload dL_law__1270 rfl ?_
  refine ww_icmp_eq (tgt := 1277) dL_law__1272 (by decide) (fun _ => ?_) (fun q => absurd rfl q)
  refine ww_iload dL_law__1277 rfl ?_
  refine ww_if_neN (tgt := 1294) dL_law__1279 (by decide) (by omega) (fun _ => ?_) (fun k0 => ?_)
  · refine ww_goto (tgt := 2553) dL_law__1294 (by decide) ?_
    exact ww_fg (lv2 := [.ref (1000000 + 300), .ref 0, .ref 46, .ref 72, .int (nI (7 * i)), UU, UU]) ⟨Or.inr rfl, Or.inr rfl, Or.inr rfl, Or.inr rfl, Or.inr rfl, Or.inl rfl, Or.inl rfl, trivial⟩ (kk h2 g2)
  · refine ww_aload_n dL_law__1282 rfl rfl ?_
    refine ww_iconst (v := nI 0) dL_law__1283 (by decide) ?_
    refine ww_laldN dL_law__1284 k2 (by decide) (by decide) ?_
    refine ww_iload dL_law__1285 rfl ?_
    refine ww_i2l dL_law__1287 ?_
    refine ww_lcmp dL_law__1288 ?_
    refine ww_if_eq (tgt := 1294) dL_law__1289 (by decide) (fun _ => ?_) (fun q => absurd (by rw [e2 k0]; exact lg_cmp_self _) q)
    refine ww_goto (tgt := 2553) dL_law__1294 (by decide) ?_
    exact ww_fg (lv2 := [.ref (1000000 + 300), .ref 0, .ref 46, .ref 72, .int (nI (7 * i)), UU, UU]) ⟨Or.inr rfl, Or.inr rfl, Or.inr rfl, Or.inr rfl, Or.inr rfl, Or.inl rfl, Or.inl rfl, trivial⟩ (kk h2 g2)
set_option maxHeartbeats 4000000 in
theorem s_18 {l : Launch} {Z : EE} (hst : l.stackTraces = false) {nm : String} {i : Nat} (hi : 7 * i + 7 ≤ Z.2.2 301) (hL : Z.2.2 301 ≤ 3584) {G : PH → Prop} {h : PH} (h0 : hp_K h 0 = (10, 19)) {d mc ms D bc bs : Nat} (hD : d + 1 ≤ D) {Post : Res → PH → Prop} (hW : StW l Z m_L_meant m_X11_meant d mc ms [.int (scI Z (7 * i + 1)), .int (scI Z (7 * i + 2)), .int (scI Z (7 * i + 3))] G h)
    (kk : ∀ h2, G h2 → WW l Z (mLaw nm) D bc bs 2553 [.ref (1000000 + 300), .ref 0, .ref 46, .ref 72, .int (nI (7 * i)), UU, UU] [] h2 Post) : WW l Z (mLaw nm) D (bc + mc) (bs + ms) 1297 [.ref (1000000 + 300), .ref 0, .ref 46, .ref 72, .int (nI (7 * i)), UU, UU] [] h Post := by
  obtain ⟨k, Q1, d1, mc1, ms1, ⟨hk, hd1, hm1, hs1⟩, c1, c2⟩ := hW
  refine ww_aload_n dL_law__1297 rfl rfl ?_
  refine ww_aload_n dL_law__1298 rfl rfl ?_
  refine ww_iload dL_law__1299 rfl ?_
  refine ww_iconst (v := nI 1) dL_law__1301 (by decide) ?_
  refine ww_iaddN dL_law__1302 ?_
  refine ww_sald dL_law__1303 (by omega) (by omega) (by omega) ?_
  refine ww_aload_n dL_law__1304 rfl rfl ?_
  refine ww_iload dL_law__1305 rfl ?_
  refine ww_iconst (v := nI 2) dL_law__1307 (by decide) ?_
  refine ww_iaddN dL_law__1308 ?_
  refine ww_sald dL_law__1309 (by omega) (by omega) (by omega) ?_
  refine ww_aload_n dL_law__1310 rfl rfl ?_
  refine ww_iload dL_law__1311 rfl ?_
  refine ww_iconst (v := nI 3) dL_law__1313 (by decide) ?_
  refine ww_iaddN dL_law__1314 ?_
  refine ww_sald dL_law__1315 (by omega) (by omega) (by omega) ?_
  refine ww_aload_n dL_law__1316 rfl rfl ?_
  refine ww_cSXq (M := mLaw nm) (pc := 1317) (As := (.ref 0) :: ([.int (scI Z (7 * i + 1)), .int (scI Z (7 * i + 2)), .int (scI Z (7 * i + 3))] ++ [.ref 72])) (st := []) (d := D) (bc := bc) (bs := bs) (bc0 := bc + mc) (bs0 := bs + ms) c1 vx_L_meant dL_law__1317 wg_1027 rfl rfl (by omega) (Nat.le_of_ble_eq_true rfl) (by omega) (by omega) (fun h1 q1 => ?_)
  obtain ⟨m1, v, d2, hd2, c3⟩ := c2 h1 q1
  refine ww_sti (lv2 := [.ref (1000000 + 300), .ref 0, .ref 46, .ref 72, .int (nI (7 * i)), .int (nI k), UU]) dL_law__1320 rfl (Nat.le_of_ble_eq_true rfl) rfl ?_
  refine ww_aload_n dL_law__1322 rfl rfl ?_
  refine ww_aload_n dL_law__1323 rfl rfl ?_
  refine ww_iload dL_law__1324 rfl ?_
  refine ww_iconst (v := nI 1) dL_law__1326 (by decide) ?_
  refine ww_iaddN dL_law__1327 ?_
  refine ww_sald dL_law__1328 (by omega) (by omega) (by omega) ?_
  refine ww_aload_n dL_law__1329 rfl rfl ?_
  refine ww_iload dL_law__1330 rfl ?_
  refine ww_iconst (v := nI 2) dL_law__1332 (by decide) ?_
  refine ww_iaddN dL_law__1333 ?_
  refine ww_sald dL_law__1334 (by omega) (by omega) (by omega) ?_
  refine ww_aload_n dL_law__1335 rfl rfl ?_
  refine ww_iload dL_law__1336 rfl ?_
  refine ww_iconst (v := nI 3) dL_law__1338 (by decide) ?_
  refine ww_iaddN dL_law__1339 ?_
  refine ww_sald dL_law__1340 (by omega) (by omega) (by omega) ?_
  refine ww_cVq (M := mLaw nm) (pc := 1341) (As := [.int (scI Z (7 * i + 1)), .int (scI Z (7 * i + 2)), .int (scI Z (7 * i + 3))]) (st := []) (d := D) (bc := bc) (bs := bs) (bc0 := bc) (bs0 := bs) c3 vv_X11_meant dL_law__1341 wg_1678 m1 rfl rfl rfl rfl (by omega) (Nat.le_of_ble_eq_true rfl) (Nat.le_refl _) (Nat.le_refl _) (fun h2 q2 => ?_)
  obtain ⟨g2, m2, t2, k2, e2⟩ := q2
  refine ww_sti (lv2 := [.ref (1000000 + 300), .ref 0, .ref 46, .ref 72, .int (nI (7 * i)), .int (nI k), .int v]) dL_law__1344 rfl (Nat.le_of_ble_eq_true rfl) rfl ?_
  refine ww_aload_n dL_law__1346 rfl rfl ?_
  refine ww_cVr (M := mLaw nm) (pc := 1347) (As := []) (st := []) (d := D) (bc := bc) (bs := bs) (bc0 := bc) (bs0 := bs) (c_M_thrown hst m2 _ t2) vv_X11_thrown dL_law__1347 wg_1222 m2.K0 rfl rfl rfl rfl (by omega) (Nat.le_of_ble_eq_true rfl) (Nat.le_refl _) (Nat.le_refl _) ?_
  refine ww_iload dL_law__1350 rfl ?_
  refine ww_icmp_eq (tgt := 1357) dL_law__1352 (by decide) (fun _ => ?_) (fun q => absurd rfl q)
  refine ww_iload dL_law__1357 rfl ?_
  refine ww_if_neN (tgt := 1374) dL_law__1359 (by decide) (by omega) (fun _ => ?_) (fun k0 => ?_)
  · refine ww_goto (tgt := 2553) dL_law__1374 (by decide) ?_
    exact ww_fg (lv2 := [.ref (1000000 + 300), .ref 0, .ref 46, .ref 72, .int (nI (7 * i)), UU, UU]) ⟨Or.inr rfl, Or.inr rfl, Or.inr rfl, Or.inr rfl, Or.inr rfl, Or.inl rfl, Or.inl rfl, trivial⟩ (kk h2 g2)
  · refine ww_aload_n dL_law__1362 rfl rfl ?_
    refine ww_iconst (v := nI 0) dL_law__1363 (by decide) ?_
    refine ww_laldN dL_law__1364 k2 (by decide) (by decide) ?_
    refine ww_iload dL_law__1365 rfl ?_
    refine ww_i2l dL_law__1367 ?_
    refine ww_lcmp dL_law__1368 ?_
    refine ww_if_eq (tgt := 1374) dL_law__1369 (by decide) (fun _ => ?_) (fun q => absurd (by rw [e2 k0]; exact lg_cmp_self _) q)
    refine ww_goto (tgt := 2553) dL_law__1374 (by decide) ?_
    exact ww_fg (lv2 := [.ref (1000000 + 300), .ref 0, .ref 46, .ref 72, .int (nI (7 * i)), UU, UU]) ⟨Or.inr rfl, Or.inr rfl, Or.inr rfl, Or.inr rfl, Or.inr rfl, Or.inl rfl, Or.inl rfl, trivial⟩ (kk h2 g2)
set_option maxHeartbeats 4000000 in
theorem s_19 {l : Launch} {Z : EE} (hst : l.stackTraces = false) {nm : String} {i : Nat} (hi : 7 * i + 7 ≤ Z.2.2 301) (hL : Z.2.2 301 ≤ 3584) {G : PH → Prop} {h : PH} (h0 : hp_K h 0 = (10, 19)) {d mc ms D bc bs : Nat} (hD : d + 1 ≤ D) {Post : Res → PH → Prop} (hW : StW l Z m_L_look m_X11_look d mc ms [.int (scI Z (7 * i + 1)), .int (scI Z (7 * i + 2)), .int (scI Z (7 * i + 3))] G h)
    (kk : ∀ h2, G h2 → WW l Z (mLaw nm) D bc bs 2553 [.ref (1000000 + 300), .ref 0, .ref 46, .ref 72, .int (nI (7 * i)), UU, UU] [] h2 Post) : WW l Z (mLaw nm) D (bc + mc) (bs + ms) 1377 [.ref (1000000 + 300), .ref 0, .ref 46, .ref 72, .int (nI (7 * i)), UU, UU] [] h Post := by
  obtain ⟨k, Q1, d1, mc1, ms1, ⟨hk, hd1, hm1, hs1⟩, c1, c2⟩ := hW
  refine ww_aload_n dL_law__1377 rfl rfl ?_
  refine ww_aload_n dL_law__1378 rfl rfl ?_
  refine ww_iload dL_law__1379 rfl ?_
  refine ww_iconst (v := nI 1) dL_law__1381 (by decide) ?_
  refine ww_iaddN dL_law__1382 ?_
  refine ww_sald dL_law__1383 (by omega) (by omega) (by omega) ?_
  refine ww_aload_n dL_law__1384 rfl rfl ?_
  refine ww_iload dL_law__1385 rfl ?_
  refine ww_iconst (v := nI 2) dL_law__1387 (by decide) ?_
  refine ww_iaddN dL_law__1388 ?_
  refine ww_sald dL_law__1389 (by omega) (by omega) (by omega) ?_
  refine ww_aload_n dL_law__1390 rfl rfl ?_
  refine ww_iload dL_law__1391 rfl ?_
  refine ww_iconst (v := nI 3) dL_law__1393 (by decide) ?_
  refine ww_iaddN dL_law__1394 ?_
  refine ww_sald dL_law__1395 (by omega) (by omega) (by omega) ?_
  refine ww_aload_n dL_law__1396 rfl rfl ?_
  refine ww_cSXq (M := mLaw nm) (pc := 1397) (As := (.ref 0) :: ([.int (scI Z (7 * i + 1)), .int (scI Z (7 * i + 2)), .int (scI Z (7 * i + 3))] ++ [.ref 72])) (st := []) (d := D) (bc := bc) (bs := bs) (bc0 := bc + mc) (bs0 := bs + ms) c1 vx_L_look dL_law__1397 wg_1058 rfl rfl (by omega) (Nat.le_of_ble_eq_true rfl) (by omega) (by omega) (fun h1 q1 => ?_)
  obtain ⟨m1, v, d2, hd2, c3⟩ := c2 h1 q1
  refine ww_sti (lv2 := [.ref (1000000 + 300), .ref 0, .ref 46, .ref 72, .int (nI (7 * i)), .int (nI k), UU]) dL_law__1400 rfl (Nat.le_of_ble_eq_true rfl) rfl ?_
  refine ww_aload_n dL_law__1402 rfl rfl ?_
  refine ww_aload_n dL_law__1403 rfl rfl ?_
  refine ww_iload dL_law__1404 rfl ?_
  refine ww_iconst (v := nI 1) dL_law__1406 (by decide) ?_
  refine ww_iaddN dL_law__1407 ?_
  refine ww_sald dL_law__1408 (by omega) (by omega) (by omega) ?_
  refine ww_aload_n dL_law__1409 rfl rfl ?_
  refine ww_iload dL_law__1410 rfl ?_
  refine ww_iconst (v := nI 2) dL_law__1412 (by decide) ?_
  refine ww_iaddN dL_law__1413 ?_
  refine ww_sald dL_law__1414 (by omega) (by omega) (by omega) ?_
  refine ww_aload_n dL_law__1415 rfl rfl ?_
  refine ww_iload dL_law__1416 rfl ?_
  refine ww_iconst (v := nI 3) dL_law__1418 (by decide) ?_
  refine ww_iaddN dL_law__1419 ?_
  refine ww_sald dL_law__1420 (by omega) (by omega) (by omega) ?_
  refine ww_cVq (M := mLaw nm) (pc := 1421) (As := [.int (scI Z (7 * i + 1)), .int (scI Z (7 * i + 2)), .int (scI Z (7 * i + 3))]) (st := []) (d := D) (bc := bc) (bs := bs) (bc0 := bc) (bs0 := bs) c3 vv_X11_look dL_law__1421 wg_1693 m1 rfl rfl rfl rfl (by omega) (Nat.le_of_ble_eq_true rfl) (Nat.le_refl _) (Nat.le_refl _) (fun h2 q2 => ?_)
  obtain ⟨g2, m2, t2, k2, e2⟩ := q2
  refine ww_sti (lv2 := [.ref (1000000 + 300), .ref 0, .ref 46, .ref 72, .int (nI (7 * i)), .int (nI k), .int v]) dL_law__1424 rfl (Nat.le_of_ble_eq_true rfl) rfl ?_
  refine ww_aload_n dL_law__1426 rfl rfl ?_
  refine ww_cVr (M := mLaw nm) (pc := 1427) (As := []) (st := []) (d := D) (bc := bc) (bs := bs) (bc0 := bc) (bs0 := bs) (c_M_thrown hst m2 _ t2) vv_X11_thrown dL_law__1427 wg_1222 m2.K0 rfl rfl rfl rfl (by omega) (Nat.le_of_ble_eq_true rfl) (Nat.le_refl _) (Nat.le_refl _) ?_
  refine ww_iload dL_law__1430 rfl ?_
  refine ww_icmp_eq (tgt := 1437) dL_law__1432 (by decide) (fun _ => ?_) (fun q => absurd rfl q)
  refine ww_iload dL_law__1437 rfl ?_
  refine ww_if_neN (tgt := 1454) dL_law__1439 (by decide) (by omega) (fun _ => ?_) (fun k0 => ?_)
  · refine ww_goto (tgt := 2553) dL_law__1454 (by decide) ?_
    exact ww_fg (lv2 := [.ref (1000000 + 300), .ref 0, .ref 46, .ref 72, .int (nI (7 * i)), UU, UU]) ⟨Or.inr rfl, Or.inr rfl, Or.inr rfl, Or.inr rfl, Or.inr rfl, Or.inl rfl, Or.inl rfl, trivial⟩ (kk h2 g2)
  · refine ww_aload_n dL_law__1442 rfl rfl ?_
    refine ww_iconst (v := nI 0) dL_law__1443 (by decide) ?_
    refine ww_laldN dL_law__1444 k2 (by decide) (by decide) ?_
    refine ww_iload dL_law__1445 rfl ?_
    refine ww_i2l dL_law__1447 ?_
    refine ww_lcmp dL_law__1448 ?_
    refine ww_if_eq (tgt := 1454) dL_law__1449 (by decide) (fun _ => ?_) (fun q => absurd (by rw [e2 k0]; exact lg_cmp_self _) q)
    refine ww_goto (tgt := 2553) dL_law__1454 (by decide) ?_
    exact ww_fg (lv2 := [.ref (1000000 + 300), .ref 0, .ref 46, .ref 72, .int (nI (7 * i)), UU, UU]) ⟨Or.inr rfl, Or.inr rfl, Or.inr rfl, Or.inr rfl, Or.inr rfl, Or.inl rfl, Or.inl rfl, trivial⟩ (kk h2 g2)
set_option maxHeartbeats 4000000 in
theorem s_20 {l : Launch} {Z : EE} (hst : l.stackTraces = false) {nm : String} {i : Nat} (hi : 7 * i + 7 ≤ Z.2.2 301) (hL : Z.2.2 301 ≤ 3584) {G : PH → Prop} {h : PH} (h0 : hp_K h 0 = (10, 19)) {d mc ms D bc bs : Nat} (hD : d + 1 ≤ D) {Post : Res → PH → Prop} (hW : StW l Z m_L_dice m_X11_dice d mc ms [.int (scI Z (7 * i + 1)), .int (scI Z (7 * i + 2))] G h)
    (kk : ∀ h2, G h2 → WW l Z (mLaw nm) D bc bs 2553 [.ref (1000000 + 300), .ref 0, .ref 46, .ref 72, .int (nI (7 * i)), UU, UU] [] h2 Post) : WW l Z (mLaw nm) D (bc + mc) (bs + ms) 1457 [.ref (1000000 + 300), .ref 0, .ref 46, .ref 72, .int (nI (7 * i)), UU, UU] [] h Post := by
  obtain ⟨k, Q1, d1, mc1, ms1, ⟨hk, hd1, hm1, hs1⟩, c1, c2⟩ := hW
  refine ww_aload_n dL_law__1457 rfl rfl ?_
  refine ww_aload_n dL_law__1458 rfl rfl ?_
  refine ww_iload dL_law__1459 rfl ?_
  refine ww_iconst (v := nI 1) dL_law__1461 (by decide) ?_
  refine ww_iaddN dL_law__1462 ?_
  refine ww_sald dL_law__1463 (by omega) (by omega) (by omega) ?_
  refine ww_aload_n dL_law__1464 rfl rfl ?_
  refine ww_iload dL_law__1465 rfl ?_
  refine ww_iconst (v := nI 2) dL_law__1467 (by decide) ?_
  refine ww_iaddN dL_law__1468 ?_
  refine ww_sald dL_law__1469 (by omega) (by omega) (by omega) ?_
  refine ww_aload_n dL_law__1470 rfl rfl ?_
  refine ww_cSXq (M := mLaw nm) (pc := 1471) (As := (.ref 0) :: ([.int (scI Z (7 * i + 1)), .int (scI Z (7 * i + 2))] ++ [.ref 72])) (st := []) (d := D) (bc := bc) (bs := bs) (bc0 := bc + mc) (bs0 := bs + ms) c1 vx_L_dice dL_law__1471 wg_1075 rfl rfl (by omega) (Nat.le_of_ble_eq_true rfl) (by omega) (by omega) (fun h1 q1 => ?_)
  obtain ⟨m1, v, d2, hd2, c3⟩ := c2 h1 q1
  refine ww_sti (lv2 := [.ref (1000000 + 300), .ref 0, .ref 46, .ref 72, .int (nI (7 * i)), .int (nI k), UU]) dL_law__1474 rfl (Nat.le_of_ble_eq_true rfl) rfl ?_
  refine ww_aload_n dL_law__1476 rfl rfl ?_
  refine ww_aload_n dL_law__1477 rfl rfl ?_
  refine ww_iload dL_law__1478 rfl ?_
  refine ww_iconst (v := nI 1) dL_law__1480 (by decide) ?_
  refine ww_iaddN dL_law__1481 ?_
  refine ww_sald dL_law__1482 (by omega) (by omega) (by omega) ?_
  refine ww_aload_n dL_law__1483 rfl rfl ?_
  refine ww_iload dL_law__1484 rfl ?_
  refine ww_iconst (v := nI 2) dL_law__1486 (by decide) ?_
  refine ww_iaddN dL_law__1487 ?_
  refine ww_sald dL_law__1488 (by omega) (by omega) (by omega) ?_
  refine ww_cVq (M := mLaw nm) (pc := 1489) (As := [.int (scI Z (7 * i + 1)), .int (scI Z (7 * i + 2))]) (st := []) (d := D) (bc := bc) (bs := bs) (bc0 := bc) (bs0 := bs) c3 vv_X11_dice dL_law__1489 wg_1697 m1 rfl rfl rfl rfl (by omega) (Nat.le_of_ble_eq_true rfl) (Nat.le_refl _) (Nat.le_refl _) (fun h2 q2 => ?_)
  obtain ⟨g2, m2, t2, k2, e2⟩ := q2
  refine ww_sti (lv2 := [.ref (1000000 + 300), .ref 0, .ref 46, .ref 72, .int (nI (7 * i)), .int (nI k), .int v]) dL_law__1492 rfl (Nat.le_of_ble_eq_true rfl) rfl ?_
  refine ww_aload_n dL_law__1494 rfl rfl ?_
  refine ww_cVr (M := mLaw nm) (pc := 1495) (As := []) (st := []) (d := D) (bc := bc) (bs := bs) (bc0 := bc) (bs0 := bs) (c_M_thrown hst m2 _ t2) vv_X11_thrown dL_law__1495 wg_1222 m2.K0 rfl rfl rfl rfl (by omega) (Nat.le_of_ble_eq_true rfl) (Nat.le_refl _) (Nat.le_refl _) ?_
  refine ww_iload dL_law__1498 rfl ?_
  refine ww_icmp_eq (tgt := 1505) dL_law__1500 (by decide) (fun _ => ?_) (fun q => absurd rfl q)
  refine ww_iload dL_law__1505 rfl ?_
  refine ww_if_neN (tgt := 1522) dL_law__1507 (by decide) (by omega) (fun _ => ?_) (fun k0 => ?_)
  · refine ww_goto (tgt := 2553) dL_law__1522 (by decide) ?_
    exact ww_fg (lv2 := [.ref (1000000 + 300), .ref 0, .ref 46, .ref 72, .int (nI (7 * i)), UU, UU]) ⟨Or.inr rfl, Or.inr rfl, Or.inr rfl, Or.inr rfl, Or.inr rfl, Or.inl rfl, Or.inl rfl, trivial⟩ (kk h2 g2)
  · refine ww_aload_n dL_law__1510 rfl rfl ?_
    refine ww_iconst (v := nI 0) dL_law__1511 (by decide) ?_
    refine ww_laldN dL_law__1512 k2 (by decide) (by decide) ?_
    refine ww_iload dL_law__1513 rfl ?_
    refine ww_i2l dL_law__1515 ?_
    refine ww_lcmp dL_law__1516 ?_
    refine ww_if_eq (tgt := 1522) dL_law__1517 (by decide) (fun _ => ?_) (fun q => absurd (by rw [e2 k0]; exact lg_cmp_self _) q)
    refine ww_goto (tgt := 2553) dL_law__1522 (by decide) ?_
    exact ww_fg (lv2 := [.ref (1000000 + 300), .ref 0, .ref 46, .ref 72, .int (nI (7 * i)), UU, UU]) ⟨Or.inr rfl, Or.inr rfl, Or.inr rfl, Or.inr rfl, Or.inr rfl, Or.inl rfl, Or.inl rfl, trivial⟩ (kk h2 g2)
set_option maxHeartbeats 4000000 in
theorem s_21 {l : Launch} {Z : EE} (hst : l.stackTraces = false) {nm : String} {i : Nat} (hi : 7 * i + 7 ≤ Z.2.2 301) (hL : Z.2.2 301 ≤ 3584) {G : PH → Prop} {h : PH} (h0 : hp_K h 0 = (10, 19)) {d mc ms D bc bs : Nat} (hD : d + 1 ≤ D) {Post : Res → PH → Prop} (hW : StW l Z m_L_lets m_X11_lets d mc ms [.int (scI Z (7 * i + 1)), .int (scI Z (7 * i + 2))] G h)
    (kk : ∀ h2, G h2 → WW l Z (mLaw nm) D bc bs 2553 [.ref (1000000 + 300), .ref 0, .ref 46, .ref 72, .int (nI (7 * i)), UU, UU] [] h2 Post) : WW l Z (mLaw nm) D (bc + mc) (bs + ms) 1525 [.ref (1000000 + 300), .ref 0, .ref 46, .ref 72, .int (nI (7 * i)), UU, UU] [] h Post := by
  obtain ⟨k, Q1, d1, mc1, ms1, ⟨hk, hd1, hm1, hs1⟩, c1, c2⟩ := hW
  refine ww_aload_n dL_law__1525 rfl rfl ?_
  refine ww_aload_n dL_law__1526 rfl rfl ?_
  refine ww_iload dL_law__1527 rfl ?_
  refine ww_iconst (v := nI 1) dL_law__1529 (by decide) ?_
  refine ww_iaddN dL_law__1530 ?_
  refine ww_sald dL_law__1531 (by omega) (by omega) (by omega) ?_
  refine ww_aload_n dL_law__1532 rfl rfl ?_
  refine ww_iload dL_law__1533 rfl ?_
  refine ww_iconst (v := nI 2) dL_law__1535 (by decide) ?_
  refine ww_iaddN dL_law__1536 ?_
  refine ww_sald dL_law__1537 (by omega) (by omega) (by omega) ?_
  refine ww_aload_n dL_law__1538 rfl rfl ?_
  refine ww_cSXq (M := mLaw nm) (pc := 1539) (As := (.ref 0) :: ([.int (scI Z (7 * i + 1)), .int (scI Z (7 * i + 2))] ++ [.ref 72])) (st := []) (d := D) (bc := bc) (bs := bs) (bc0 := bc + mc) (bs0 := bs + ms) c1 vx_L_lets dL_law__1539 wg_1085 rfl rfl (by omega) (Nat.le_of_ble_eq_true rfl) (by omega) (by omega) (fun h1 q1 => ?_)
  obtain ⟨m1, v, d2, hd2, c3⟩ := c2 h1 q1
  refine ww_sti (lv2 := [.ref (1000000 + 300), .ref 0, .ref 46, .ref 72, .int (nI (7 * i)), .int (nI k), UU]) dL_law__1542 rfl (Nat.le_of_ble_eq_true rfl) rfl ?_
  refine ww_aload_n dL_law__1544 rfl rfl ?_
  refine ww_aload_n dL_law__1545 rfl rfl ?_
  refine ww_iload dL_law__1546 rfl ?_
  refine ww_iconst (v := nI 1) dL_law__1548 (by decide) ?_
  refine ww_iaddN dL_law__1549 ?_
  refine ww_sald dL_law__1550 (by omega) (by omega) (by omega) ?_
  refine ww_aload_n dL_law__1551 rfl rfl ?_
  refine ww_iload dL_law__1552 rfl ?_
  refine ww_iconst (v := nI 2) dL_law__1554 (by decide) ?_
  refine ww_iaddN dL_law__1555 ?_
  refine ww_sald dL_law__1556 (by omega) (by omega) (by omega) ?_
  refine ww_cVq (M := mLaw nm) (pc := 1557) (As := [.int (scI Z (7 * i + 1)), .int (scI Z (7 * i + 2))]) (st := []) (d := D) (bc := bc) (bs := bs) (bc0 := bc) (bs0 := bs) c3 vv_X11_lets dL_law__1557 wg_1701 m1 rfl rfl rfl rfl (by omega) (Nat.le_of_ble_eq_true rfl) (Nat.le_refl _) (Nat.le_refl _) (fun h2 q2 => ?_)
  obtain ⟨g2, m2, t2, k2, e2⟩ := q2
  refine ww_sti (lv2 := [.ref (1000000 + 300), .ref 0, .ref 46, .ref 72, .int (nI (7 * i)), .int (nI k), .int v]) dL_law__1560 rfl (Nat.le_of_ble_eq_true rfl) rfl ?_
  refine ww_aload_n dL_law__1562 rfl rfl ?_
  refine ww_cVr (M := mLaw nm) (pc := 1563) (As := []) (st := []) (d := D) (bc := bc) (bs := bs) (bc0 := bc) (bs0 := bs) (c_M_thrown hst m2 _ t2) vv_X11_thrown dL_law__1563 wg_1222 m2.K0 rfl rfl rfl rfl (by omega) (Nat.le_of_ble_eq_true rfl) (Nat.le_refl _) (Nat.le_refl _) ?_
  refine ww_iload dL_law__1566 rfl ?_
  refine ww_icmp_eq (tgt := 1573) dL_law__1568 (by decide) (fun _ => ?_) (fun q => absurd rfl q)
  refine ww_iload dL_law__1573 rfl ?_
  refine ww_if_neN (tgt := 1590) dL_law__1575 (by decide) (by omega) (fun _ => ?_) (fun k0 => ?_)
  · refine ww_goto (tgt := 2553) dL_law__1590 (by decide) ?_
    exact ww_fg (lv2 := [.ref (1000000 + 300), .ref 0, .ref 46, .ref 72, .int (nI (7 * i)), UU, UU]) ⟨Or.inr rfl, Or.inr rfl, Or.inr rfl, Or.inr rfl, Or.inr rfl, Or.inl rfl, Or.inl rfl, trivial⟩ (kk h2 g2)
  · refine ww_aload_n dL_law__1578 rfl rfl ?_
    refine ww_iconst (v := nI 0) dL_law__1579 (by decide) ?_
    refine ww_laldN dL_law__1580 k2 (by decide) (by decide) ?_
    refine ww_iload dL_law__1581 rfl ?_
    refine ww_i2l dL_law__1583 ?_
    refine ww_lcmp dL_law__1584 ?_
    refine ww_if_eq (tgt := 1590) dL_law__1585 (by decide) (fun _ => ?_) (fun q => absurd (by rw [e2 k0]; exact lg_cmp_self _) q)
    refine ww_goto (tgt := 2553) dL_law__1590 (by decide) ?_
    exact ww_fg (lv2 := [.ref (1000000 + 300), .ref 0, .ref 46, .ref 72, .int (nI (7 * i)), UU, UU]) ⟨Or.inr rfl, Or.inr rfl, Or.inr rfl, Or.inr rfl, Or.inr rfl, Or.inl rfl, Or.inl rfl, trivial⟩ (kk h2 g2)
set_option maxHeartbeats 4000000 in
theorem s_22 {l : Launch} {Z : EE} (hst : l.stackTraces = false) {nm : String} {i : Nat} (hi : 7 * i + 7 ≤ Z.2.2 301) (hL : Z.2.2 301 ≤ 3584) {G : PH → Prop} {h : PH} (h0 : hp_K h 0 = (10, 19)) {d mc ms D bc bs : Nat} (hD : d + 1 ≤ D) {Post : Res → PH → Prop} (hW : StW l Z m_L_tax m_X11_tax d mc ms [.int (scI Z (7 * i + 1)), .int (scI Z (7 * i + 2))] G h)
    (kk : ∀ h2, G h2 → WW l Z (mLaw nm) D bc bs 2553 [.ref (1000000 + 300), .ref 0, .ref 46, .ref 72, .int (nI (7 * i)), UU, UU] [] h2 Post) : WW l Z (mLaw nm) D (bc + mc) (bs + ms) 1593 [.ref (1000000 + 300), .ref 0, .ref 46, .ref 72, .int (nI (7 * i)), UU, UU] [] h Post := by
  obtain ⟨k, Q1, d1, mc1, ms1, ⟨hk, hd1, hm1, hs1⟩, c1, c2⟩ := hW
  refine ww_aload_n dL_law__1593 rfl rfl ?_
  refine ww_aload_n dL_law__1594 rfl rfl ?_
  refine ww_iload dL_law__1595 rfl ?_
  refine ww_iconst (v := nI 1) dL_law__1597 (by decide) ?_
  refine ww_iaddN dL_law__1598 ?_
  refine ww_sald dL_law__1599 (by omega) (by omega) (by omega) ?_
  refine ww_aload_n dL_law__1600 rfl rfl ?_
  refine ww_iload dL_law__1601 rfl ?_
  refine ww_iconst (v := nI 2) dL_law__1603 (by decide) ?_
  refine ww_iaddN dL_law__1604 ?_
  refine ww_sald dL_law__1605 (by omega) (by omega) (by omega) ?_
  refine ww_aload_n dL_law__1606 rfl rfl ?_
  refine ww_cSXq (M := mLaw nm) (pc := 1607) (As := (.ref 0) :: ([.int (scI Z (7 * i + 1)), .int (scI Z (7 * i + 2))] ++ [.ref 72])) (st := []) (d := D) (bc := bc) (bs := bs) (bc0 := bc + mc) (bs0 := bs + ms) c1 vx_L_tax dL_law__1607 wg_1098 rfl rfl (by omega) (Nat.le_of_ble_eq_true rfl) (by omega) (by omega) (fun h1 q1 => ?_)
  obtain ⟨m1, v, d2, hd2, c3⟩ := c2 h1 q1
  refine ww_sti (lv2 := [.ref (1000000 + 300), .ref 0, .ref 46, .ref 72, .int (nI (7 * i)), .int (nI k), UU]) dL_law__1610 rfl (Nat.le_of_ble_eq_true rfl) rfl ?_
  refine ww_aload_n dL_law__1612 rfl rfl ?_
  refine ww_aload_n dL_law__1613 rfl rfl ?_
  refine ww_iload dL_law__1614 rfl ?_
  refine ww_iconst (v := nI 1) dL_law__1616 (by decide) ?_
  refine ww_iaddN dL_law__1617 ?_
  refine ww_sald dL_law__1618 (by omega) (by omega) (by omega) ?_
  refine ww_aload_n dL_law__1619 rfl rfl ?_
  refine ww_iload dL_law__1620 rfl ?_
  refine ww_iconst (v := nI 2) dL_law__1622 (by decide) ?_
  refine ww_iaddN dL_law__1623 ?_
  refine ww_sald dL_law__1624 (by omega) (by omega) (by omega) ?_
  refine ww_cVq (M := mLaw nm) (pc := 1625) (As := [.int (scI Z (7 * i + 1)), .int (scI Z (7 * i + 2))]) (st := []) (d := D) (bc := bc) (bs := bs) (bc0 := bc) (bs0 := bs) c3 vv_X11_tax dL_law__1625 wg_1711 m1 rfl rfl rfl rfl (by omega) (Nat.le_of_ble_eq_true rfl) (Nat.le_refl _) (Nat.le_refl _) (fun h2 q2 => ?_)
  obtain ⟨g2, m2, t2, k2, e2⟩ := q2
  refine ww_sti (lv2 := [.ref (1000000 + 300), .ref 0, .ref 46, .ref 72, .int (nI (7 * i)), .int (nI k), .int v]) dL_law__1628 rfl (Nat.le_of_ble_eq_true rfl) rfl ?_
  refine ww_aload_n dL_law__1630 rfl rfl ?_
  refine ww_cVr (M := mLaw nm) (pc := 1631) (As := []) (st := []) (d := D) (bc := bc) (bs := bs) (bc0 := bc) (bs0 := bs) (c_M_thrown hst m2 _ t2) vv_X11_thrown dL_law__1631 wg_1222 m2.K0 rfl rfl rfl rfl (by omega) (Nat.le_of_ble_eq_true rfl) (Nat.le_refl _) (Nat.le_refl _) ?_
  refine ww_iload dL_law__1634 rfl ?_
  refine ww_icmp_eq (tgt := 1641) dL_law__1636 (by decide) (fun _ => ?_) (fun q => absurd rfl q)
  refine ww_iload dL_law__1641 rfl ?_
  refine ww_if_neN (tgt := 1658) dL_law__1643 (by decide) (by omega) (fun _ => ?_) (fun k0 => ?_)
  · refine ww_goto (tgt := 2553) dL_law__1658 (by decide) ?_
    exact ww_fg (lv2 := [.ref (1000000 + 300), .ref 0, .ref 46, .ref 72, .int (nI (7 * i)), UU, UU]) ⟨Or.inr rfl, Or.inr rfl, Or.inr rfl, Or.inr rfl, Or.inr rfl, Or.inl rfl, Or.inl rfl, trivial⟩ (kk h2 g2)
  · refine ww_aload_n dL_law__1646 rfl rfl ?_
    refine ww_iconst (v := nI 0) dL_law__1647 (by decide) ?_
    refine ww_laldN dL_law__1648 k2 (by decide) (by decide) ?_
    refine ww_iload dL_law__1649 rfl ?_
    refine ww_i2l dL_law__1651 ?_
    refine ww_lcmp dL_law__1652 ?_
    refine ww_if_eq (tgt := 1658) dL_law__1653 (by decide) (fun _ => ?_) (fun q => absurd (by rw [e2 k0]; exact lg_cmp_self _) q)
    refine ww_goto (tgt := 2553) dL_law__1658 (by decide) ?_
    exact ww_fg (lv2 := [.ref (1000000 + 300), .ref 0, .ref 46, .ref 72, .int (nI (7 * i)), UU, UU]) ⟨Or.inr rfl, Or.inr rfl, Or.inr rfl, Or.inr rfl, Or.inr rfl, Or.inl rfl, Or.inl rfl, trivial⟩ (kk h2 g2)
set_option maxHeartbeats 4000000 in
theorem s_23 {l : Launch} {Z : EE} (hst : l.stackTraces = false) {nm : String} {i : Nat} (hi : 7 * i + 7 ≤ Z.2.2 301) (hL : Z.2.2 301 ≤ 3584) {G : PH → Prop} {h : PH} (h0 : hp_K h 0 = (10, 19)) {d mc ms D bc bs : Nat} (hD : d + 1 ≤ D) {Post : Res → PH → Prop} (hW : StW l Z m_L_dearest m_X11_dearest d mc ms [.int (scI Z (7 * i + 1)), .int (scI Z (7 * i + 2)), .int (scI Z (7 * i + 3))] G h)
    (kk : ∀ h2, G h2 → WW l Z (mLaw nm) D bc bs 2553 [.ref (1000000 + 300), .ref 0, .ref 46, .ref 72, .int (nI (7 * i)), UU, UU] [] h2 Post) : WW l Z (mLaw nm) D (bc + mc) (bs + ms) 1661 [.ref (1000000 + 300), .ref 0, .ref 46, .ref 72, .int (nI (7 * i)), UU, UU] [] h Post := by
  obtain ⟨k, Q1, d1, mc1, ms1, ⟨hk, hd1, hm1, hs1⟩, c1, c2⟩ := hW
  refine ww_aload_n dL_law__1661 rfl rfl ?_
  refine ww_aload_n dL_law__1662 rfl rfl ?_
  refine ww_iload dL_law__1663 rfl ?_
  refine ww_iconst (v := nI 1) dL_law__1665 (by decide) ?_
  refine ww_iaddN dL_law__1666 ?_
  refine ww_sald dL_law__1667 (by omega) (by omega) (by omega) ?_
  refine ww_aload_n dL_law__1668 rfl rfl ?_
  refine ww_iload dL_law__1669 rfl ?_
  refine ww_iconst (v := nI 2) dL_law__1671 (by decide) ?_
  refine ww_iaddN dL_law__1672 ?_
  refine ww_sald dL_law__1673 (by omega) (by omega) (by omega) ?_
  refine ww_aload_n dL_law__1674 rfl rfl ?_
  refine ww_iload dL_law__1675 rfl ?_
  refine ww_iconst (v := nI 3) dL_law__1677 (by decide) ?_
  refine ww_iaddN dL_law__1678 ?_
  refine ww_sald dL_law__1679 (by omega) (by omega) (by omega) ?_
  refine ww_aload_n dL_law__1680 rfl rfl ?_
  refine ww_cSXq (M := mLaw nm) (pc := 1681) (As := (.ref 0) :: ([.int (scI Z (7 * i + 1)), .int (scI Z (7 * i + 2)), .int (scI Z (7 * i + 3))] ++ [.ref 72])) (st := []) (d := D) (bc := bc) (bs := bs) (bc0 := bc + mc) (bs0 := bs + ms) c1 vx_L_dearest dL_law__1681 wg_1106 rfl rfl (by omega) (Nat.le_of_ble_eq_true rfl) (by omega) (by omega) (fun h1 q1 => ?_)
  obtain ⟨m1, v, d2, hd2, c3⟩ := c2 h1 q1
  refine ww_sti (lv2 := [.ref (1000000 + 300), .ref 0, .ref 46, .ref 72, .int (nI (7 * i)), .int (nI k), UU]) dL_law__1684 rfl (Nat.le_of_ble_eq_true rfl) rfl ?_
  refine ww_aload_n dL_law__1686 rfl rfl ?_
  refine ww_aload_n dL_law__1687 rfl rfl ?_
  refine ww_iload dL_law__1688 rfl ?_
  refine ww_iconst (v := nI 1) dL_law__1690 (by decide) ?_
  refine ww_iaddN dL_law__1691 ?_
  refine ww_sald dL_law__1692 (by omega) (by omega) (by omega) ?_
  refine ww_aload_n dL_law__1693 rfl rfl ?_
  refine ww_iload dL_law__1694 rfl ?_
  refine ww_iconst (v := nI 2) dL_law__1696 (by decide) ?_
  refine ww_iaddN dL_law__1697 ?_
  refine ww_sald dL_law__1698 (by omega) (by omega) (by omega) ?_
  refine ww_aload_n dL_law__1699 rfl rfl ?_
  refine ww_iload dL_law__1700 rfl ?_
  refine ww_iconst (v := nI 3) dL_law__1702 (by decide) ?_
  refine ww_iaddN dL_law__1703 ?_
  refine ww_sald dL_law__1704 (by omega) (by omega) (by omega) ?_
  refine ww_cVq (M := mLaw nm) (pc := 1705) (As := [.int (scI Z (7 * i + 1)), .int (scI Z (7 * i + 2)), .int (scI Z (7 * i + 3))]) (st := []) (d := D) (bc := bc) (bs := bs) (bc0 := bc) (bs0 := bs) c3 vv_X11_dearest dL_law__1705 wg_1719 m1 rfl rfl rfl rfl (by omega) (Nat.le_of_ble_eq_true rfl) (Nat.le_refl _) (Nat.le_refl _) (fun h2 q2 => ?_)
  obtain ⟨g2, m2, t2, k2, e2⟩ := q2
  refine ww_sti (lv2 := [.ref (1000000 + 300), .ref 0, .ref 46, .ref 72, .int (nI (7 * i)), .int (nI k), .int v]) dL_law__1708 rfl (Nat.le_of_ble_eq_true rfl) rfl ?_
  refine ww_aload_n dL_law__1710 rfl rfl ?_
  refine ww_cVr (M := mLaw nm) (pc := 1711) (As := []) (st := []) (d := D) (bc := bc) (bs := bs) (bc0 := bc) (bs0 := bs) (c_M_thrown hst m2 _ t2) vv_X11_thrown dL_law__1711 wg_1222 m2.K0 rfl rfl rfl rfl (by omega) (Nat.le_of_ble_eq_true rfl) (Nat.le_refl _) (Nat.le_refl _) ?_
  refine ww_iload dL_law__1714 rfl ?_
  refine ww_icmp_eq (tgt := 1721) dL_law__1716 (by decide) (fun _ => ?_) (fun q => absurd rfl q)
  refine ww_iload dL_law__1721 rfl ?_
  refine ww_if_neN (tgt := 1738) dL_law__1723 (by decide) (by omega) (fun _ => ?_) (fun k0 => ?_)
  · refine ww_goto (tgt := 2553) dL_law__1738 (by decide) ?_
    exact ww_fg (lv2 := [.ref (1000000 + 300), .ref 0, .ref 46, .ref 72, .int (nI (7 * i)), UU, UU]) ⟨Or.inr rfl, Or.inr rfl, Or.inr rfl, Or.inr rfl, Or.inr rfl, Or.inl rfl, Or.inl rfl, trivial⟩ (kk h2 g2)
  · refine ww_aload_n dL_law__1726 rfl rfl ?_
    refine ww_iconst (v := nI 0) dL_law__1727 (by decide) ?_
    refine ww_laldN dL_law__1728 k2 (by decide) (by decide) ?_
    refine ww_iload dL_law__1729 rfl ?_
    refine ww_i2l dL_law__1731 ?_
    refine ww_lcmp dL_law__1732 ?_
    refine ww_if_eq (tgt := 1738) dL_law__1733 (by decide) (fun _ => ?_) (fun q => absurd (by rw [e2 k0]; exact lg_cmp_self _) q)
    refine ww_goto (tgt := 2553) dL_law__1738 (by decide) ?_
    exact ww_fg (lv2 := [.ref (1000000 + 300), .ref 0, .ref 46, .ref 72, .int (nI (7 * i)), UU, UU]) ⟨Or.inr rfl, Or.inr rfl, Or.inr rfl, Or.inr rfl, Or.inr rfl, Or.inl rfl, Or.inl rfl, trivial⟩ (kk h2 g2)
set_option maxHeartbeats 4000000 in
theorem s_24 {l : Launch} {Z : EE} (hst : l.stackTraces = false) {nm : String} {i : Nat} (hi : 7 * i + 7 ≤ Z.2.2 301) (hL : Z.2.2 301 ≤ 3584) {G : PH → Prop} {h : PH} (h0 : hp_K h 0 = (10, 19)) {d mc ms D bc bs : Nat} (hD : d + 1 ≤ D) {Post : Res → PH → Prop} (hW : StW l Z m_L_landlord m_X11_landlord d mc ms [.int (scI Z (7 * i + 1))] G h)
    (kk : ∀ h2, G h2 → WW l Z (mLaw nm) D bc bs 2553 [.ref (1000000 + 300), .ref 0, .ref 46, .ref 72, .int (nI (7 * i)), UU, UU] [] h2 Post) : WW l Z (mLaw nm) D (bc + mc) (bs + ms) 1741 [.ref (1000000 + 300), .ref 0, .ref 46, .ref 72, .int (nI (7 * i)), UU, UU] [] h Post := by
  obtain ⟨k, Q1, d1, mc1, ms1, ⟨hk, hd1, hm1, hs1⟩, c1, c2⟩ := hW
  refine ww_aload_n dL_law__1741 rfl rfl ?_
  refine ww_aload_n dL_law__1742 rfl rfl ?_
  refine ww_iload dL_law__1743 rfl ?_
  refine ww_iconst (v := nI 1) dL_law__1745 (by decide) ?_
  refine ww_iaddN dL_law__1746 ?_
  refine ww_sald dL_law__1747 (by omega) (by omega) (by omega) ?_
  refine ww_aload_n dL_law__1748 rfl rfl ?_
  refine ww_cSXq (M := mLaw nm) (pc := 1749) (As := (.ref 0) :: ([.int (scI Z (7 * i + 1))] ++ [.ref 72])) (st := []) (d := D) (bc := bc) (bs := bs) (bc0 := bc + mc) (bs0 := bs + ms) c1 vx_L_landlord dL_law__1749 wg_1113 rfl rfl (by omega) (Nat.le_of_ble_eq_true rfl) (by omega) (by omega) (fun h1 q1 => ?_)
  obtain ⟨m1, v, d2, hd2, c3⟩ := c2 h1 q1
  refine ww_sti (lv2 := [.ref (1000000 + 300), .ref 0, .ref 46, .ref 72, .int (nI (7 * i)), .int (nI k), UU]) dL_law__1752 rfl (Nat.le_of_ble_eq_true rfl) rfl ?_
  refine ww_aload_n dL_law__1754 rfl rfl ?_
  refine ww_aload_n dL_law__1755 rfl rfl ?_
  refine ww_iload dL_law__1756 rfl ?_
  refine ww_iconst (v := nI 1) dL_law__1758 (by decide) ?_
  refine ww_iaddN dL_law__1759 ?_
  refine ww_sald dL_law__1760 (by omega) (by omega) (by omega) ?_
  refine ww_cVq (M := mLaw nm) (pc := 1761) (As := [.int (scI Z (7 * i + 1))]) (st := []) (d := D) (bc := bc) (bs := bs) (bc0 := bc) (bs0 := bs) c3 vv_X11_landlord dL_law__1761 wg_1723 m1 rfl rfl rfl rfl (by omega) (Nat.le_of_ble_eq_true rfl) (Nat.le_refl _) (Nat.le_refl _) (fun h2 q2 => ?_)
  obtain ⟨g2, m2, t2, k2, e2⟩ := q2
  refine ww_sti (lv2 := [.ref (1000000 + 300), .ref 0, .ref 46, .ref 72, .int (nI (7 * i)), .int (nI k), .int v]) dL_law__1764 rfl (Nat.le_of_ble_eq_true rfl) rfl ?_
  refine ww_aload_n dL_law__1766 rfl rfl ?_
  refine ww_cVr (M := mLaw nm) (pc := 1767) (As := []) (st := []) (d := D) (bc := bc) (bs := bs) (bc0 := bc) (bs0 := bs) (c_M_thrown hst m2 _ t2) vv_X11_thrown dL_law__1767 wg_1222 m2.K0 rfl rfl rfl rfl (by omega) (Nat.le_of_ble_eq_true rfl) (Nat.le_refl _) (Nat.le_refl _) ?_
  refine ww_iload dL_law__1770 rfl ?_
  refine ww_icmp_eq (tgt := 1777) dL_law__1772 (by decide) (fun _ => ?_) (fun q => absurd rfl q)
  refine ww_iload dL_law__1777 rfl ?_
  refine ww_if_neN (tgt := 1794) dL_law__1779 (by decide) (by omega) (fun _ => ?_) (fun k0 => ?_)
  · refine ww_goto (tgt := 2553) dL_law__1794 (by decide) ?_
    exact ww_fg (lv2 := [.ref (1000000 + 300), .ref 0, .ref 46, .ref 72, .int (nI (7 * i)), UU, UU]) ⟨Or.inr rfl, Or.inr rfl, Or.inr rfl, Or.inr rfl, Or.inr rfl, Or.inl rfl, Or.inl rfl, trivial⟩ (kk h2 g2)
  · refine ww_aload_n dL_law__1782 rfl rfl ?_
    refine ww_iconst (v := nI 0) dL_law__1783 (by decide) ?_
    refine ww_laldN dL_law__1784 k2 (by decide) (by decide) ?_
    refine ww_iload dL_law__1785 rfl ?_
    refine ww_i2l dL_law__1787 ?_
    refine ww_lcmp dL_law__1788 ?_
    refine ww_if_eq (tgt := 1794) dL_law__1789 (by decide) (fun _ => ?_) (fun q => absurd (by rw [e2 k0]; exact lg_cmp_self _) q)
    refine ww_goto (tgt := 2553) dL_law__1794 (by decide) ?_
    exact ww_fg (lv2 := [.ref (1000000 + 300), .ref 0, .ref 46, .ref 72, .int (nI (7 * i)), UU, UU]) ⟨Or.inr rfl, Or.inr rfl, Or.inr rfl, Or.inr rfl, Or.inr rfl, Or.inl rfl, Or.inl rfl, trivial⟩ (kk h2 g2)
set_option maxHeartbeats 4000000 in
theorem s_25 {l : Launch} {Z : EE} (hst : l.stackTraces = false) {nm : String} {i : Nat} (hi : 7 * i + 7 ≤ Z.2.2 301) (hL : Z.2.2 301 ≤ 3584) {G : PH → Prop} {h : PH} (h0 : hp_K h 0 = (10, 19)) {d mc ms D bc bs : Nat} (hD : d + 1 ≤ D) {Post : Res → PH → Prop} (hW : StW l Z m_L_common m_X11_common d mc ms [.int (scI Z (7 * i + 1))] G h)
    (kk : ∀ h2, G h2 → WW l Z (mLaw nm) D bc bs 2553 [.ref (1000000 + 300), .ref 0, .ref 46, .ref 72, .int (nI (7 * i)), UU, UU] [] h2 Post) : WW l Z (mLaw nm) D (bc + mc) (bs + ms) 1797 [.ref (1000000 + 300), .ref 0, .ref 46, .ref 72, .int (nI (7 * i)), UU, UU] [] h Post := by
  obtain ⟨k, Q1, d1, mc1, ms1, ⟨hk, hd1, hm1, hs1⟩, c1, c2⟩ := hW
  refine ww_aload_n dL_law__1797 rfl rfl ?_
  refine ww_aload_n dL_law__1798 rfl rfl ?_
  refine ww_iload dL_law__1799 rfl ?_
  refine ww_iconst (v := nI 1) dL_law__1801 (by decide) ?_
  refine ww_iaddN dL_law__1802 ?_
  refine ww_sald dL_law__1803 (by omega) (by omega) (by omega) ?_
  refine ww_aload_n dL_law__1804 rfl rfl ?_
  refine ww_cSXq (M := mLaw nm) (pc := 1805) (As := (.ref 0) :: ([.int (scI Z (7 * i + 1))] ++ [.ref 72])) (st := []) (d := D) (bc := bc) (bs := bs) (bc0 := bc + mc) (bs0 := bs + ms) c1 vx_L_common dL_law__1805 wg_1120 rfl rfl (by omega) (Nat.le_of_ble_eq_true rfl) (by omega) (by omega) (fun h1 q1 => ?_)
  obtain ⟨m1, v, d2, hd2, c3⟩ := c2 h1 q1
  refine ww_sti (lv2 := [.ref (1000000 + 300), .ref 0, .ref 46, .ref 72, .int (nI (7 * i)), .int (nI k), UU]) dL_law__1808 rfl (Nat.le_of_ble_eq_true rfl) rfl ?_
  refine ww_aload_n dL_law__1810 rfl rfl ?_
  refine ww_aload_n dL_law__1811 rfl rfl ?_
  refine ww_iload dL_law__1812 rfl ?_
  refine ww_iconst (v := nI 1) dL_law__1814 (by decide) ?_
  refine ww_iaddN dL_law__1815 ?_
  refine ww_sald dL_law__1816 (by omega) (by omega) (by omega) ?_
  refine ww_cVq (M := mLaw nm) (pc := 1817) (As := [.int (scI Z (7 * i + 1))]) (st := []) (d := D) (bc := bc) (bs := bs) (bc0 := bc) (bs0 := bs) c3 vv_X11_common dL_law__1817 wg_1727 m1 rfl rfl rfl rfl (by omega) (Nat.le_of_ble_eq_true rfl) (Nat.le_refl _) (Nat.le_refl _) (fun h2 q2 => ?_)
  obtain ⟨g2, m2, t2, k2, e2⟩ := q2
  refine ww_sti (lv2 := [.ref (1000000 + 300), .ref 0, .ref 46, .ref 72, .int (nI (7 * i)), .int (nI k), .int v]) dL_law__1820 rfl (Nat.le_of_ble_eq_true rfl) rfl ?_
  refine ww_aload_n dL_law__1822 rfl rfl ?_
  refine ww_cVr (M := mLaw nm) (pc := 1823) (As := []) (st := []) (d := D) (bc := bc) (bs := bs) (bc0 := bc) (bs0 := bs) (c_M_thrown hst m2 _ t2) vv_X11_thrown dL_law__1823 wg_1222 m2.K0 rfl rfl rfl rfl (by omega) (Nat.le_of_ble_eq_true rfl) (Nat.le_refl _) (Nat.le_refl _) ?_
  refine ww_iload dL_law__1826 rfl ?_
  refine ww_icmp_eq (tgt := 1833) dL_law__1828 (by decide) (fun _ => ?_) (fun q => absurd rfl q)
  refine ww_iload dL_law__1833 rfl ?_
  refine ww_if_neN (tgt := 1850) dL_law__1835 (by decide) (by omega) (fun _ => ?_) (fun k0 => ?_)
  · refine ww_goto (tgt := 2553) dL_law__1850 (by decide) ?_
    exact ww_fg (lv2 := [.ref (1000000 + 300), .ref 0, .ref 46, .ref 72, .int (nI (7 * i)), UU, UU]) ⟨Or.inr rfl, Or.inr rfl, Or.inr rfl, Or.inr rfl, Or.inr rfl, Or.inl rfl, Or.inl rfl, trivial⟩ (kk h2 g2)
  · refine ww_aload_n dL_law__1838 rfl rfl ?_
    refine ww_iconst (v := nI 0) dL_law__1839 (by decide) ?_
    refine ww_laldN dL_law__1840 k2 (by decide) (by decide) ?_
    refine ww_iload dL_law__1841 rfl ?_
    refine ww_i2l dL_law__1843 ?_
    refine ww_lcmp dL_law__1844 ?_
    refine ww_if_eq (tgt := 1850) dL_law__1845 (by decide) (fun _ => ?_) (fun q => absurd (by rw [e2 k0]; exact lg_cmp_self _) q)
    refine ww_goto (tgt := 2553) dL_law__1850 (by decide) ?_
    exact ww_fg (lv2 := [.ref (1000000 + 300), .ref 0, .ref 46, .ref 72, .int (nI (7 * i)), UU, UU]) ⟨Or.inr rfl, Or.inr rfl, Or.inr rfl, Or.inr rfl, Or.inr rfl, Or.inl rfl, Or.inl rfl, trivial⟩ (kk h2 g2)
set_option maxHeartbeats 4000000 in
theorem s_26 {l : Launch} {Z : EE} (hst : l.stackTraces = false) {nm : String} {i : Nat} (hi : 7 * i + 7 ≤ Z.2.2 301) (hL : Z.2.2 301 ≤ 3584) {G : PH → Prop} {h : PH} (h0 : hp_K h 0 = (10, 19)) {d mc ms D bc bs : Nat} (hD : d + 1 ≤ D) {Post : Res → PH → Prop} (hW : StW l Z m_L_affords m_X11_affords d mc ms [.int (scI Z (7 * i + 1)), .int (scI Z (7 * i + 2)), .int (scI Z (7 * i + 3))] G h)
    (kk : ∀ h2, G h2 → WW l Z (mLaw nm) D bc bs 2553 [.ref (1000000 + 300), .ref 0, .ref 46, .ref 72, .int (nI (7 * i)), UU, UU] [] h2 Post) : WW l Z (mLaw nm) D (bc + mc) (bs + ms) 1853 [.ref (1000000 + 300), .ref 0, .ref 46, .ref 72, .int (nI (7 * i)), UU, UU] [] h Post := by
  obtain ⟨k, Q1, d1, mc1, ms1, ⟨hk, hd1, hm1, hs1⟩, c1, c2⟩ := hW
  refine ww_aload_n dL_law__1853 rfl rfl ?_
  refine ww_aload_n dL_law__1854 rfl rfl ?_
  refine ww_iload dL_law__1855 rfl ?_
  refine ww_iconst (v := nI 1) dL_law__1857 (by decide) ?_
  refine ww_iaddN dL_law__1858 ?_
  refine ww_sald dL_law__1859 (by omega) (by omega) (by omega) ?_
  refine ww_aload_n dL_law__1860 rfl rfl ?_
  refine ww_iload dL_law__1861 rfl ?_
  refine ww_iconst (v := nI 2) dL_law__1863 (by decide) ?_
  refine ww_iaddN dL_law__1864 ?_
  refine ww_sald dL_law__1865 (by omega) (by omega) (by omega) ?_
  refine ww_aload_n dL_law__1866 rfl rfl ?_
  refine ww_iload dL_law__1867 rfl ?_
  refine ww_iconst (v := nI 3) dL_law__1869 (by decide) ?_
  refine ww_iaddN dL_law__1870 ?_
  refine ww_sald dL_law__1871 (by omega) (by omega) (by omega) ?_
  refine ww_aload_n dL_law__1872 rfl rfl ?_
  refine ww_cSXq (M := mLaw nm) (pc := 1873) (As := (.ref 0) :: ([.int (scI Z (7 * i + 1)), .int (scI Z (7 * i + 2)), .int (scI Z (7 * i + 3))] ++ [.ref 72])) (st := []) (d := D) (bc := bc) (bs := bs) (bc0 := bc + mc) (bs0 := bs + ms) c1 vx_L_affords dL_law__1873 wg_1127 rfl rfl (by omega) (Nat.le_of_ble_eq_true rfl) (by omega) (by omega) (fun h1 q1 => ?_)
  obtain ⟨m1, v, d2, hd2, c3⟩ := c2 h1 q1
  refine ww_sti (lv2 := [.ref (1000000 + 300), .ref 0, .ref 46, .ref 72, .int (nI (7 * i)), .int (nI k), UU]) dL_law__1876 rfl (Nat.le_of_ble_eq_true rfl) rfl ?_
  refine ww_aload_n dL_law__1878 rfl rfl ?_
  refine ww_aload_n dL_law__1879 rfl rfl ?_
  refine ww_iload dL_law__1880 rfl ?_
  refine ww_iconst (v := nI 1) dL_law__1882 (by decide) ?_
  refine ww_iaddN dL_law__1883 ?_
  refine ww_sald dL_law__1884 (by omega) (by omega) (by omega) ?_
  refine ww_aload_n dL_law__1885 rfl rfl ?_
  refine ww_iload dL_law__1886 rfl ?_
  refine ww_iconst (v := nI 2) dL_law__1888 (by decide) ?_
  refine ww_iaddN dL_law__1889 ?_
  refine ww_sald dL_law__1890 (by omega) (by omega) (by omega) ?_
  refine ww_aload_n dL_law__1891 rfl rfl ?_
  refine ww_iload dL_law__1892 rfl ?_
  refine ww_iconst (v := nI 3) dL_law__1894 (by decide) ?_
  refine ww_iaddN dL_law__1895 ?_
  refine ww_sald dL_law__1896 (by omega) (by omega) (by omega) ?_
  refine ww_cVq (M := mLaw nm) (pc := 1897) (As := [.int (scI Z (7 * i + 1)), .int (scI Z (7 * i + 2)), .int (scI Z (7 * i + 3))]) (st := []) (d := D) (bc := bc) (bs := bs) (bc0 := bc) (bs0 := bs) c3 vv_X11_affords dL_law__1897 wg_1731 m1 rfl rfl rfl rfl (by omega) (Nat.le_of_ble_eq_true rfl) (Nat.le_refl _) (Nat.le_refl _) (fun h2 q2 => ?_)
  obtain ⟨g2, m2, t2, k2, e2⟩ := q2
  refine ww_sti (lv2 := [.ref (1000000 + 300), .ref 0, .ref 46, .ref 72, .int (nI (7 * i)), .int (nI k), .int v]) dL_law__1900 rfl (Nat.le_of_ble_eq_true rfl) rfl ?_
  refine ww_aload_n dL_law__1902 rfl rfl ?_
  refine ww_cVr (M := mLaw nm) (pc := 1903) (As := []) (st := []) (d := D) (bc := bc) (bs := bs) (bc0 := bc) (bs0 := bs) (c_M_thrown hst m2 _ t2) vv_X11_thrown dL_law__1903 wg_1222 m2.K0 rfl rfl rfl rfl (by omega) (Nat.le_of_ble_eq_true rfl) (Nat.le_refl _) (Nat.le_refl _) ?_
  refine ww_iload dL_law__1906 rfl ?_
  refine ww_icmp_eq (tgt := 1913) dL_law__1908 (by decide) (fun _ => ?_) (fun q => absurd rfl q)
  refine ww_iload dL_law__1913 rfl ?_
  refine ww_if_neN (tgt := 1930) dL_law__1915 (by decide) (by omega) (fun _ => ?_) (fun k0 => ?_)
  · refine ww_goto (tgt := 2553) dL_law__1930 (by decide) ?_
    exact ww_fg (lv2 := [.ref (1000000 + 300), .ref 0, .ref 46, .ref 72, .int (nI (7 * i)), UU, UU]) ⟨Or.inr rfl, Or.inr rfl, Or.inr rfl, Or.inr rfl, Or.inr rfl, Or.inl rfl, Or.inl rfl, trivial⟩ (kk h2 g2)
  · refine ww_aload_n dL_law__1918 rfl rfl ?_
    refine ww_iconst (v := nI 0) dL_law__1919 (by decide) ?_
    refine ww_laldN dL_law__1920 k2 (by decide) (by decide) ?_
    refine ww_iload dL_law__1921 rfl ?_
    refine ww_i2l dL_law__1923 ?_
    refine ww_lcmp dL_law__1924 ?_
    refine ww_if_eq (tgt := 1930) dL_law__1925 (by decide) (fun _ => ?_) (fun q => absurd (by rw [e2 k0]; exact lg_cmp_self _) q)
    refine ww_goto (tgt := 2553) dL_law__1930 (by decide) ?_
    exact ww_fg (lv2 := [.ref (1000000 + 300), .ref 0, .ref 46, .ref 72, .int (nI (7 * i)), UU, UU]) ⟨Or.inr rfl, Or.inr rfl, Or.inr rfl, Or.inr rfl, Or.inr rfl, Or.inl rfl, Or.inl rfl, trivial⟩ (kk h2 g2)
set_option maxHeartbeats 4000000 in
theorem s_27 {l : Launch} {Z : EE} (hst : l.stackTraces = false) {nm : String} {i : Nat} (hi : 7 * i + 7 ≤ Z.2.2 301) (hL : Z.2.2 301 ≤ 3584) {G : PH → Prop} {h : PH} (h0 : hp_K h 0 = (10, 19)) {d mc ms D bc bs : Nat} (hD : d + 1 ≤ D) {Post : Res → PH → Prop} (hW : StW l Z m_L_worth m_X11_worth d mc ms [.int (scI Z (7 * i + 1))] G h)
    (kk : ∀ h2, G h2 → WW l Z (mLaw nm) D bc bs 2553 [.ref (1000000 + 300), .ref 0, .ref 46, .ref 72, .int (nI (7 * i)), UU, UU] [] h2 Post) : WW l Z (mLaw nm) D (bc + mc) (bs + ms) 1933 [.ref (1000000 + 300), .ref 0, .ref 46, .ref 72, .int (nI (7 * i)), UU, UU] [] h Post := by
  obtain ⟨k, Q1, d1, mc1, ms1, ⟨hk, hd1, hm1, hs1⟩, c1, c2⟩ := hW
  refine ww_aload_n dL_law__1933 rfl rfl ?_
  refine ww_aload_n dL_law__1934 rfl rfl ?_
  refine ww_iload dL_law__1935 rfl ?_
  refine ww_iconst (v := nI 1) dL_law__1937 (by decide) ?_
  refine ww_iaddN dL_law__1938 ?_
  refine ww_sald dL_law__1939 (by omega) (by omega) (by omega) ?_
  refine ww_aload_n dL_law__1940 rfl rfl ?_
  refine ww_cSXq (M := mLaw nm) (pc := 1941) (As := (.ref 0) :: ([.int (scI Z (7 * i + 1))] ++ [.ref 72])) (st := []) (d := D) (bc := bc) (bs := bs) (bc0 := bc + mc) (bs0 := bs + ms) c1 vx_L_worth dL_law__1941 wg_1134 rfl rfl (by omega) (Nat.le_of_ble_eq_true rfl) (by omega) (by omega) (fun h1 q1 => ?_)
  obtain ⟨m1, v, d2, hd2, c3⟩ := c2 h1 q1
  refine ww_sti (lv2 := [.ref (1000000 + 300), .ref 0, .ref 46, .ref 72, .int (nI (7 * i)), .int (nI k), UU]) dL_law__1944 rfl (Nat.le_of_ble_eq_true rfl) rfl ?_
  refine ww_aload_n dL_law__1946 rfl rfl ?_
  refine ww_aload_n dL_law__1947 rfl rfl ?_
  refine ww_iload dL_law__1948 rfl ?_
  refine ww_iconst (v := nI 1) dL_law__1950 (by decide) ?_
  refine ww_iaddN dL_law__1951 ?_
  refine ww_sald dL_law__1952 (by omega) (by omega) (by omega) ?_
  refine ww_cVq (M := mLaw nm) (pc := 1953) (As := [.int (scI Z (7 * i + 1))]) (st := []) (d := D) (bc := bc) (bs := bs) (bc0 := bc) (bs0 := bs) c3 vv_X11_worth dL_law__1953 wg_1735 m1 rfl rfl rfl rfl (by omega) (Nat.le_of_ble_eq_true rfl) (Nat.le_refl _) (Nat.le_refl _) (fun h2 q2 => ?_)
  obtain ⟨g2, m2, t2, k2, e2⟩ := q2
  refine ww_sti (lv2 := [.ref (1000000 + 300), .ref 0, .ref 46, .ref 72, .int (nI (7 * i)), .int (nI k), .int v]) dL_law__1956 rfl (Nat.le_of_ble_eq_true rfl) rfl ?_
  refine ww_aload_n dL_law__1958 rfl rfl ?_
  refine ww_cVr (M := mLaw nm) (pc := 1959) (As := []) (st := []) (d := D) (bc := bc) (bs := bs) (bc0 := bc) (bs0 := bs) (c_M_thrown hst m2 _ t2) vv_X11_thrown dL_law__1959 wg_1222 m2.K0 rfl rfl rfl rfl (by omega) (Nat.le_of_ble_eq_true rfl) (Nat.le_refl _) (Nat.le_refl _) ?_
  refine ww_iload dL_law__1962 rfl ?_
  refine ww_icmp_eq (tgt := 1969) dL_law__1964 (by decide) (fun _ => ?_) (fun q => absurd rfl q)
  refine ww_iload dL_law__1969 rfl ?_
  refine ww_if_neN (tgt := 1986) dL_law__1971 (by decide) (by omega) (fun _ => ?_) (fun k0 => ?_)
  · refine ww_goto (tgt := 2553) dL_law__1986 (by decide) ?_
    exact ww_fg (lv2 := [.ref (1000000 + 300), .ref 0, .ref 46, .ref 72, .int (nI (7 * i)), UU, UU]) ⟨Or.inr rfl, Or.inr rfl, Or.inr rfl, Or.inr rfl, Or.inr rfl, Or.inl rfl, Or.inl rfl, trivial⟩ (kk h2 g2)
  · refine ww_aload_n dL_law__1974 rfl rfl ?_
    refine ww_iconst (v := nI 0) dL_law__1975 (by decide) ?_
    refine ww_laldN dL_law__1976 k2 (by decide) (by decide) ?_
    refine ww_iload dL_law__1977 rfl ?_
    refine ww_i2l dL_law__1979 ?_
    refine ww_lcmp dL_law__1980 ?_
    refine ww_if_eq (tgt := 1986) dL_law__1981 (by decide) (fun _ => ?_) (fun q => absurd (by rw [e2 k0]; exact lg_cmp_self _) q)
    refine ww_goto (tgt := 2553) dL_law__1986 (by decide) ?_
    exact ww_fg (lv2 := [.ref (1000000 + 300), .ref 0, .ref 46, .ref 72, .int (nI (7 * i)), UU, UU]) ⟨Or.inr rfl, Or.inr rfl, Or.inr rfl, Or.inr rfl, Or.inr rfl, Or.inl rfl, Or.inl rfl, trivial⟩ (kk h2 g2)
set_option maxHeartbeats 4000000 in
theorem s_28 {l : Launch} {Z : EE} (hst : l.stackTraces = false) {nm : String} {i : Nat} (hi : 7 * i + 7 ≤ Z.2.2 301) (hL : Z.2.2 301 ≤ 3584) {G : PH → Prop} {h : PH} (h0 : hp_K h 0 = (10, 19)) {d mc ms D bc bs : Nat} (hD : d + 1 ≤ D) {Post : Res → PH → Prop} (hW : StW l Z m_L_run m_X11_run d mc ms [.int (scI Z (7 * i + 1)), .int (scI Z (7 * i + 2))] G h)
    (kk : ∀ h2, G h2 → WW l Z (mLaw nm) D bc bs 2553 [.ref (1000000 + 300), .ref 0, .ref 46, .ref 72, .int (nI (7 * i)), UU, UU] [] h2 Post) : WW l Z (mLaw nm) D (bc + mc) (bs + ms) 1989 [.ref (1000000 + 300), .ref 0, .ref 46, .ref 72, .int (nI (7 * i)), UU, UU] [] h Post := by
  obtain ⟨k, Q1, d1, mc1, ms1, ⟨hk, hd1, hm1, hs1⟩, c1, c2⟩ := hW
  refine ww_aload_n dL_law__1989 rfl rfl ?_
  refine ww_aload_n dL_law__1990 rfl rfl ?_
  refine ww_iload dL_law__1991 rfl ?_
  refine ww_iconst (v := nI 1) dL_law__1993 (by decide) ?_
  refine ww_iaddN dL_law__1994 ?_
  refine ww_sald dL_law__1995 (by omega) (by omega) (by omega) ?_
  refine ww_aload_n dL_law__1996 rfl rfl ?_
  refine ww_iload dL_law__1997 rfl ?_
  refine ww_iconst (v := nI 2) dL_law__1999 (by decide) ?_
  refine ww_iaddN dL_law__2000 ?_
  refine ww_sald dL_law__2001 (by omega) (by omega) (by omega) ?_
  refine ww_aload_n dL_law__2002 rfl rfl ?_
  refine ww_cSXq (M := mLaw nm) (pc := 2003) (As := (.ref 0) :: ([.int (scI Z (7 * i + 1)), .int (scI Z (7 * i + 2))] ++ [.ref 72])) (st := []) (d := D) (bc := bc) (bs := bs) (bc0 := bc + mc) (bs0 := bs + ms) c1 vx_L_run dL_law__2003 wg_1142 rfl rfl (by omega) (Nat.le_of_ble_eq_true rfl) (by omega) (by omega) (fun h1 q1 => ?_)
  obtain ⟨m1, v, d2, hd2, c3⟩ := c2 h1 q1
  refine ww_sti (lv2 := [.ref (1000000 + 300), .ref 0, .ref 46, .ref 72, .int (nI (7 * i)), .int (nI k), UU]) dL_law__2006 rfl (Nat.le_of_ble_eq_true rfl) rfl ?_
  refine ww_aload_n dL_law__2008 rfl rfl ?_
  refine ww_aload_n dL_law__2009 rfl rfl ?_
  refine ww_iload dL_law__2010 rfl ?_
  refine ww_iconst (v := nI 1) dL_law__2012 (by decide) ?_
  refine ww_iaddN dL_law__2013 ?_
  refine ww_sald dL_law__2014 (by omega) (by omega) (by omega) ?_
  refine ww_aload_n dL_law__2015 rfl rfl ?_
  refine ww_iload dL_law__2016 rfl ?_
  refine ww_iconst (v := nI 2) dL_law__2018 (by decide) ?_
  refine ww_iaddN dL_law__2019 ?_
  refine ww_sald dL_law__2020 (by omega) (by omega) (by omega) ?_
  refine ww_cVq (M := mLaw nm) (pc := 2021) (As := [.int (scI Z (7 * i + 1)), .int (scI Z (7 * i + 2))]) (st := []) (d := D) (bc := bc) (bs := bs) (bc0 := bc) (bs0 := bs) c3 vv_X11_run dL_law__2021 wg_1739 m1 rfl rfl rfl rfl (by omega) (Nat.le_of_ble_eq_true rfl) (Nat.le_refl _) (Nat.le_refl _) (fun h2 q2 => ?_)
  obtain ⟨g2, m2, t2, k2, e2⟩ := q2
  refine ww_sti (lv2 := [.ref (1000000 + 300), .ref 0, .ref 46, .ref 72, .int (nI (7 * i)), .int (nI k), .int v]) dL_law__2024 rfl (Nat.le_of_ble_eq_true rfl) rfl ?_
  refine ww_aload_n dL_law__2026 rfl rfl ?_
  refine ww_cVr (M := mLaw nm) (pc := 2027) (As := []) (st := []) (d := D) (bc := bc) (bs := bs) (bc0 := bc) (bs0 := bs) (c_M_thrown hst m2 _ t2) vv_X11_thrown dL_law__2027 wg_1222 m2.K0 rfl rfl rfl rfl (by omega) (Nat.le_of_ble_eq_true rfl) (Nat.le_refl _) (Nat.le_refl _) ?_
  refine ww_iload dL_law__2030 rfl ?_
  refine ww_icmp_eq (tgt := 2037) dL_law__2032 (by decide) (fun _ => ?_) (fun q => absurd rfl q)
  refine ww_iload dL_law__2037 rfl ?_
  refine ww_if_neN (tgt := 2054) dL_law__2039 (by decide) (by omega) (fun _ => ?_) (fun k0 => ?_)
  · refine ww_goto (tgt := 2553) dL_law__2054 (by decide) ?_
    exact ww_fg (lv2 := [.ref (1000000 + 300), .ref 0, .ref 46, .ref 72, .int (nI (7 * i)), UU, UU]) ⟨Or.inr rfl, Or.inr rfl, Or.inr rfl, Or.inr rfl, Or.inr rfl, Or.inl rfl, Or.inl rfl, trivial⟩ (kk h2 g2)
  · refine ww_aload_n dL_law__2042 rfl rfl ?_
    refine ww_iconst (v := nI 0) dL_law__2043 (by decide) ?_
    refine ww_laldN dL_law__2044 k2 (by decide) (by decide) ?_
    refine ww_iload dL_law__2045 rfl ?_
    refine ww_i2l dL_law__2047 ?_
    refine ww_lcmp dL_law__2048 ?_
    refine ww_if_eq (tgt := 2054) dL_law__2049 (by decide) (fun _ => ?_) (fun q => absurd (by rw [e2 k0]; exact lg_cmp_self _) q)
    refine ww_goto (tgt := 2553) dL_law__2054 (by decide) ?_
    exact ww_fg (lv2 := [.ref (1000000 + 300), .ref 0, .ref 46, .ref 72, .int (nI (7 * i)), UU, UU]) ⟨Or.inr rfl, Or.inr rfl, Or.inr rfl, Or.inr rfl, Or.inr rfl, Or.inl rfl, Or.inl rfl, trivial⟩ (kk h2 g2)
set_option maxHeartbeats 4000000 in
theorem s_29 {l : Launch} {Z : EE} (hst : l.stackTraces = false) {nm : String} {i : Nat} (hi : 7 * i + 7 ≤ Z.2.2 301) (hL : Z.2.2 301 ≤ 3584) {G : PH → Prop} {h : PH} (h0 : hp_K h 0 = (10, 19)) {d mc ms D bc bs : Nat} (hD : d + 1 ≤ D) {Post : Res → PH → Prop} (hW : StW l Z m_L_cheapest m_X11_cheapest d mc ms [.int (scI Z (7 * i + 1)), .int (scI Z (7 * i + 2))] G h)
    (kk : ∀ h2, G h2 → WW l Z (mLaw nm) D bc bs 2553 [.ref (1000000 + 300), .ref 0, .ref 46, .ref 72, .int (nI (7 * i)), UU, UU] [] h2 Post) : WW l Z (mLaw nm) D (bc + mc) (bs + ms) 2057 [.ref (1000000 + 300), .ref 0, .ref 46, .ref 72, .int (nI (7 * i)), UU, UU] [] h Post := by
  obtain ⟨k, Q1, d1, mc1, ms1, ⟨hk, hd1, hm1, hs1⟩, c1, c2⟩ := hW
  refine ww_aload_n dL_law__2057 rfl rfl ?_
  refine ww_aload_n dL_law__2058 rfl rfl ?_
  refine ww_iload dL_law__2059 rfl ?_
  refine ww_iconst (v := nI 1) dL_law__2061 (by decide) ?_
  refine ww_iaddN dL_law__2062 ?_
  refine ww_sald dL_law__2063 (by omega) (by omega) (by omega) ?_
  refine ww_aload_n dL_law__2064 rfl rfl ?_
  refine ww_iload dL_law__2065 rfl ?_
  refine ww_iconst (v := nI 2) dL_law__2067 (by decide) ?_
  refine ww_iaddN dL_law__2068 ?_
  refine ww_sald dL_law__2069 (by omega) (by omega) (by omega) ?_
  refine ww_aload_n dL_law__2070 rfl rfl ?_
  refine ww_cSXq (M := mLaw nm) (pc := 2071) (As := (.ref 0) :: ([.int (scI Z (7 * i + 1)), .int (scI Z (7 * i + 2))] ++ [.ref 72])) (st := []) (d := D) (bc := bc) (bs := bs) (bc0 := bc + mc) (bs0 := bs + ms) c1 vx_L_cheapest dL_law__2071 wg_1149 rfl rfl (by omega) (Nat.le_of_ble_eq_true rfl) (by omega) (by omega) (fun h1 q1 => ?_)
  obtain ⟨m1, v, d2, hd2, c3⟩ := c2 h1 q1
  refine ww_sti (lv2 := [.ref (1000000 + 300), .ref 0, .ref 46, .ref 72, .int (nI (7 * i)), .int (nI k), UU]) dL_law__2074 rfl (Nat.le_of_ble_eq_true rfl) rfl ?_
  refine ww_aload_n dL_law__2076 rfl rfl ?_
  refine ww_aload_n dL_law__2077 rfl rfl ?_
  refine ww_iload dL_law__2078 rfl ?_
  refine ww_iconst (v := nI 1) dL_law__2080 (by decide) ?_
  refine ww_iaddN dL_law__2081 ?_
  refine ww_sald dL_law__2082 (by omega) (by omega) (by omega) ?_
  refine ww_aload_n dL_law__2083 rfl rfl ?_
  refine ww_iload dL_law__2084 rfl ?_
  refine ww_iconst (v := nI 2) dL_law__2086 (by decide) ?_
  refine ww_iaddN dL_law__2087 ?_
  refine ww_sald dL_law__2088 (by omega) (by omega) (by omega) ?_
  refine ww_cVq (M := mLaw nm) (pc := 2089) (As := [.int (scI Z (7 * i + 1)), .int (scI Z (7 * i + 2))]) (st := []) (d := D) (bc := bc) (bs := bs) (bc0 := bc) (bs0 := bs) c3 vv_X11_cheapest dL_law__2089 wg_1743 m1 rfl rfl rfl rfl (by omega) (Nat.le_of_ble_eq_true rfl) (Nat.le_refl _) (Nat.le_refl _) (fun h2 q2 => ?_)
  obtain ⟨g2, m2, t2, k2, e2⟩ := q2
  refine ww_sti (lv2 := [.ref (1000000 + 300), .ref 0, .ref 46, .ref 72, .int (nI (7 * i)), .int (nI k), .int v]) dL_law__2092 rfl (Nat.le_of_ble_eq_true rfl) rfl ?_
  refine ww_aload_n dL_law__2094 rfl rfl ?_
  refine ww_cVr (M := mLaw nm) (pc := 2095) (As := []) (st := []) (d := D) (bc := bc) (bs := bs) (bc0 := bc) (bs0 := bs) (c_M_thrown hst m2 _ t2) vv_X11_thrown dL_law__2095 wg_1222 m2.K0 rfl rfl rfl rfl (by omega) (Nat.le_of_ble_eq_true rfl) (Nat.le_refl _) (Nat.le_refl _) ?_
  refine ww_iload dL_law__2098 rfl ?_
  refine ww_icmp_eq (tgt := 2105) dL_law__2100 (by decide) (fun _ => ?_) (fun q => absurd rfl q)
  refine ww_iload dL_law__2105 rfl ?_
  refine ww_if_neN (tgt := 2122) dL_law__2107 (by decide) (by omega) (fun _ => ?_) (fun k0 => ?_)
  · refine ww_goto (tgt := 2553) dL_law__2122 (by decide) ?_
    exact ww_fg (lv2 := [.ref (1000000 + 300), .ref 0, .ref 46, .ref 72, .int (nI (7 * i)), UU, UU]) ⟨Or.inr rfl, Or.inr rfl, Or.inr rfl, Or.inr rfl, Or.inr rfl, Or.inl rfl, Or.inl rfl, trivial⟩ (kk h2 g2)
  · refine ww_aload_n dL_law__2110 rfl rfl ?_
    refine ww_iconst (v := nI 0) dL_law__2111 (by decide) ?_
    refine ww_laldN dL_law__2112 k2 (by decide) (by decide) ?_
    refine ww_iload dL_law__2113 rfl ?_
    refine ww_i2l dL_law__2115 ?_
    refine ww_lcmp dL_law__2116 ?_
    refine ww_if_eq (tgt := 2122) dL_law__2117 (by decide) (fun _ => ?_) (fun q => absurd (by rw [e2 k0]; exact lg_cmp_self _) q)
    refine ww_goto (tgt := 2553) dL_law__2122 (by decide) ?_
    exact ww_fg (lv2 := [.ref (1000000 + 300), .ref 0, .ref 46, .ref 72, .int (nI (7 * i)), UU, UU]) ⟨Or.inr rfl, Or.inr rfl, Or.inr rfl, Or.inr rfl, Or.inr rfl, Or.inl rfl, Or.inl rfl, trivial⟩ (kk h2 g2)
set_option maxHeartbeats 4000000 in
theorem s_30 {l : Launch} {Z : EE} (hst : l.stackTraces = false) {nm : String} {i : Nat} (hi : 7 * i + 7 ≤ Z.2.2 301) (hL : Z.2.2 301 ≤ 3584) {G : PH → Prop} {h : PH} (h0 : hp_K h 0 = (10, 19)) {d mc ms D bc bs : Nat} (hD : d + 1 ≤ D) {Post : Res → PH → Prop} (hW : StW l Z m_L_primes m_X11_primes d mc ms [.int (scI Z (7 * i + 1))] G h)
    (kk : ∀ h2, G h2 → WW l Z (mLaw nm) D bc bs 2553 [.ref (1000000 + 300), .ref 0, .ref 46, .ref 72, .int (nI (7 * i)), UU, UU] [] h2 Post) : WW l Z (mLaw nm) D (bc + mc) (bs + ms) 2125 [.ref (1000000 + 300), .ref 0, .ref 46, .ref 72, .int (nI (7 * i)), UU, UU] [] h Post := by
  obtain ⟨k, Q1, d1, mc1, ms1, ⟨hk, hd1, hm1, hs1⟩, c1, c2⟩ := hW
  refine ww_aload_n dL_law__2125 rfl rfl ?_
  refine ww_aload_n dL_law__2126 rfl rfl ?_
  refine ww_iload dL_law__2127 rfl ?_
  refine ww_iconst (v := nI 1) dL_law__2129 (by decide) ?_
  refine ww_iaddN dL_law__2130 ?_
  refine ww_sald dL_law__2131 (by omega) (by omega) (by omega) ?_
  refine ww_aload_n dL_law__2132 rfl rfl ?_
  refine ww_cSXq (M := mLaw nm) (pc := 2133) (As := (.ref 0) :: ([.int (scI Z (7 * i + 1))] ++ [.ref 72])) (st := []) (d := D) (bc := bc) (bs := bs) (bc0 := bc + mc) (bs0 := bs + ms) c1 vx_L_primes dL_law__2133 wg_1156 rfl rfl (by omega) (Nat.le_of_ble_eq_true rfl) (by omega) (by omega) (fun h1 q1 => ?_)
  obtain ⟨m1, v, d2, hd2, c3⟩ := c2 h1 q1
  refine ww_sti (lv2 := [.ref (1000000 + 300), .ref 0, .ref 46, .ref 72, .int (nI (7 * i)), .int (nI k), UU]) dL_law__2136 rfl (Nat.le_of_ble_eq_true rfl) rfl ?_
  refine ww_aload_n dL_law__2138 rfl rfl ?_
  refine ww_aload_n dL_law__2139 rfl rfl ?_
  refine ww_iload dL_law__2140 rfl ?_
  refine ww_iconst (v := nI 1) dL_law__2142 (by decide) ?_
  refine ww_iaddN dL_law__2143 ?_
  refine ww_sald dL_law__2144 (by omega) (by omega) (by omega) ?_
  refine ww_cVq (M := mLaw nm) (pc := 2145) (As := [.int (scI Z (7 * i + 1))]) (st := []) (d := D) (bc := bc) (bs := bs) (bc0 := bc) (bs0 := bs) c3 vv_X11_primes dL_law__2145 wg_1747 m1 rfl rfl rfl rfl (by omega) (Nat.le_of_ble_eq_true rfl) (Nat.le_refl _) (Nat.le_refl _) (fun h2 q2 => ?_)
  obtain ⟨g2, m2, t2, k2, e2⟩ := q2
  refine ww_sti (lv2 := [.ref (1000000 + 300), .ref 0, .ref 46, .ref 72, .int (nI (7 * i)), .int (nI k), .int v]) dL_law__2148 rfl (Nat.le_of_ble_eq_true rfl) rfl ?_
  refine ww_aload_n dL_law__2150 rfl rfl ?_
  refine ww_cVr (M := mLaw nm) (pc := 2151) (As := []) (st := []) (d := D) (bc := bc) (bs := bs) (bc0 := bc) (bs0 := bs) (c_M_thrown hst m2 _ t2) vv_X11_thrown dL_law__2151 wg_1222 m2.K0 rfl rfl rfl rfl (by omega) (Nat.le_of_ble_eq_true rfl) (Nat.le_refl _) (Nat.le_refl _) ?_
  refine ww_iload dL_law__2154 rfl ?_
  refine ww_icmp_eq (tgt := 2161) dL_law__2156 (by decide) (fun _ => ?_) (fun q => absurd rfl q)
  refine ww_iload dL_law__2161 rfl ?_
  refine ww_if_neN (tgt := 2178) dL_law__2163 (by decide) (by omega) (fun _ => ?_) (fun k0 => ?_)
  · refine ww_goto (tgt := 2553) dL_law__2178 (by decide) ?_
    exact ww_fg (lv2 := [.ref (1000000 + 300), .ref 0, .ref 46, .ref 72, .int (nI (7 * i)), UU, UU]) ⟨Or.inr rfl, Or.inr rfl, Or.inr rfl, Or.inr rfl, Or.inr rfl, Or.inl rfl, Or.inl rfl, trivial⟩ (kk h2 g2)
  · refine ww_aload_n dL_law__2166 rfl rfl ?_
    refine ww_iconst (v := nI 0) dL_law__2167 (by decide) ?_
    refine ww_laldN dL_law__2168 k2 (by decide) (by decide) ?_
    refine ww_iload dL_law__2169 rfl ?_
    refine ww_i2l dL_law__2171 ?_
    refine ww_lcmp dL_law__2172 ?_
    refine ww_if_eq (tgt := 2178) dL_law__2173 (by decide) (fun _ => ?_) (fun q => absurd (by rw [e2 k0]; exact lg_cmp_self _) q)
    refine ww_goto (tgt := 2553) dL_law__2178 (by decide) ?_
    exact ww_fg (lv2 := [.ref (1000000 + 300), .ref 0, .ref 46, .ref 72, .int (nI (7 * i)), UU, UU]) ⟨Or.inr rfl, Or.inr rfl, Or.inr rfl, Or.inr rfl, Or.inr rfl, Or.inl rfl, Or.inl rfl, trivial⟩ (kk h2 g2)
set_option maxHeartbeats 4000000 in
theorem s_31 {l : Launch} {Z : EE} (hst : l.stackTraces = false) {nm : String} {i : Nat} (hi : 7 * i + 7 ≤ Z.2.2 301) (hL : Z.2.2 301 ≤ 3584) {G : PH → Prop} {h : PH} (h0 : hp_K h 0 = (10, 19)) {d mc ms D bc bs : Nat} (hD : d + 1 ≤ D) {Post : Res → PH → Prop} (hW : StW l Z m_L_poorest m_X11_poorest d mc ms [.int (scI Z (7 * i + 1))] G h)
    (kk : ∀ h2, G h2 → WW l Z (mLaw nm) D bc bs 2553 [.ref (1000000 + 300), .ref 0, .ref 46, .ref 72, .int (nI (7 * i)), UU, UU] [] h2 Post) : WW l Z (mLaw nm) D (bc + mc) (bs + ms) 2181 [.ref (1000000 + 300), .ref 0, .ref 46, .ref 72, .int (nI (7 * i)), UU, UU] [] h Post := by
  obtain ⟨k, Q1, d1, mc1, ms1, ⟨hk, hd1, hm1, hs1⟩, c1, c2⟩ := hW
  refine ww_aload_n dL_law__2181 rfl rfl ?_
  refine ww_aload_n dL_law__2182 rfl rfl ?_
  refine ww_iload dL_law__2183 rfl ?_
  refine ww_iconst (v := nI 1) dL_law__2185 (by decide) ?_
  refine ww_iaddN dL_law__2186 ?_
  refine ww_sald dL_law__2187 (by omega) (by omega) (by omega) ?_
  refine ww_aload_n dL_law__2188 rfl rfl ?_
  refine ww_cSXq (M := mLaw nm) (pc := 2189) (As := (.ref 0) :: ([.int (scI Z (7 * i + 1))] ++ [.ref 72])) (st := []) (d := D) (bc := bc) (bs := bs) (bc0 := bc + mc) (bs0 := bs + ms) c1 vx_L_poorest dL_law__2189 wg_1163 rfl rfl (by omega) (Nat.le_of_ble_eq_true rfl) (by omega) (by omega) (fun h1 q1 => ?_)
  obtain ⟨m1, v, d2, hd2, c3⟩ := c2 h1 q1
  refine ww_sti (lv2 := [.ref (1000000 + 300), .ref 0, .ref 46, .ref 72, .int (nI (7 * i)), .int (nI k), UU]) dL_law__2192 rfl (Nat.le_of_ble_eq_true rfl) rfl ?_
  refine ww_aload_n dL_law__2194 rfl rfl ?_
  refine ww_aload_n dL_law__2195 rfl rfl ?_
  refine ww_iload dL_law__2196 rfl ?_
  refine ww_iconst (v := nI 1) dL_law__2198 (by decide) ?_
  refine ww_iaddN dL_law__2199 ?_
  refine ww_sald dL_law__2200 (by omega) (by omega) (by omega) ?_
  refine ww_cVq (M := mLaw nm) (pc := 2201) (As := [.int (scI Z (7 * i + 1))]) (st := []) (d := D) (bc := bc) (bs := bs) (bc0 := bc) (bs0 := bs) c3 vv_X11_poorest dL_law__2201 wg_1751 m1 rfl rfl rfl rfl (by omega) (Nat.le_of_ble_eq_true rfl) (Nat.le_refl _) (Nat.le_refl _) (fun h2 q2 => ?_)
  obtain ⟨g2, m2, t2, k2, e2⟩ := q2
  refine ww_sti (lv2 := [.ref (1000000 + 300), .ref 0, .ref 46, .ref 72, .int (nI (7 * i)), .int (nI k), .int v]) dL_law__2204 rfl (Nat.le_of_ble_eq_true rfl) rfl ?_
  refine ww_aload_n dL_law__2206 rfl rfl ?_
  refine ww_cVr (M := mLaw nm) (pc := 2207) (As := []) (st := []) (d := D) (bc := bc) (bs := bs) (bc0 := bc) (bs0 := bs) (c_M_thrown hst m2 _ t2) vv_X11_thrown dL_law__2207 wg_1222 m2.K0 rfl rfl rfl rfl (by omega) (Nat.le_of_ble_eq_true rfl) (Nat.le_refl _) (Nat.le_refl _) ?_
  refine ww_iload dL_law__2210 rfl ?_
  refine ww_icmp_eq (tgt := 2217) dL_law__2212 (by decide) (fun _ => ?_) (fun q => absurd rfl q)
  refine ww_iload dL_law__2217 rfl ?_
  refine ww_if_neN (tgt := 2234) dL_law__2219 (by decide) (by omega) (fun _ => ?_) (fun k0 => ?_)
  · refine ww_goto (tgt := 2553) dL_law__2234 (by decide) ?_
    exact ww_fg (lv2 := [.ref (1000000 + 300), .ref 0, .ref 46, .ref 72, .int (nI (7 * i)), UU, UU]) ⟨Or.inr rfl, Or.inr rfl, Or.inr rfl, Or.inr rfl, Or.inr rfl, Or.inl rfl, Or.inl rfl, trivial⟩ (kk h2 g2)
  · refine ww_aload_n dL_law__2222 rfl rfl ?_
    refine ww_iconst (v := nI 0) dL_law__2223 (by decide) ?_
    refine ww_laldN dL_law__2224 k2 (by decide) (by decide) ?_
    refine ww_iload dL_law__2225 rfl ?_
    refine ww_i2l dL_law__2227 ?_
    refine ww_lcmp dL_law__2228 ?_
    refine ww_if_eq (tgt := 2234) dL_law__2229 (by decide) (fun _ => ?_) (fun q => absurd (by rw [e2 k0]; exact lg_cmp_self _) q)
    refine ww_goto (tgt := 2553) dL_law__2234 (by decide) ?_
    exact ww_fg (lv2 := [.ref (1000000 + 300), .ref 0, .ref 46, .ref 72, .int (nI (7 * i)), UU, UU]) ⟨Or.inr rfl, Or.inr rfl, Or.inr rfl, Or.inr rfl, Or.inr rfl, Or.inl rfl, Or.inl rfl, trivial⟩ (kk h2 g2)
set_option maxHeartbeats 4000000 in
theorem s_32 {l : Launch} {Z : EE} (hst : l.stackTraces = false) {nm : String} {i : Nat} (hi : 7 * i + 7 ≤ Z.2.2 301) (hL : Z.2.2 301 ≤ 3584) {G : PH → Prop} {h : PH} (h0 : hp_K h 0 = (10, 19)) {d mc ms D bc bs : Nat} (hD : d + 1 ≤ D) {Post : Res → PH → Prop} (hW : StW l Z m_L_sayable m_X11_sayable d mc ms [.int (scI Z (7 * i + 1)), .int (scI Z (7 * i + 2))] G h)
    (kk : ∀ h2, G h2 → WW l Z (mLaw nm) D bc bs 2553 [.ref (1000000 + 300), .ref 0, .ref 46, .ref 72, .int (nI (7 * i)), UU, UU] [] h2 Post) : WW l Z (mLaw nm) D (bc + mc) (bs + ms) 2237 [.ref (1000000 + 300), .ref 0, .ref 46, .ref 72, .int (nI (7 * i)), UU, UU] [] h Post := by
  obtain ⟨k, Q1, d1, mc1, ms1, ⟨hk, hd1, hm1, hs1⟩, c1, c2⟩ := hW
  refine ww_aload_n dL_law__2237 rfl rfl ?_
  refine ww_aload_n dL_law__2238 rfl rfl ?_
  refine ww_iload dL_law__2239 rfl ?_
  refine ww_iconst (v := nI 1) dL_law__2241 (by decide) ?_
  refine ww_iaddN dL_law__2242 ?_
  refine ww_sald dL_law__2243 (by omega) (by omega) (by omega) ?_
  refine ww_aload_n dL_law__2244 rfl rfl ?_
  refine ww_iload dL_law__2245 rfl ?_
  refine ww_iconst (v := nI 2) dL_law__2247 (by decide) ?_
  refine ww_iaddN dL_law__2248 ?_
  refine ww_sald dL_law__2249 (by omega) (by omega) (by omega) ?_
  refine ww_aload_n dL_law__2250 rfl rfl ?_
  refine ww_cSXq (M := mLaw nm) (pc := 2251) (As := (.ref 0) :: ([.int (scI Z (7 * i + 1)), .int (scI Z (7 * i + 2))] ++ [.ref 72])) (st := []) (d := D) (bc := bc) (bs := bs) (bc0 := bc + mc) (bs0 := bs + ms) c1 vx_L_sayable dL_law__2251 wg_1170 rfl rfl (by omega) (Nat.le_of_ble_eq_true rfl) (by omega) (by omega) (fun h1 q1 => ?_)
  obtain ⟨m1, v, d2, hd2, c3⟩ := c2 h1 q1
  refine ww_sti (lv2 := [.ref (1000000 + 300), .ref 0, .ref 46, .ref 72, .int (nI (7 * i)), .int (nI k), UU]) dL_law__2254 rfl (Nat.le_of_ble_eq_true rfl) rfl ?_
  refine ww_aload_n dL_law__2256 rfl rfl ?_
  refine ww_aload_n dL_law__2257 rfl rfl ?_
  refine ww_iload dL_law__2258 rfl ?_
  refine ww_iconst (v := nI 1) dL_law__2260 (by decide) ?_
  refine ww_iaddN dL_law__2261 ?_
  refine ww_sald dL_law__2262 (by omega) (by omega) (by omega) ?_
  refine ww_aload_n dL_law__2263 rfl rfl ?_
  refine ww_iload dL_law__2264 rfl ?_
  refine ww_iconst (v := nI 2) dL_law__2266 (by decide) ?_
  refine ww_iaddN dL_law__2267 ?_
  refine ww_sald dL_law__2268 (by omega) (by omega) (by omega) ?_
  refine ww_cVq (M := mLaw nm) (pc := 2269) (As := [.int (scI Z (7 * i + 1)), .int (scI Z (7 * i + 2))]) (st := []) (d := D) (bc := bc) (bs := bs) (bc0 := bc) (bs0 := bs) c3 vv_X11_sayable dL_law__2269 wg_1755 m1 rfl rfl rfl rfl (by omega) (Nat.le_of_ble_eq_true rfl) (Nat.le_refl _) (Nat.le_refl _) (fun h2 q2 => ?_)
  obtain ⟨g2, m2, t2, k2, e2⟩ := q2
  refine ww_sti (lv2 := [.ref (1000000 + 300), .ref 0, .ref 46, .ref 72, .int (nI (7 * i)), .int (nI k), .int v]) dL_law__2272 rfl (Nat.le_of_ble_eq_true rfl) rfl ?_
  refine ww_aload_n dL_law__2274 rfl rfl ?_
  refine ww_cVr (M := mLaw nm) (pc := 2275) (As := []) (st := []) (d := D) (bc := bc) (bs := bs) (bc0 := bc) (bs0 := bs) (c_M_thrown hst m2 _ t2) vv_X11_thrown dL_law__2275 wg_1222 m2.K0 rfl rfl rfl rfl (by omega) (Nat.le_of_ble_eq_true rfl) (Nat.le_refl _) (Nat.le_refl _) ?_
  refine ww_iload dL_law__2278 rfl ?_
  refine ww_icmp_eq (tgt := 2285) dL_law__2280 (by decide) (fun _ => ?_) (fun q => absurd rfl q)
  refine ww_iload dL_law__2285 rfl ?_
  refine ww_if_neN (tgt := 2302) dL_law__2287 (by decide) (by omega) (fun _ => ?_) (fun k0 => ?_)
  · refine ww_goto (tgt := 2553) dL_law__2302 (by decide) ?_
    exact ww_fg (lv2 := [.ref (1000000 + 300), .ref 0, .ref 46, .ref 72, .int (nI (7 * i)), UU, UU]) ⟨Or.inr rfl, Or.inr rfl, Or.inr rfl, Or.inr rfl, Or.inr rfl, Or.inl rfl, Or.inl rfl, trivial⟩ (kk h2 g2)
  · refine ww_aload_n dL_law__2290 rfl rfl ?_
    refine ww_iconst (v := nI 0) dL_law__2291 (by decide) ?_
    refine ww_laldN dL_law__2292 k2 (by decide) (by decide) ?_
    refine ww_iload dL_law__2293 rfl ?_
    refine ww_i2l dL_law__2295 ?_
    refine ww_lcmp dL_law__2296 ?_
    refine ww_if_eq (tgt := 2302) dL_law__2297 (by decide) (fun _ => ?_) (fun q => absurd (by rw [e2 k0]; exact lg_cmp_self _) q)
    refine ww_goto (tgt := 2553) dL_law__2302 (by decide) ?_
    exact ww_fg (lv2 := [.ref (1000000 + 300), .ref 0, .ref 46, .ref 72, .int (nI (7 * i)), UU, UU]) ⟨Or.inr rfl, Or.inr rfl, Or.inr rfl, Or.inr rfl, Or.inr rfl, Or.inl rfl, Or.inl rfl, trivial⟩ (kk h2 g2)
set_option maxHeartbeats 4000000 in
theorem s_33 {l : Launch} {Z : EE} (hst : l.stackTraces = false) {nm : String} {i : Nat} (hi : 7 * i + 7 ≤ Z.2.2 301) (hL : Z.2.2 301 ≤ 3584) {G : PH → Prop} {h : PH} (h0 : hp_K h 0 = (10, 19)) {d mc ms D bc bs : Nat} (hD : d + 1 ≤ D) {Post : Res → PH → Prop} (hW : StW l Z m_L_year m_X11_year d mc ms [.int (scI Z (7 * i + 1)), .int (scI Z (7 * i + 2)), .int (scI Z (7 * i + 3))] G h)
    (kk : ∀ h2, G h2 → WW l Z (mLaw nm) D bc bs 2553 [.ref (1000000 + 300), .ref 0, .ref 46, .ref 72, .int (nI (7 * i)), UU, UU] [] h2 Post) : WW l Z (mLaw nm) D (bc + mc) (bs + ms) 2305 [.ref (1000000 + 300), .ref 0, .ref 46, .ref 72, .int (nI (7 * i)), UU, UU] [] h Post := by
  obtain ⟨k, Q1, d1, mc1, ms1, ⟨hk, hd1, hm1, hs1⟩, c1, c2⟩ := hW
  refine ww_aload_n dL_law__2305 rfl rfl ?_
  refine ww_aload_n dL_law__2306 rfl rfl ?_
  refine ww_iload dL_law__2307 rfl ?_
  refine ww_iconst (v := nI 1) dL_law__2309 (by decide) ?_
  refine ww_iaddN dL_law__2310 ?_
  refine ww_sald dL_law__2311 (by omega) (by omega) (by omega) ?_
  refine ww_aload_n dL_law__2312 rfl rfl ?_
  refine ww_iload dL_law__2313 rfl ?_
  refine ww_iconst (v := nI 2) dL_law__2315 (by decide) ?_
  refine ww_iaddN dL_law__2316 ?_
  refine ww_sald dL_law__2317 (by omega) (by omega) (by omega) ?_
  refine ww_aload_n dL_law__2318 rfl rfl ?_
  refine ww_iload dL_law__2319 rfl ?_
  refine ww_iconst (v := nI 3) dL_law__2321 (by decide) ?_
  refine ww_iaddN dL_law__2322 ?_
  refine ww_sald dL_law__2323 (by omega) (by omega) (by omega) ?_
  refine ww_aload_n dL_law__2324 rfl rfl ?_
  refine ww_cSXq (M := mLaw nm) (pc := 2325) (As := (.ref 0) :: ([.int (scI Z (7 * i + 1)), .int (scI Z (7 * i + 2)), .int (scI Z (7 * i + 3))] ++ [.ref 72])) (st := []) (d := D) (bc := bc) (bs := bs) (bc0 := bc + mc) (bs0 := bs + ms) c1 vx_L_year dL_law__2325 wg_1177 rfl rfl (by omega) (Nat.le_of_ble_eq_true rfl) (by omega) (by omega) (fun h1 q1 => ?_)
  obtain ⟨m1, v, d2, hd2, c3⟩ := c2 h1 q1
  refine ww_sti (lv2 := [.ref (1000000 + 300), .ref 0, .ref 46, .ref 72, .int (nI (7 * i)), .int (nI k), UU]) dL_law__2328 rfl (Nat.le_of_ble_eq_true rfl) rfl ?_
  refine ww_aload_n dL_law__2330 rfl rfl ?_
  refine ww_aload_n dL_law__2331 rfl rfl ?_
  refine ww_iload dL_law__2332 rfl ?_
  refine ww_iconst (v := nI 1) dL_law__2334 (by decide) ?_
  refine ww_iaddN dL_law__2335 ?_
  refine ww_sald dL_law__2336 (by omega) (by omega) (by omega) ?_
  refine ww_aload_n dL_law__2337 rfl rfl ?_
  refine ww_iload dL_law__2338 rfl ?_
  refine ww_iconst (v := nI 2) dL_law__2340 (by decide) ?_
  refine ww_iaddN dL_law__2341 ?_
  refine ww_sald dL_law__2342 (by omega) (by omega) (by omega) ?_
  refine ww_aload_n dL_law__2343 rfl rfl ?_
  refine ww_iload dL_law__2344 rfl ?_
  refine ww_iconst (v := nI 3) dL_law__2346 (by decide) ?_
  refine ww_iaddN dL_law__2347 ?_
  refine ww_sald dL_law__2348 (by omega) (by omega) (by omega) ?_
  refine ww_cVq (M := mLaw nm) (pc := 2349) (As := [.int (scI Z (7 * i + 1)), .int (scI Z (7 * i + 2)), .int (scI Z (7 * i + 3))]) (st := []) (d := D) (bc := bc) (bs := bs) (bc0 := bc) (bs0 := bs) c3 vv_X11_year dL_law__2349 wg_1759 m1 rfl rfl rfl rfl (by omega) (Nat.le_of_ble_eq_true rfl) (Nat.le_refl _) (Nat.le_refl _) (fun h2 q2 => ?_)
  obtain ⟨g2, m2, t2, k2, e2⟩ := q2
  refine ww_sti (lv2 := [.ref (1000000 + 300), .ref 0, .ref 46, .ref 72, .int (nI (7 * i)), .int (nI k), .int v]) dL_law__2352 rfl (Nat.le_of_ble_eq_true rfl) rfl ?_
  refine ww_aload_n dL_law__2354 rfl rfl ?_
  refine ww_cVr (M := mLaw nm) (pc := 2355) (As := []) (st := []) (d := D) (bc := bc) (bs := bs) (bc0 := bc) (bs0 := bs) (c_M_thrown hst m2 _ t2) vv_X11_thrown dL_law__2355 wg_1222 m2.K0 rfl rfl rfl rfl (by omega) (Nat.le_of_ble_eq_true rfl) (Nat.le_refl _) (Nat.le_refl _) ?_
  refine ww_iload dL_law__2358 rfl ?_
  refine ww_icmp_eq (tgt := 2365) dL_law__2360 (by decide) (fun _ => ?_) (fun q => absurd rfl q)
  refine ww_iload dL_law__2365 rfl ?_
  refine ww_if_neN (tgt := 2382) dL_law__2367 (by decide) (by omega) (fun _ => ?_) (fun k0 => ?_)
  · refine ww_goto (tgt := 2553) dL_law__2382 (by decide) ?_
    exact ww_fg (lv2 := [.ref (1000000 + 300), .ref 0, .ref 46, .ref 72, .int (nI (7 * i)), UU, UU]) ⟨Or.inr rfl, Or.inr rfl, Or.inr rfl, Or.inr rfl, Or.inr rfl, Or.inl rfl, Or.inl rfl, trivial⟩ (kk h2 g2)
  · refine ww_aload_n dL_law__2370 rfl rfl ?_
    refine ww_iconst (v := nI 0) dL_law__2371 (by decide) ?_
    refine ww_laldN dL_law__2372 k2 (by decide) (by decide) ?_
    refine ww_iload dL_law__2373 rfl ?_
    refine ww_i2l dL_law__2375 ?_
    refine ww_lcmp dL_law__2376 ?_
    refine ww_if_eq (tgt := 2382) dL_law__2377 (by decide) (fun _ => ?_) (fun q => absurd (by rw [e2 k0]; exact lg_cmp_self _) q)
    refine ww_goto (tgt := 2553) dL_law__2382 (by decide) ?_
    exact ww_fg (lv2 := [.ref (1000000 + 300), .ref 0, .ref 46, .ref 72, .int (nI (7 * i)), UU, UU]) ⟨Or.inr rfl, Or.inr rfl, Or.inr rfl, Or.inr rfl, Or.inr rfl, Or.inl rfl, Or.inl rfl, trivial⟩ (kk h2 g2)
set_option maxHeartbeats 4000000 in
theorem s_34 {l : Launch} {Z : EE} (hst : l.stackTraces = false) {nm : String} {i : Nat} (hi : 7 * i + 7 ≤ Z.2.2 301) (hL : Z.2.2 301 ≤ 3584) {G : PH → Prop} {h : PH} (h0 : hp_K h 0 = (10, 19)) {d mc ms D bc bs : Nat} (hD : d + 1 ≤ D) {Post : Res → PH → Prop} (hW : StW l Z m_L_span m_X11_span d mc ms [.int (scI Z (7 * i + 1)), .int (scI Z (7 * i + 2)), .int (scI Z (7 * i + 3)), .int (scI Z (7 * i + 4))] G h)
    (kk : ∀ h2, G h2 → WW l Z (mLaw nm) D bc bs 2553 [.ref (1000000 + 300), .ref 0, .ref 46, .ref 72, .int (nI (7 * i)), UU, UU] [] h2 Post) : WW l Z (mLaw nm) D (bc + mc) (bs + ms) 2385 [.ref (1000000 + 300), .ref 0, .ref 46, .ref 72, .int (nI (7 * i)), UU, UU] [] h Post := by
  obtain ⟨k, Q1, d1, mc1, ms1, ⟨hk, hd1, hm1, hs1⟩, c1, c2⟩ := hW
  refine ww_aload_n dL_law__2385 rfl rfl ?_
  refine ww_aload_n dL_law__2386 rfl rfl ?_
  refine ww_iload dL_law__2387 rfl ?_
  refine ww_iconst (v := nI 1) dL_law__2389 (by decide) ?_
  refine ww_iaddN dL_law__2390 ?_
  refine ww_sald dL_law__2391 (by omega) (by omega) (by omega) ?_
  refine ww_aload_n dL_law__2392 rfl rfl ?_
  refine ww_iload dL_law__2393 rfl ?_
  refine ww_iconst (v := nI 2) dL_law__2395 (by decide) ?_
  refine ww_iaddN dL_law__2396 ?_
  refine ww_sald dL_law__2397 (by omega) (by omega) (by omega) ?_
  refine ww_aload_n dL_law__2398 rfl rfl ?_
  refine ww_iload dL_law__2399 rfl ?_
  refine ww_iconst (v := nI 3) dL_law__2401 (by decide) ?_
  refine ww_iaddN dL_law__2402 ?_
  refine ww_sald dL_law__2403 (by omega) (by omega) (by omega) ?_
  refine ww_aload_n dL_law__2404 rfl rfl ?_
  refine ww_iload dL_law__2405 rfl ?_
  refine ww_iconst (v := nI 4) dL_law__2407 (by decide) ?_
  refine ww_iaddN dL_law__2408 ?_
  refine ww_sald dL_law__2409 (by omega) (by omega) (by omega) ?_
  refine ww_aload_n dL_law__2410 rfl rfl ?_
  refine ww_cSXq (M := mLaw nm) (pc := 2411) (As := (.ref 0) :: ([.int (scI Z (7 * i + 1)), .int (scI Z (7 * i + 2)), .int (scI Z (7 * i + 3)), .int (scI Z (7 * i + 4))] ++ [.ref 72])) (st := []) (d := D) (bc := bc) (bs := bs) (bc0 := bc + mc) (bs0 := bs + ms) c1 vx_L_span dL_law__2411 wg_1214 rfl rfl (by omega) (Nat.le_of_ble_eq_true rfl) (by omega) (by omega) (fun h1 q1 => ?_)
  obtain ⟨m1, v, d2, hd2, c3⟩ := c2 h1 q1
  refine ww_sti (lv2 := [.ref (1000000 + 300), .ref 0, .ref 46, .ref 72, .int (nI (7 * i)), .int (nI k), UU]) dL_law__2414 rfl (Nat.le_of_ble_eq_true rfl) rfl ?_
  refine ww_aload_n dL_law__2416 rfl rfl ?_
  refine ww_aload_n dL_law__2417 rfl rfl ?_
  refine ww_iload dL_law__2418 rfl ?_
  refine ww_iconst (v := nI 1) dL_law__2420 (by decide) ?_
  refine ww_iaddN dL_law__2421 ?_
  refine ww_sald dL_law__2422 (by omega) (by omega) (by omega) ?_
  refine ww_aload_n dL_law__2423 rfl rfl ?_
  refine ww_iload dL_law__2424 rfl ?_
  refine ww_iconst (v := nI 2) dL_law__2426 (by decide) ?_
  refine ww_iaddN dL_law__2427 ?_
  refine ww_sald dL_law__2428 (by omega) (by omega) (by omega) ?_
  refine ww_aload_n dL_law__2429 rfl rfl ?_
  refine ww_iload dL_law__2430 rfl ?_
  refine ww_iconst (v := nI 3) dL_law__2432 (by decide) ?_
  refine ww_iaddN dL_law__2433 ?_
  refine ww_sald dL_law__2434 (by omega) (by omega) (by omega) ?_
  refine ww_aload_n dL_law__2435 rfl rfl ?_
  refine ww_iload dL_law__2436 rfl ?_
  refine ww_iconst (v := nI 4) dL_law__2438 (by decide) ?_
  refine ww_iaddN dL_law__2439 ?_
  refine ww_sald dL_law__2440 (by omega) (by omega) (by omega) ?_
  refine ww_cVq (M := mLaw nm) (pc := 2441) (As := [.int (scI Z (7 * i + 1)), .int (scI Z (7 * i + 2)), .int (scI Z (7 * i + 3)), .int (scI Z (7 * i + 4))]) (st := []) (d := D) (bc := bc) (bs := bs) (bc0 := bc) (bs0 := bs) c3 vv_X11_span dL_law__2441 wg_1772 m1 rfl rfl rfl rfl (by omega) (Nat.le_of_ble_eq_true rfl) (Nat.le_refl _) (Nat.le_refl _) (fun h2 q2 => ?_)
  obtain ⟨g2, m2, t2, k2, e2⟩ := q2
  refine ww_sti (lv2 := [.ref (1000000 + 300), .ref 0, .ref 46, .ref 72, .int (nI (7 * i)), .int (nI k), .int v]) dL_law__2444 rfl (Nat.le_of_ble_eq_true rfl) rfl ?_
  refine ww_aload_n dL_law__2446 rfl rfl ?_
  refine ww_cVr (M := mLaw nm) (pc := 2447) (As := []) (st := []) (d := D) (bc := bc) (bs := bs) (bc0 := bc) (bs0 := bs) (c_M_thrown hst m2 _ t2) vv_X11_thrown dL_law__2447 wg_1222 m2.K0 rfl rfl rfl rfl (by omega) (Nat.le_of_ble_eq_true rfl) (Nat.le_refl _) (Nat.le_refl _) ?_
  refine ww_iload dL_law__2450 rfl ?_
  refine ww_icmp_eq (tgt := 2457) dL_law__2452 (by decide) (fun _ => ?_) (fun q => absurd rfl q)
  refine ww_iload dL_law__2457 rfl ?_
  refine ww_if_neN (tgt := 2474) dL_law__2459 (by decide) (by omega) (fun _ => ?_) (fun k0 => ?_)
  · refine ww_goto (tgt := 2553) dL_law__2474 (by decide) ?_
    exact ww_fg (lv2 := [.ref (1000000 + 300), .ref 0, .ref 46, .ref 72, .int (nI (7 * i)), UU, UU]) ⟨Or.inr rfl, Or.inr rfl, Or.inr rfl, Or.inr rfl, Or.inr rfl, Or.inl rfl, Or.inl rfl, trivial⟩ (kk h2 g2)
  · refine ww_aload_n dL_law__2462 rfl rfl ?_
    refine ww_iconst (v := nI 0) dL_law__2463 (by decide) ?_
    refine ww_laldN dL_law__2464 k2 (by decide) (by decide) ?_
    refine ww_iload dL_law__2465 rfl ?_
    refine ww_i2l dL_law__2467 ?_
    refine ww_lcmp dL_law__2468 ?_
    refine ww_if_eq (tgt := 2474) dL_law__2469 (by decide) (fun _ => ?_) (fun q => absurd (by rw [e2 k0]; exact lg_cmp_self _) q)
    refine ww_goto (tgt := 2553) dL_law__2474 (by decide) ?_
    exact ww_fg (lv2 := [.ref (1000000 + 300), .ref 0, .ref 46, .ref 72, .int (nI (7 * i)), UU, UU]) ⟨Or.inr rfl, Or.inr rfl, Or.inr rfl, Or.inr rfl, Or.inr rfl, Or.inl rfl, Or.inl rfl, trivial⟩ (kk h2 g2)
set_option maxHeartbeats 4000000 in
theorem s_35 {l : Launch} {Z : EE} (hst : l.stackTraces = false) {nm : String} {i : Nat} (hi : 7 * i + 7 ≤ Z.2.2 301) (hL : Z.2.2 301 ≤ 3584) {G : PH → Prop} {h : PH} (h0 : hp_K h 0 = (10, 19)) {d mc ms D bc bs : Nat} (hD : d + 1 ≤ D) {Post : Res → PH → Prop} (hW : StD l Z m_X10_image m_X11_image d mc ms [] G h)
    (kk : ∀ h2, G h2 → WW l Z (mLaw nm) D bc bs 2553 [.ref (1000000 + 300), .ref 0, .ref 46, .ref 72, .int (nI (7 * i)), UU, UU] [] h2 Post) : WW l Z (mLaw nm) D (bc + mc) (bs + ms) 2477 [.ref (1000000 + 300), .ref 0, .ref 46, .ref 72, .int (nI (7 * i)), UU, UU] [] h Post := by
  obtain ⟨v, Q1, d1, mc1, ms1, ⟨hd1, hm1, hs1⟩, c1, c2⟩ := hW
  refine ww_aload_n dL_law__2477 rfl rfl ?_
  refine ww_cVq (M := mLaw nm) (pc := 2478) (As := []) (st := []) (d := D) (bc := bc) (bs := bs) (bc0 := bc + mc) (bs0 := bs + ms) c1 vv_X10_image dL_law__2478 wg_353 h0 rfl rfl rfl rfl (by omega) (Nat.le_of_ble_eq_true rfl) (by omega) (by omega) (fun h1 q1 => ?_)
  obtain ⟨m1, d2, hd2, c3⟩ := c2 h1 q1
  refine ww_aload_n dL_law__2481 rfl rfl ?_
  refine ww_cVq (M := mLaw nm) (pc := 2482) (As := []) (st := [.int v]) (d := D) (bc := bc) (bs := bs) (bc0 := bc) (bs0 := bs) c3 vv_X11_image dL_law__2482 wg_1776 m1 rfl rfl rfl rfl (by omega) (Nat.le_of_ble_eq_true rfl) (Nat.le_refl _) (Nat.le_refl _) (fun h2 q2 => ?_)
  refine ww_icmp_eq (tgt := 2553) dL_law__2485 (by decide) (fun _ => kk h2 q2) (fun q => absurd rfl q)
set_option maxHeartbeats 4000000 in
theorem s_36 {l : Launch} {Z : EE} (hst : l.stackTraces = false) {nm : String} {i : Nat} (hi : 7 * i + 7 ≤ Z.2.2 301) (hL : Z.2.2 301 ≤ 3584) {G : PH → Prop} {h : PH} (h0 : hp_K h 0 = (10, 19)) {d mc ms D bc bs : Nat} (hD : d + 1 ≤ D) {Post : Res → PH → Prop} (hW : StD l Z m_X10_restore m_X11_restore d mc ms [] G h)
    (kk : ∀ h2, G h2 → WW l Z (mLaw nm) D bc bs 2553 [.ref (1000000 + 300), .ref 0, .ref 46, .ref 72, .int (nI (7 * i)), UU, UU] [] h2 Post) : WW l Z (mLaw nm) D (bc + mc) (bs + ms) 2490 [.ref (1000000 + 300), .ref 0, .ref 46, .ref 72, .int (nI (7 * i)), UU, UU] [] h Post := by
  obtain ⟨v, Q1, d1, mc1, ms1, ⟨hd1, hm1, hs1⟩, c1, c2⟩ := hW
  refine ww_aload_n dL_law__2490 rfl rfl ?_
  refine ww_cVq (M := mLaw nm) (pc := 2491) (As := []) (st := []) (d := D) (bc := bc) (bs := bs) (bc0 := bc + mc) (bs0 := bs + ms) c1 vv_X10_restore dL_law__2491 wg_386 h0 rfl rfl rfl rfl (by omega) (Nat.le_of_ble_eq_true rfl) (by omega) (by omega) (fun h1 q1 => ?_)
  obtain ⟨m1, d2, hd2, c3⟩ := c2 h1 q1
  refine ww_aload_n dL_law__2494 rfl rfl ?_
  refine ww_cVq (M := mLaw nm) (pc := 2495) (As := []) (st := [.int v]) (d := D) (bc := bc) (bs := bs) (bc0 := bc) (bs0 := bs) c3 vv_X11_restore dL_law__2495 wg_1788 m1 rfl rfl rfl rfl (by omega) (Nat.le_of_ble_eq_true rfl) (Nat.le_refl _) (Nat.le_refl _) (fun h2 q2 => ?_)
  refine ww_icmp_eq (tgt := 2553) dL_law__2498 (by decide) (fun _ => kk h2 q2) (fun q => absurd rfl q)
set_option maxHeartbeats 4000000 in
theorem s_37 {l : Launch} {Z : EE} (hst : l.stackTraces = false) {nm : String} {i : Nat} (hi : 7 * i + 7 ≤ Z.2.2 301) (hL : Z.2.2 301 ≤ 3584) {G : PH → Prop} {h : PH} (h0 : hp_K h 0 = (10, 19)) {d mc ms D bc bs : Nat} (hD : d + 1 ≤ D) {Post : Res → PH → Prop} (hW : StD l Z m_X10_status m_X11_status d mc ms [.int (scI Z (7 * i + 1))] G h)
    (kk : ∀ h2, G h2 → WW l Z (mLaw nm) D bc bs 2553 [.ref (1000000 + 300), .ref 0, .ref 46, .ref 72, .int (nI (7 * i)), UU, UU] [] h2 Post) : WW l Z (mLaw nm) D (bc + mc) (bs + ms) 2503 [.ref (1000000 + 300), .ref 0, .ref 46, .ref 72, .int (nI (7 * i)), UU, UU] [] h Post := by
  obtain ⟨v, Q1, d1, mc1, ms1, ⟨hd1, hm1, hs1⟩, c1, c2⟩ := hW
  refine ww_aload_n dL_law__2503 rfl rfl ?_
  refine ww_aload_n dL_law__2504 rfl rfl ?_
  refine ww_iload dL_law__2505 rfl ?_
  refine ww_iconst (v := nI 1) dL_law__2507 (by decide) ?_
  refine ww_iaddN dL_law__2508 ?_
  refine ww_sald dL_law__2509 (by omega) (by omega) (by omega) ?_
  refine ww_cVq (M := mLaw nm) (pc := 2510) (As := [.int (scI Z (7 * i + 1))]) (st := []) (d := D) (bc := bc) (bs := bs) (bc0 := bc + mc) (bs0 := bs + ms) c1 vv_X10_status dL_law__2510 wg_394 h0 rfl rfl rfl rfl (by omega) (Nat.le_of_ble_eq_true rfl) (by omega) (by omega) (fun h1 q1 => ?_)
  obtain ⟨m1, d2, hd2, c3⟩ := c2 h1 q1
  refine ww_aload_n dL_law__2513 rfl rfl ?_
  refine ww_aload_n dL_law__2514 rfl rfl ?_
  refine ww_iload dL_law__2515 rfl ?_
  refine ww_iconst (v := nI 1) dL_law__2517 (by decide) ?_
  refine ww_iaddN dL_law__2518 ?_
  refine ww_sald dL_law__2519 (by omega) (by omega) (by omega) ?_
  refine ww_cVq (M := mLaw nm) (pc := 2520) (As := [.int (scI Z (7 * i + 1))]) (st := [.int v]) (d := D) (bc := bc) (bs := bs) (bc0 := bc) (bs0 := bs) c3 vv_X11_status dL_law__2520 wg_1792 m1 rfl rfl rfl rfl (by omega) (Nat.le_of_ble_eq_true rfl) (Nat.le_refl _) (Nat.le_refl _) (fun h2 q2 => ?_)
  refine ww_icmp_eq (tgt := 2553) dL_law__2523 (by decide) (fun _ => kk h2 q2) (fun q => absurd rfl q)
set_option maxHeartbeats 4000000 in
theorem s_38 {l : Launch} {Z : EE} (hst : l.stackTraces = false) {nm : String} {i : Nat} (hi : 7 * i + 7 ≤ Z.2.2 301) (hL : Z.2.2 301 ≤ 3584) {G : PH → Prop} {h : PH} (h0 : hp_K h 0 = (10, 19)) {d mc ms D bc bs : Nat} (hD : d + 1 ≤ D) {Post : Res → PH → Prop} (hW : StD l Z m_X10_count m_X11_count d mc ms [.int (scI Z (7 * i + 1))] G h)
    (kk : ∀ h2, G h2 → WW l Z (mLaw nm) D bc bs 2553 [.ref (1000000 + 300), .ref 0, .ref 46, .ref 72, .int (nI (7 * i)), UU, UU] [] h2 Post) : WW l Z (mLaw nm) D (bc + mc) (bs + ms) 2528 [.ref (1000000 + 300), .ref 0, .ref 46, .ref 72, .int (nI (7 * i)), UU, UU] [] h Post := by
  obtain ⟨v, Q1, d1, mc1, ms1, ⟨hd1, hm1, hs1⟩, c1, c2⟩ := hW
  refine ww_aload_n dL_law__2528 rfl rfl ?_
  refine ww_aload_n dL_law__2529 rfl rfl ?_
  refine ww_iload dL_law__2530 rfl ?_
  refine ww_iconst (v := nI 1) dL_law__2532 (by decide) ?_
  refine ww_iaddN dL_law__2533 ?_
  refine ww_sald dL_law__2534 (by omega) (by omega) (by omega) ?_
  refine ww_cVq (M := mLaw nm) (pc := 2535) (As := [.int (scI Z (7 * i + 1))]) (st := []) (d := D) (bc := bc) (bs := bs) (bc0 := bc + mc) (bs0 := bs + ms) c1 vv_X10_count dL_law__2535 wg_398 h0 rfl rfl rfl rfl (by omega) (Nat.le_of_ble_eq_true rfl) (by omega) (by omega) (fun h1 q1 => ?_)
  obtain ⟨m1, d2, hd2, c3⟩ := c2 h1 q1
  refine ww_aload_n dL_law__2538 rfl rfl ?_
  refine ww_aload_n dL_law__2539 rfl rfl ?_
  refine ww_iload dL_law__2540 rfl ?_
  refine ww_iconst (v := nI 1) dL_law__2542 (by decide) ?_
  refine ww_iaddN dL_law__2543 ?_
  refine ww_sald dL_law__2544 (by omega) (by omega) (by omega) ?_
  refine ww_cVq (M := mLaw nm) (pc := 2545) (As := [.int (scI Z (7 * i + 1))]) (st := [.int v]) (d := D) (bc := bc) (bs := bs) (bc0 := bc) (bs0 := bs) c3 vv_X11_count dL_law__2545 wg_1796 m1 rfl rfl rfl rfl (by omega) (Nat.le_of_ble_eq_true rfl) (Nat.le_refl _) (Nat.le_refl _) (fun h2 q2 => ?_)
  refine ww_icmp_eq (tgt := 2553) dL_law__2548 (by decide) (fun _ => kk h2 q2) (fun q => absurd rfl q)
