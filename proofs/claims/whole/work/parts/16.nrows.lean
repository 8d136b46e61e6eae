section WWN
variable {l : Launch} {Z : EE} {M : MM} {d bc bs pc : Nat} {lv lv2 st : List Value} {h : PH} {Post : Res → PH → Prop}
def RT (v : Option Value) (h1 : PH) : Res → PH → Prop := fun r h' => r = .inl v ∧ h' = h1
theorem ww_sti {i : Nat} {x : Int32} (hd : decode (mm_c M) pc = .ok (.istore i, 2)) (hs : lv.set i (.int x) = lv2) (hn : i < mm_L M) (hq : ee_nl lv i = true) (k : WW l Z M d bc bs (pc + 2) lv2 st h Post) : WW l Z M d bc bs pc lv ((.int x) :: st) h Post := ww_istore hd hn hq (by rw [hs]; exact k)
theorem ww_sti_n {n : Fin 4} {i : Nat} {x : Int32} (hd : decode (mm_c M) pc = .ok (.istore_n n, 1)) (hi : (n : Nat) = i) (hs : lv.set i (.int x) = lv2) (hn : i < mm_L M) (hq : ee_nl lv i = true) (k : WW l Z M d bc bs (pc + 1) lv2 st h Post) : WW l Z M d bc bs pc lv ((.int x) :: st) h Post := ww_istore_n hd hi hn hq (by rw [hs]; exact k)
theorem ww_sta {i : Nat} {x : Nat} (hd : decode (mm_c M) pc = .ok (.astore i, 2)) (hs : lv.set i (.ref x) = lv2) (hn : i < mm_L M) (hq : ee_nl lv i = true) (k : WW l Z M d bc bs (pc + 2) lv2 st h Post) : WW l Z M d bc bs pc lv ((.ref x) :: st) h Post := ww_astore hd hn hq (by rw [hs]; exact k)
theorem ww_sta_n {n : Fin 4} {i : Nat} {x : Nat} (hd : decode (mm_c M) pc = .ok (.astore_n n, 1)) (hi : (n : Nat) = i) (hs : lv.set i (.ref x) = lv2) (hn : i < mm_L M) (hq : ee_nl lv i = true) (k : WW l Z M d bc bs (pc + 1) lv2 st h Post) : WW l Z M d bc bs pc lv ((.ref x) :: st) h Post := ww_astore_n hd hi hn hq (by rw [hs]; exact k)
theorem ww_stl {i : Nat} {x : Int64} (hd : decode (mm_c M) pc = .ok (.lstore i, 2)) (hs : (lv.set i (.long x)).set (i + 1) UU = lv2) (hn : i + 1 < mm_L M) (hq : ee_nl lv i = true) (k : WW l Z M d bc bs (pc + 2) lv2 st h Post) : WW l Z M d bc bs pc lv ((.long x) :: st) h Post := ww_lstore hd hn hq (by rw [hs]; exact k)
theorem ww_inc {i : Nat} {n : Int} {x v : Int32} (hd : decode (mm_c M) pc = .ok (.iinc i n, 3)) (hl : lv[i]? = some (.int x)) (hv : x + Int32.ofInt n = v) (hs : lv.set i (.int v) = lv2) (hn : i < mm_L M) (hq : ee_nl lv i = true) (k : WW l Z M d bc bs (pc + 3) lv2 st h Post) : WW l Z M d bc bs pc lv st h Post := ww_iinc hd hl hv hn hq (by rw [hs]; exact k)
theorem nI_ofInt (c : Nat) : Int32.ofInt (c : Int) = nI c := rfl
theorem ww_incN {i a c : Nat} {n : Int} (hd : decode (mm_c M) pc = .ok (.iinc i n, 3)) (hc : n = (c : Int)) (hl : lv[i]? = some (.int (nI a))) (hs : lv.set i (.int (nI (a + c))) = lv2) (hn : i < mm_L M) (hq : ee_nl lv i = true) (k : WW l Z M d bc bs (pc + 3) lv2 st h Post) : WW l Z M d bc bs pc lv st h Post := ww_iinc hd hl (by rw [hc, nI_ofInt, nI_add]) hn hq (by rw [hs]; exact k)
theorem ww_iaddN {a b : Nat} (hd : decode (mm_c M) pc = .ok (.iadd, 1)) (k : WW l Z M d bc bs (pc + 1) lv ((.int (nI (a + b))) :: st) h Post) : WW l Z M d bc bs pc lv ((.int (nI b)) :: (.int (nI a)) :: st) h Post := ww_iadd hd (by rw [nI_add]; exact k)
theorem ww_isubN {a b : Nat} (hd : decode (mm_c M) pc = .ok (.isub, 1)) (hle : b ≤ a) (k : WW l Z M d bc bs (pc + 1) lv ((.int (nI (a - b))) :: st) h Post) : WW l Z M d bc bs pc lv ((.int (nI b)) :: (.int (nI a)) :: st) h Post := ww_isub hd (by rw [pk_sub hle]; exact k)
theorem ww_imulN {a b : Nat} (hd : decode (mm_c M) pc = .ok (.imul, 1)) (k : WW l Z M d bc bs (pc + 1) lv ((.int (nI (a * b))) :: st) h Post) : WW l Z M d bc bs pc lv ((.int (nI b)) :: (.int (nI a)) :: st) h Post := ww_imul hd (by rw [pk_mul]; exact k)
theorem ww_idivN {a b : Nat} (hd : decode (mm_c M) pc = .ok (.idiv, 1)) (ha : a < 2 ^ 31) (hb0 : 0 < b) (hb : b < 2 ^ 31) (k : WW l Z M d bc bs (pc + 1) lv ((.int (nI (a / b))) :: st) h Post) : WW l Z M d bc bs pc lv ((.int (nI b)) :: (.int (nI a)) :: st) h Post := ww_idiv hd (nI_ne0 hb0 hb) (by rw [pk_div ha hb0 hb]; exact k)
theorem ww_iremN {a b : Nat} (hd : decode (mm_c M) pc = .ok (.irem, 1)) (ha : a < 2 ^ 31) (hb0 : 0 < b) (hb : b < 2 ^ 31) (k : WW l Z M d bc bs (pc + 1) lv ((.int (nI (a % b))) :: st) h Post) : WW l Z M d bc bs pc lv ((.int (nI b)) :: (.int (nI a)) :: st) h Post := ww_irem hd (nI_ne0 hb0 hb) (by rw [pk_rem ha hb0 hb]; exact k)
theorem ww_icmp_eqN {a b : Nat} {off : Int} {tgt : Nat} (hd : decode (mm_c M) pc = .ok (.if_icmp .eq off, 3)) (ht : (pc : Int) + off = (tgt : Int)) (ha : a < 2 ^ 31) (hb : b < 2 ^ 31) (kt : a = b → WW l Z M d bc bs tgt lv st h Post) (kf : ¬ a = b → WW l Z M d bc bs (pc + 3) lv st h Post) : WW l Z M d bc bs pc lv ((.int (nI b)) :: (.int (nI a)) :: st) h Post := ww_icmp_eq hd ht (fun c => kt ((nI_eq ha hb).mp c)) (fun c => kf (fun e => c (by rw [e])))
theorem ww_icmp_neN {a b : Nat} {off : Int} {tgt : Nat} (hd : decode (mm_c M) pc = .ok (.if_icmp .ne off, 3)) (ht : (pc : Int) + off = (tgt : Int)) (ha : a < 2 ^ 31) (hb : b < 2 ^ 31) (kt : ¬ a = b → WW l Z M d bc bs tgt lv st h Post) (kf : a = b → WW l Z M d bc bs (pc + 3) lv st h Post) : WW l Z M d bc bs pc lv ((.int (nI b)) :: (.int (nI a)) :: st) h Post := by
  refine ww_icmp_ne hd ht (fun c => kt (fun e => ?_)) (fun c => kf ?_)
  · exact c (by rw [e])
  · exact (nI_eq ha hb).mp (by first | exact c | exact Classical.not_not.mp c)
theorem ww_icmp_ltN {a b : Nat} {off : Int} {tgt : Nat} (hd : decode (mm_c M) pc = .ok (.if_icmp .lt off, 3)) (ht : (pc : Int) + off = (tgt : Int)) (ha : a < 2 ^ 31) (hb : b < 2 ^ 31) (kt : a < b → WW l Z M d bc bs tgt lv st h Post) (kf : b ≤ a → WW l Z M d bc bs (pc + 3) lv st h Post) : WW l Z M d bc bs pc lv ((.int (nI b)) :: (.int (nI a)) :: st) h Post := ww_icmp_lt hd ht (fun c => kt ((nI_ltI ha hb).mp c)) (fun c => kf (Nat.not_lt.mp (fun e => c ((nI_ltI ha hb).mpr e))))
theorem ww_icmp_leN {a b : Nat} {off : Int} {tgt : Nat} (hd : decode (mm_c M) pc = .ok (.if_icmp .le off, 3)) (ht : (pc : Int) + off = (tgt : Int)) (ha : a < 2 ^ 31) (hb : b < 2 ^ 31) (kt : a ≤ b → WW l Z M d bc bs tgt lv st h Post) (kf : b < a → WW l Z M d bc bs (pc + 3) lv st h Post) : WW l Z M d bc bs pc lv ((.int (nI b)) :: (.int (nI a)) :: st) h Post := ww_icmp_le hd ht (fun c => kt ((nI_leI ha hb).mp c)) (fun c => kf (Nat.not_le.mp (fun e => c ((nI_leI ha hb).mpr e))))
theorem ww_icmp_geN {a b : Nat} {off : Int} {tgt : Nat} (hd : decode (mm_c M) pc = .ok (.if_icmp .ge off, 3)) (ht : (pc : Int) + off = (tgt : Int)) (ha : a < 2 ^ 31) (hb : b < 2 ^ 31) (kt : b ≤ a → WW l Z M d bc bs tgt lv st h Post) (kf : a < b → WW l Z M d bc bs (pc + 3) lv st h Post) : WW l Z M d bc bs pc lv ((.int (nI b)) :: (.int (nI a)) :: st) h Post := by
  refine ww_icmp_ge hd ht (fun c => kt ((nI_leI hb ha).mp (by first | exact c | exact Int32.not_lt.mp c))) (fun c => kf (Nat.not_le.mp (fun e => c (by first | exact (nI_leI hb ha).mpr e | exact Int32.not_lt.mpr ((nI_leI hb ha).mpr e)))))
theorem ww_icmp_gtN {a b : Nat} {off : Int} {tgt : Nat} (hd : decode (mm_c M) pc = .ok (.if_icmp .gt off, 3)) (ht : (pc : Int) + off = (tgt : Int)) (ha : a < 2 ^ 31) (hb : b < 2 ^ 31) (kt : b < a → WW l Z M d bc bs tgt lv st h Post) (kf : a ≤ b → WW l Z M d bc bs (pc + 3) lv st h Post) : WW l Z M d bc bs pc lv ((.int (nI b)) :: (.int (nI a)) :: st) h Post := by
  refine ww_icmp_gt hd ht (fun c => kt ((nI_ltI hb ha).mp (by first | exact c | exact Int32.not_le.mp c))) (fun c => kf (Nat.not_lt.mp (fun e => c (by first | exact (nI_ltI hb ha).mpr e | exact Int32.not_le.mpr ((nI_ltI hb ha).mpr e)))))
theorem ww_ialdN {a n i : Nat} (hd : decode (mm_c M) pc = .ok (.iaload, 1)) (hk : hp_K h a = (20, n)) (hi : i < n) (hn : n < 2 ^ 31) (k : WW l Z M d bc bs (pc + 1) lv ((.int (hp_I h a i)) :: st) h Post) : WW l Z M d bc bs pc lv ((.int (nI i)) :: (.ref a) :: st) h Post := ww_iald hd hk (vp_in_nI hi hn) (by rw [nI_clamp (by omega)]; exact k)
theorem ww_zaldN {a n i : Nat} (hd : decode (mm_c M) pc = .ok (.baload, 1)) (hk : hp_K h a = (22, n)) (hi : i < n) (hn : n < 2 ^ 31) (k : WW l Z M d bc bs (pc + 1) lv ((.int (hp_I h a i)) :: st) h Post) : WW l Z M d bc bs pc lv ((.int (nI i)) :: (.ref a) :: st) h Post := ww_zald hd hk (vp_in_nI hi hn) (by rw [nI_clamp (by omega)]; exact k)
theorem ww_laldN {a n i : Nat} (hd : decode (mm_c M) pc = .ok (.laload, 1)) (hk : hp_K h a = (21, n)) (hi : i < n) (hn : n < 2 ^ 31) (k : WW l Z M d bc bs (pc + 1) lv ((.long (hp_L h a i)) :: st) h Post) : WW l Z M d bc bs pc lv ((.int (nI i)) :: (.ref a) :: st) h Post := ww_lald hd hk (vp_in_nI hi hn) (by rw [nI_clamp (by omega)]; exact k)
theorem ww_paldN {i : Nat} (hd : decode (mm_c M) pc = .ok (.iaload, 1)) (hi : i < 61) (k : WW l Z M d bc bs (pc + 1) lv ((.int (js_parts.getD i 0)) :: st) h Post) : WW l Z M d bc bs pc lv ((.int (nI i)) :: (.ref 1000000) :: st) h Post := ww_pald hd (vp_in_nI hi (by omega)) (by rw [nI_clamp (by omega)]; exact k)
theorem ww_iastN {a n i : Nat} {x : Int32} (hd : decode (mm_c M) pc = .ok (.iastore, 1)) (hk : hp_K h a = (20, n)) (hi : i < n) (hn : n < 2 ^ 31) (k : WW l Z M d bc bs (pc + 1) lv st (hp_sI h a (upd (hp_I h a) i x)) Post) : WW l Z M d bc bs pc lv ((.int x) :: (.int (nI i)) :: (.ref a) :: st) h Post := ww_iast hd hk (vp_in_nI hi hn) (by rw [nI_clamp (by omega)]; exact k)
theorem ww_zastN {a n i : Nat} {x : Int32} (hd : decode (mm_c M) pc = .ok (.bastore, 1)) (hk : hp_K h a = (22, n)) (hi : i < n) (hn : n < 2 ^ 31) (hx : vp_nar .boolean x = x) (k : WW l Z M d bc bs (pc + 1) lv st (hp_sI h a (upd (hp_I h a) i x)) Post) : WW l Z M d bc bs pc lv ((.int x) :: (.int (nI i)) :: (.ref a) :: st) h Post := ww_zast hd hk (vp_in_nI hi hn) (by rw [nI_clamp (by omega), hx]; exact k)
theorem ww_lastN {a n i : Nat} {x : Int64} (hd : decode (mm_c M) pc = .ok (.lastore, 1)) (hk : hp_K h a = (21, n)) (hi : i < n) (hn : n < 2 ^ 31) (k : WW l Z M d bc bs (pc + 1) lv st (hp_sL h a (vp_updL (hp_L h a) i x)) Post) : WW l Z M d bc bs pc lv ((.long x) :: (.int (nI i)) :: (.ref a) :: st) h Post := ww_last hd hk (vp_in_nI hi hn) (by rw [nI_clamp (by omega)]; exact k)
theorem hp_I_sI (h : PH) (a : Nat) (f : Nat → Int32) (b : Nat) : hp_I (hp_sI h a f) b = if b = a then f else hp_I h b := rfl
theorem hp_I_eq (h : PH) (a : Nat) (f : Nat → Int32) : hp_I (hp_sI h a f) a = f := if_pos rfl
theorem hp_I_ne {h : PH} {a b : Nat} {f : Nat → Int32} (hne : b ≠ a) : hp_I (hp_sI h a f) b = hp_I h b := if_neg hne
theorem hp_L_sL (h : PH) (a : Nat) (f : Nat → Int64) (b : Nat) : hp_L (hp_sL h a f) b = if b = a then f else hp_L h b := rfl
theorem hp_L_eq (h : PH) (a : Nat) (f : Nat → Int64) : hp_L (hp_sL h a f) a = f := if_pos rfl
theorem hp_F_sF (h : PH) (a k : Nat) (v : Value) (b j : Nat) : hp_F (hp_sF h a k v) b j = if b = a ∧ j = k then v else hp_F h b j := rfl
theorem hp_F_eq (h : PH) (a k : Nat) (v : Value) : hp_F (hp_sF h a k v) a k = v := if_pos ⟨rfl, rfl⟩
theorem hp_F_nj {h : PH} {a k b j : Nat} {v w : Value} (hne : j ≠ k) (e : hp_F h b j = w) : hp_F (hp_sF h a k v) b j = w := (if_neg (fun z => hne z.2)).trans e
theorem hp_F_na {h : PH} {a k b j : Nat} {v w : Value} (hne : b ≠ a) (e : hp_F h b j = w) : hp_F (hp_sF h a k v) b j = w := (if_neg (fun z => hne z.1)).trans e
theorem hp_sI_sI (h : PH) (a : Nat) (f g : Nat → Int32) : hp_sI (hp_sI h a f) a g = hp_sI h a g := by
  unfold hp_sI
  simp only [Prod.mk.injEq, true_and, and_true]
  funext b
  by_cases hb : b = a
  · simp [hb]
  · simp [hb]
theorem hp_sL_sL (h : PH) (a : Nat) (f g : Nat → Int64) : hp_sL (hp_sL h a f) a g = hp_sL h a g := by
  unfold hp_sL
  simp only [Prod.mk.injEq, true_and, and_true]
  funext b
  by_cases hb : b = a
  · simp [hb]
  · simp [hb]
theorem hp_sF_sF (h : PH) (a k : Nat) (v w : Value) : hp_sF (hp_sF h a k v) a k w = hp_sF h a k w := by
  unfold hp_sF
  simp only [Prod.mk.injEq, true_and, and_true]
  funext b j
  by_cases hb : b = a ∧ j = k
  · simp [hb]
  · simp [hb]
theorem hp_sI_id (h : PH) (a : Nat) : hp_sI h a (hp_I h a) = h := by
  obtain ⟨h1, h2, h3, h4, h5⟩ := h
  unfold hp_sI hp_I
  simp only [Prod.mk.injEq, true_and, and_true]
  funext b
  by_cases hb : b = a
  · simp [hb]
  · simp [hb]
theorem ww_hp {h2 : PH} (e : h = h2) (k : WW l Z M d bc bs pc lv st h2 Post) : WW l Z M d bc bs pc lv st h Post := e ▸ k
theorem ww_lv (e : lv = lv2) (k : WW l Z M d bc bs pc lv2 st h Post) : WW l Z M d bc bs pc lv st h Post := e ▸ k
theorem ww_post {Post2 : Res → PH → Prop} (hp : ∀ r h', Post2 r h' → Post r h') (k : WW l Z M d bc bs pc lv st h Post2) : WW l Z M d bc bs pc lv st h Post := by
  intro p e s m args below meth c ws0 mc ms ws H locs cells slots rls rst C' S h1 h2
  intro T hT X
  obtain ⟨t, a1, o, b1, b2, b3⟩ := k p e s m args below meth c ws0 mc ms ws H locs cells slots rls rst C' S h1 h2 T hT X
  refine ⟨t, a1, o, b1, b2, ?_⟩
  rcases b3 with ⟨⟨⟨v, ov, h', ws', q1, q2, q3⟩, q4⟩, q5⟩ | ⟨q, q0, E, ce, L, ⟨⟨h', ws', q1, q2⟩, q3⟩, q4⟩
  · exact Or.inl ⟨⟨⟨v, ov, h', ws', q1, hp _ _ q2, q3⟩, q4⟩, q5⟩
  · exact Or.inr ⟨q, q0, E, ce, L, ⟨⟨h', ws', hp _ _ q1, q2⟩, q3⟩, q4⟩
/-- more room than is needed -/
theorem ww_mono {bc2 bs2 : Nat} (h1 : bc2 ≤ bc) (h2 : bs2 ≤ bs) (k : WW l Z M d bc2 bs2 pc lv st h Post) : WW l Z M d bc bs pc lv st h Post := by
  intro p e s m args below meth c ws0 mc ms ws H locs cells slots rls rst C' S g1 g2
  exact k p e s m args below meth c ws0 mc ms ws H locs cells slots rls rst C' S (by omega) (by omega)
def mm_V (N : MM) (n : Nat) : Prop := mm_ok N n ∧ Cond.instanceMethod (mm_y N) ∈ TG ∧ Cond.selects (mm_y N).cls (mm_y N) (mm_y N) ∈ TG ∧ Cond.initialized (mm_y N).cls ∈ TG ∧ Cond.code (mm_y N) (mm_c N) (mm_L N) (mm_r N) ∈ TG ∧ mm_L N ≤ 41 ∧ mm_h N = []
def mm_S (N : MM) (n : Nat) : Prop := mm_ok N n ∧ Cond.static (mm_y N) ∈ TG ∧ Cond.initialized (mm_y N).cls ∈ TG ∧ Cond.code (mm_y N) (mm_c N) (mm_L N) (mm_r N) ∈ TG ∧ mm_L N ≤ 41 ∧ mm_h N = []
def mm_I (N : MM) (n : Nat) : Prop := mm_ok N n ∧ Cond.instanceMethod (mm_y N) ∈ TG ∧ Cond.initialized (mm_y N).cls ∈ TG ∧ Cond.code (mm_y N) (mm_c N) (mm_L N) (mm_r N) ∈ TG ∧ mm_L N ≤ 41 ∧ mm_h N = [] ∧ (mm_y N).name = "<init>" ∧ mm_r N = none
/-- calls: any end -/
theorem ww_cV {N : MM} {a t nn idx n d' mc' ms' : Nat} {T : u_T} {As stk : List Value} {P' : Res → PH → Prop} (hC : CC l Z N d' mc' ms' ((.ref a) :: As) h P') (hV : mm_V N n) (hd : decode (mm_c M) pc = .ok (.invokevirtual idx, 3)) (w1 : Cond.methodLink (mm_own M) idx (mm_y N) ∈ TG) (hk : hp_K h a = (t, nn)) (hc : vwCl[t]? = some ((mm_y N).cls, T, nn)) (hn : As.length = n) (hs : stk = As.reverse ++ (.ref a) :: st) (hh : mm_h M = []) (hdd : d' + 1 ≤ d) (hcat : (st.map fun v => v.category).sum ≤ 8) {bc0 bs0 : Nat} (hbc : bc + mc' ≤ bc0) (hbs : bs + ms' ≤ bs0)
    (kk : ∀ v h', P' (.inl v) h' → WW l Z M d bc bs (pc + 3) lv (v.toList ++ st) h' Post) (kx : ∀ E h', P' (.inr E) h' → Post (.inr E) h') : WW l Z M d bc0 bs0 pc lv stk h Post := by
  obtain ⟨v1, v2, v3, v4, v5, v6, v7⟩ := hV
  subst hs
  exact ww_mono hbc hbs (ww_callV hC hd hh v7 hk hc v1 hn w1 v2 v3 v4 v5 hdd v6 hcat kk kx)
theorem ww_cVr {N : MM} {a t nn idx n d' mc' ms' : Nat} {T : u_T} {As stk : List Value} {v : Value} {h1 : PH} (hC : CC l Z N d' mc' ms' ((.ref a) :: As) h (RT (some v) h1)) (hV : mm_V N n) (hd : decode (mm_c M) pc = .ok (.invokevirtual idx, 3)) (w1 : Cond.methodLink (mm_own M) idx (mm_y N) ∈ TG) (hk : hp_K h a = (t, nn)) (hc : vwCl[t]? = some ((mm_y N).cls, T, nn)) (hn : As.length = n) (hs : stk = As.reverse ++ (.ref a) :: st) (hh : mm_h M = []) (hdd : d' + 1 ≤ d) (hcat : (st.map fun v => v.category).sum ≤ 8) {bc0 bs0 : Nat} (hbc : bc + mc' ≤ bc0) (hbs : bs + ms' ≤ bs0)
    (kk : WW l Z M d bc bs (pc + 3) lv (v :: st) h1 Post) : WW l Z M d bc0 bs0 pc lv stk h Post :=
  ww_cV hC hV hd w1 hk hc hn hs hh hdd hcat hbc hbs (fun v9 h9 hp => by obtain ⟨e1, rfl⟩ := hp; cases e1; exact kk) (fun E h9 hp => by cases hp.1)
theorem ww_cV0 {N : MM} {a t nn idx n d' mc' ms' : Nat} {T : u_T} {As stk : List Value} {h1 : PH} (hC : CC l Z N d' mc' ms' ((.ref a) :: As) h (RT none h1)) (hV : mm_V N n) (hd : decode (mm_c M) pc = .ok (.invokevirtual idx, 3)) (w1 : Cond.methodLink (mm_own M) idx (mm_y N) ∈ TG) (hk : hp_K h a = (t, nn)) (hc : vwCl[t]? = some ((mm_y N).cls, T, nn)) (hn : As.length = n) (hs : stk = As.reverse ++ (.ref a) :: st) (hh : mm_h M = []) (hdd : d' + 1 ≤ d) (hcat : (st.map fun v => v.category).sum ≤ 8) {bc0 bs0 : Nat} (hbc : bc + mc' ≤ bc0) (hbs : bs + ms' ≤ bs0)
    (kk : WW l Z M d bc bs (pc + 3) lv st h1 Post) : WW l Z M d bc0 bs0 pc lv stk h Post :=
  ww_cV hC hV hd w1 hk hc hn hs hh hdd hcat hbc hbs (fun v9 h9 hp => by obtain ⟨e1, rfl⟩ := hp; cases e1; exact kk) (fun E h9 hp => by cases hp.1)
theorem ww_cS {N : MM} {idx n d' mc' ms' : Nat} {As stk : List Value} {P' : Res → PH → Prop} (hC : CC l Z N d' mc' ms' As h P') (hV : mm_S N n) (hd : decode (mm_c M) pc = .ok (.invokestatic idx, 3)) (w1 : Cond.methodLink (mm_own M) idx (mm_y N) ∈ TG) (hn : As.length = n) (hs : stk = As.reverse ++ st) (hh : mm_h M = []) (hdd : d' + 1 ≤ d) (hcat : (st.map fun v => v.category).sum ≤ 8) {bc0 bs0 : Nat} (hbc : bc + mc' ≤ bc0) (hbs : bs + ms' ≤ bs0)
    (kk : ∀ v h', P' (.inl v) h' → WW l Z M d bc bs (pc + 3) lv (v.toList ++ st) h' Post) (kx : ∀ E h', P' (.inr E) h' → Post (.inr E) h') : WW l Z M d bc0 bs0 pc lv stk h Post := by
  obtain ⟨v1, v2, v4, v5, v6, v7⟩ := hV
  subst hs
  exact ww_mono hbc hbs (ww_callS hC hd hh v7 v1 hn w1 v2 v4 v5 hdd v6 hcat kk kx)
theorem ww_cSr {N : MM} {idx n d' mc' ms' : Nat} {As stk : List Value} {v : Value} {h1 : PH} (hC : CC l Z N d' mc' ms' As h (RT (some v) h1)) (hV : mm_S N n) (hd : decode (mm_c M) pc = .ok (.invokestatic idx, 3)) (w1 : Cond.methodLink (mm_own M) idx (mm_y N) ∈ TG) (hn : As.length = n) (hs : stk = As.reverse ++ st) (hh : mm_h M = []) (hdd : d' + 1 ≤ d) (hcat : (st.map fun v => v.category).sum ≤ 8) {bc0 bs0 : Nat} (hbc : bc + mc' ≤ bc0) (hbs : bs + ms' ≤ bs0)
    (kk : WW l Z M d bc bs (pc + 3) lv (v :: st) h1 Post) : WW l Z M d bc0 bs0 pc lv stk h Post :=
  ww_cS hC hV hd w1 hn hs hh hdd hcat hbc hbs (fun v9 h9 hp => by obtain ⟨e1, rfl⟩ := hp; cases e1; exact kk) (fun E h9 hp => by cases hp.1)
theorem ww_cI0 {N : MM} {a idx n d' mc' ms' : Nat} {As stk : List Value} {h1 : PH} (hC : CC l Z N d' mc' ms' ((.ref a) :: As) h (RT none h1)) (hV : mm_I N n) (hd : decode (mm_c M) pc = .ok (.invokespecial idx, 3)) (w1 : Cond.methodLink (mm_own M) idx (mm_y N) ∈ TG) (hka : (hp_K h a).1 ≠ 99) (hn : As.length = n) (hs : stk = As.reverse ++ (.ref a) :: st) (hh : mm_h M = []) (hdd : d' + 1 ≤ d) (hcat : (st.map fun v => v.category).sum ≤ 8) {bc0 bs0 : Nat} (hbc : bc + mc' ≤ bc0) (hbs : bs + ms' ≤ bs0)
    (kk : WW l Z M d bc bs (pc + 3) lv st h1 Post) : WW l Z M d bc0 bs0 pc lv stk h Post := by
  obtain ⟨v1, v2, v4, v5, v6, v7, v8, v9⟩ := hV
  subst hs
  exact ww_mono hbc hbs (ww_callI hC hd hh v7 hka v1 hn v8 v9 w1 v2 v4 v5 hdd v6 hcat (fun v9 h9 hp => by obtain ⟨e1, rfl⟩ := hp; cases e1; exact kk) (fun E h9 hp => by cases hp.1))
theorem ww_cIN0 {N : MM} {host : String} {a idx n d' mc' ms' : Nat} {As stk : List Value} {h1 : PH} (hC : CC l Z N d' mc' ms' ((.ref a) :: As) h (RT none h1)) (hV : mm_I N n) (hd : decode (mm_c M) pc = .ok (.invokespecial idx, 3)) (w1 : Cond.methodLinkNest (mm_own M) idx (mm_y N) host ∈ TN) (hka : (hp_K h a).1 ≠ 99) (hn : As.length = n) (hs : stk = As.reverse ++ (.ref a) :: st) (hh : mm_h M = []) (hdd : d' + 1 ≤ d) (hcat : (st.map fun v => v.category).sum ≤ 8) {bc0 bs0 : Nat} (hbc : bc + mc' ≤ bc0) (hbs : bs + ms' ≤ bs0)
    (kk : WW l Z M d bc bs (pc + 3) lv st h1 Post) : WW l Z M d bc0 bs0 pc lv stk h Post := by
  obtain ⟨v1, v2, v4, v5, v6, v7, v8, v9⟩ := hV
  subst hs
  exact ww_mono hbc hbs (ww_callIN hC hd hh v7 hka v1 hn v8 v9 w1 v2 v4 v5 hdd v6 hcat (fun v9 h9 hp => by obtain ⟨e1, rfl⟩ := hp; cases e1; exact kk) (fun E h9 hp => by cases hp.1))
theorem ee_na_int {v : Int32} (v' : Value) (h1 : v'.category = (Value.int v).category) (h2 : ∀ x, Value.int v = .int x → v' = .int x) (h3 : ∀ x, Value.int v = .long x → v' = .long x) (h4 : (∃ x, Value.int v = .ref x) → ∃ y, v' = .ref y) (h5 : Value.int v = .null → v' = .null) : narrow .int v' = v' ∧ fits .int v' = true := by
  rw [h2 v rfl]
  exact ⟨rfl, rfl⟩
end WWN
