section WWF
variable {l : Launch} {Z : EE} {M : MM} {d bc bs pc : Nat} {lv lv2 st : List Value} {h : PH} {Post : Res → PH → Prop}
/-- a truth value as an int -/
def bI (b : Bool) : Int32 := if b = true then 1 else 0
theorem bI_t : bI true = 1 := rfl
theorem bI_f : bI false = 0 := rfl
theorem hp_I_nx {h : PH} {a b : Nat} {f g : Nat → Int32} (hne : b ≠ a) (e : hp_I h b = g) : hp_I (hp_sI h a f) b = g := (if_neg hne).trans e
theorem hp_L_nx {h : PH} {a b : Nat} {f g : Nat → Int64} (hne : b ≠ a) (e : hp_L h b = g) : hp_L (hp_sL h a f) b = g := (if_neg hne).trans e
theorem ww_ialdF {a n i : Nat} {f : Nat → Int32} (hd : decode (mm_c M) pc = .ok (.iaload, 1)) (hk : hp_K h a = (20, n)) (hf : hp_I h a = f) (hi : i < n) (hn : n < 2 ^ 31) (k : WW l Z M d bc bs (pc + 1) lv ((.int (f i)) :: st) h Post) : WW l Z M d bc bs pc lv ((.int (nI i)) :: (.ref a) :: st) h Post := ww_ialdN hd hk hi hn (by rw [hf]; exact k)
theorem ww_zaldF {a n i : Nat} {f : Nat → Int32} (hd : decode (mm_c M) pc = .ok (.baload, 1)) (hk : hp_K h a = (22, n)) (hf : hp_I h a = f) (hi : i < n) (hn : n < 2 ^ 31) (k : WW l Z M d bc bs (pc + 1) lv ((.int (f i)) :: st) h Post) : WW l Z M d bc bs pc lv ((.int (nI i)) :: (.ref a) :: st) h Post := ww_zaldN hd hk hi hn (by rw [hf]; exact k)
theorem ww_laldF {a n i : Nat} {f : Nat → Int64} (hd : decode (mm_c M) pc = .ok (.laload, 1)) (hk : hp_K h a = (21, n)) (hf : hp_L h a = f) (hi : i < n) (hn : n < 2 ^ 31) (k : WW l Z M d bc bs (pc + 1) lv ((.long (f i)) :: st) h Post) : WW l Z M d bc bs pc lv ((.int (nI i)) :: (.ref a) :: st) h Post := ww_laldN hd hk hi hn (by rw [hf]; exact k)
theorem ww_iastF {a n i : Nat} {f : Nat → Int32} {x : Int32} (hd : decode (mm_c M) pc = .ok (.iastore, 1)) (hk : hp_K h a = (20, n)) (hf : hp_I h a = f) (hi : i < n) (hn : n < 2 ^ 31) (k : WW l Z M d bc bs (pc + 1) lv st (hp_sI h a (upd f i x)) Post) : WW l Z M d bc bs pc lv ((.int x) :: (.int (nI i)) :: (.ref a) :: st) h Post := ww_iastN hd hk hi hn (by rw [hf]; exact k)
theorem ww_iastC {a n i : Nat} {f : Nat → Int32} {x : Int32} (hd : decode (mm_c M) pc = .ok (.iastore, 1)) (hk : hp_K h a = (20, n)) (hi : i < n) (hn : n < 2 ^ 31) (k : WW l Z M d bc bs (pc + 1) lv st (hp_sI h a (upd f i x)) Post) : WW l Z M d bc bs pc lv ((.int x) :: (.int (nI i)) :: (.ref a) :: st) (hp_sI h a f) Post := ww_iastN (h := hp_sI h a f) hd hk hi hn (by rw [hp_I_eq, hp_sI_sI]; exact k)
theorem ww_zastF {a n i : Nat} {f : Nat → Int32} {x : Int32} (hd : decode (mm_c M) pc = .ok (.bastore, 1)) (hk : hp_K h a = (22, n)) (hf : hp_I h a = f) (hi : i < n) (hn : n < 2 ^ 31) (hx : vp_nar .boolean x = x) (k : WW l Z M d bc bs (pc + 1) lv st (hp_sI h a (upd f i x)) Post) : WW l Z M d bc bs pc lv ((.int x) :: (.int (nI i)) :: (.ref a) :: st) h Post := ww_zastN hd hk hi hn hx (by rw [hf]; exact k)
theorem ww_zastC {a n i : Nat} {f : Nat → Int32} {x : Int32} (hd : decode (mm_c M) pc = .ok (.bastore, 1)) (hk : hp_K h a = (22, n)) (hi : i < n) (hn : n < 2 ^ 31) (hx : vp_nar .boolean x = x) (k : WW l Z M d bc bs (pc + 1) lv st (hp_sI h a (upd f i x)) Post) : WW l Z M d bc bs pc lv ((.int x) :: (.int (nI i)) :: (.ref a) :: st) (hp_sI h a f) Post := ww_zastN (h := hp_sI h a f) hd hk hi hn hx (by rw [hp_I_eq, hp_sI_sI]; exact k)
theorem ww_lastF {a n i : Nat} {f : Nat → Int64} {x : Int64} (hd : decode (mm_c M) pc = .ok (.lastore, 1)) (hk : hp_K h a = (21, n)) (hf : hp_L h a = f) (hi : i < n) (hn : n < 2 ^ 31) (k : WW l Z M d bc bs (pc + 1) lv st (hp_sL h a (vp_updL f i x)) Post) : WW l Z M d bc bs pc lv ((.long x) :: (.int (nI i)) :: (.ref a) :: st) h Post := ww_lastN hd hk hi hn (by rw [hf]; exact k)
theorem ww_lastC {a n i : Nat} {f : Nat → Int64} {x : Int64} (hd : decode (mm_c M) pc = .ok (.lastore, 1)) (hk : hp_K h a = (21, n)) (hi : i < n) (hn : n < 2 ^ 31) (k : WW l Z M d bc bs (pc + 1) lv st (hp_sL h a (vp_updL f i x)) Post) : WW l Z M d bc bs pc lv ((.long x) :: (.int (nI i)) :: (.ref a) :: st) (hp_sL h a f) Post := ww_lastN (h := hp_sL h a f) hd hk hi hn (by rw [hp_L_eq, hp_sL_sL]; exact k)
theorem ww_if_eqB {b : Bool} {off : Int} {tgt : Nat} (hd : decode (mm_c M) pc = .ok (.ifCond .eq off, 3)) (ht : (pc : Int) + off = (tgt : Int)) (kt : b = false → WW l Z M d bc bs tgt lv st h Post) (kf : b = true → WW l Z M d bc bs (pc + 3) lv st h Post) : WW l Z M d bc bs pc lv ((.int (bI b)) :: st) h Post := ww_if_eq hd ht (fun c => kt (by cases b; rfl; exact absurd c (by decide))) (fun c => kf (by cases b; exact absurd rfl c; rfl))
theorem ww_if_neB {b : Bool} {off : Int} {tgt : Nat} (hd : decode (mm_c M) pc = .ok (.ifCond .ne off, 3)) (ht : (pc : Int) + off = (tgt : Int)) (kt : b = true → WW l Z M d bc bs tgt lv st h Post) (kf : b = false → WW l Z M d bc bs (pc + 3) lv st h Post) : WW l Z M d bc bs pc lv ((.int (bI b)) :: st) h Post := by
  cases b with
  | true => exact ww_if_ne hd ht (fun _ => kt rfl) (fun c => absurd (by decide : ¬ bI true = 0) (fun e => by first | exact c e | exact e c | exact absurd c (by decide)))
  | false => exact ww_if_ne hd ht (fun c => absurd c (by decide)) (fun _ => kf rfl)
theorem ww_if_eqN {a : Nat} {off : Int} {tgt : Nat} (hd : decode (mm_c M) pc = .ok (.ifCond .eq off, 3)) (ht : (pc : Int) + off = (tgt : Int)) (ha : a < 2 ^ 31) (kt : a = 0 → WW l Z M d bc bs tgt lv st h Post) (kf : 0 < a → WW l Z M d bc bs (pc + 3) lv st h Post) : WW l Z M d bc bs pc lv ((.int (nI a)) :: st) h Post := ww_if_eq hd ht (fun c => kt (by rcases Nat.eq_zero_or_pos a with e | e; exact e; exact absurd c (nI_ne0 e ha))) (fun c => kf (by rcases Nat.eq_zero_or_pos a with e | e; exact absurd (by rw [e]; rfl) c; exact e))
theorem ww_if_neN {a : Nat} {off : Int} {tgt : Nat} (hd : decode (mm_c M) pc = .ok (.ifCond .ne off, 3)) (ht : (pc : Int) + off = (tgt : Int)) (ha : a < 2 ^ 31) (kt : 0 < a → WW l Z M d bc bs tgt lv st h Post) (kf : a = 0 → WW l Z M d bc bs (pc + 3) lv st h Post) : WW l Z M d bc bs pc lv ((.int (nI a)) :: st) h Post := by
  refine ww_if_ne hd ht (fun c => kt ?_) (fun c => kf ?_)
  · rcases Nat.eq_zero_or_pos a with e | e
    · exact absurd (by rw [e]; rfl : nI a = 0) c
    · exact e
  · rcases Nat.eq_zero_or_pos a with e | e
    · exact e
    · exact absurd (by first | exact c | exact Classical.not_not.mp c) (nI_ne0 e ha)
theorem ww_if_ltN {a : Nat} {off : Int} {tgt : Nat} (hd : decode (mm_c M) pc = .ok (.ifCond .lt off, 3)) (ht : (pc : Int) + off = (tgt : Int)) (ha : a < 2 ^ 31) (kf : WW l Z M d bc bs (pc + 3) lv st h Post) : WW l Z M d bc bs pc lv ((.int (nI a)) :: st) h Post := ww_if_lt hd ht (fun c => absurd c (nI_pos ha)) (fun _ => kf)
theorem ww_if_geN {a : Nat} {off : Int} {tgt : Nat} (hd : decode (mm_c M) pc = .ok (.ifCond .ge off, 3)) (ht : (pc : Int) + off = (tgt : Int)) (ha : a < 2 ^ 31) (kt : WW l Z M d bc bs tgt lv st h Post) : WW l Z M d bc bs pc lv ((.int (nI a)) :: st) h Post := ww_if_ge hd ht (fun _ => kt) (fun c => absurd (nI_pos' ha) (by first | exact c | exact Int32.not_le.mpr c))
theorem ww_if_leN {a : Nat} {off : Int} {tgt : Nat} (hd : decode (mm_c M) pc = .ok (.ifCond .le off, 3)) (ht : (pc : Int) + off = (tgt : Int)) (ha : a < 2 ^ 31) (kt : a = 0 → WW l Z M d bc bs tgt lv st h Post) (kf : 0 < a → WW l Z M d bc bs (pc + 3) lv st h Post) : WW l Z M d bc bs pc lv ((.int (nI a)) :: st) h Post := ww_if_le hd ht (fun c => kt (by rcases Nat.eq_zero_or_pos a with e | e; exact e; exact absurd c (nI_nle e ha))) (fun c => kf (by rcases Nat.eq_zero_or_pos a with e | e; exact absurd (by rw [e]; decide) c; exact e))
theorem ww_if_gtN {a : Nat} {off : Int} {tgt : Nat} (hd : decode (mm_c M) pc = .ok (.ifCond .gt off, 3)) (ht : (pc : Int) + off = (tgt : Int)) (ha : a < 2 ^ 31) (kt : 0 < a → WW l Z M d bc bs tgt lv st h Post) (kf : a = 0 → WW l Z M d bc bs (pc + 3) lv st h Post) : WW l Z M d bc bs pc lv ((.int (nI a)) :: st) h Post := by
  refine ww_if_gt hd ht (fun c => kt ?_) (fun c => kf ?_)
  · rcases Nat.eq_zero_or_pos a with e | e
    · exact absurd c (by rw [e]; decide)
    · exact e
  · rcases Nat.eq_zero_or_pos a with e | e
    · exact e
    · exact absurd (by have h9 := nI_lt e ha; rw [nI_0] at h9; exact h9) (by first | exact c | exact Int32.not_lt.mpr c)
/-- an int into a field -/
theorem ww_pfI {a t n idx : Nat} {C : String} {T : u_T} (ty0 : Nat → FieldType) (j : Nat) {x : Int32} (hd : decode (mm_c M) pc = .ok (.putfield idx, 3)) (hk : hp_K h a = (t, n)) (hc : vwCl[t]? = some (C, T, n)) (hj : j < n) (hin : ∀ w ∈ u_ws C T n, w ∈ TG) (hty : ∀ k, k < n → parseFieldDescriptor (T k).2.2.1 = some (ty0 k)) (hnm0 : ∀ a, a < n → ∀ b, b < n → a ≠ b → (T a).2.1 ≠ (T b).2.1) (hw : Cond.fieldLink (mm_own M) idx (T j).1 (T j).2.1 (T j).2.2.1 ∈ TG) (hfin : (T j).2.2.2 = false) (hi : ty0 j = .int) (k : WW l Z M d bc bs (pc + 3) lv st (hp_sF h a j (.int x)) Post) : WW l Z M d bc bs pc lv ((.int x) :: (.ref a) :: st) h Post :=
  ww_put ty0 j hd hk hc hj hin hty hnm0 hw hfin (by rw [hi]; exact ee_na_int) k
theorem ww_pfIC {a t n idx : Nat} {C : String} {T : u_T} (ty0 : Nat → FieldType) (j : Nat) {x : Int32} {v : Value} (hd : decode (mm_c M) pc = .ok (.putfield idx, 3)) (hk : hp_K h a = (t, n)) (hc : vwCl[t]? = some (C, T, n)) (hj : j < n) (hin : ∀ w ∈ u_ws C T n, w ∈ TG) (hty : ∀ k, k < n → parseFieldDescriptor (T k).2.2.1 = some (ty0 k)) (hnm0 : ∀ a, a < n → ∀ b, b < n → a ≠ b → (T a).2.1 ≠ (T b).2.1) (hw : Cond.fieldLink (mm_own M) idx (T j).1 (T j).2.1 (T j).2.2.1 ∈ TG) (hfin : (T j).2.2.2 = false) (hi : ty0 j = .int) (k : WW l Z M d bc bs (pc + 3) lv st (hp_sF h a j (.int x)) Post) : WW l Z M d bc bs pc lv ((.int x) :: (.ref a) :: st) (hp_sF h a j v) Post :=
  ww_put (h := hp_sF h a j v) ty0 j hd hk hc hj hin hty hnm0 hw hfin (by rw [hi]; exact ee_na_int) (by rw [hp_sF_sF]; exact k)
theorem ee_na_ref {x : Nat} {ty : FieldType} (hty : (∃ n, ty = .object n) ∨ ∃ t, ty = .array t) (v' : Value) (h1 : v'.category = (Value.ref x).category) (h2 : ∀ z, Value.ref x = .int z → v' = .int z) (h3 : ∀ z, Value.ref x = .long z → v' = .long z) (h4 : (∃ z, Value.ref x = .ref z) → ∃ y, v' = .ref y) (h5 : Value.ref x = .null → v' = .null) : narrow ty v' = v' ∧ fits ty v' = true := by
  obtain ⟨y, rfl⟩ := h4 ⟨x, rfl⟩
  rcases hty with ⟨n, rfl⟩ | ⟨t, rfl⟩ <;> exact ⟨rfl, rfl⟩
theorem ee_na_null {ty : FieldType} (hty : (∃ n, ty = .object n) ∨ ∃ t, ty = .array t) (v' : Value) (h1 : v'.category = (Value.null).category) (h2 : ∀ z, Value.null = .int z → v' = .int z) (h3 : ∀ z, Value.null = .long z → v' = .long z) (h4 : (∃ z, Value.null = .ref z) → ∃ y, v' = .ref y) (h5 : Value.null = .null → v' = .null) : narrow ty v' = v' ∧ fits ty v' = true := by
  rw [h5 rfl]
  rcases hty with ⟨n, rfl⟩ | ⟨t, rfl⟩ <;> exact ⟨rfl, rfl⟩
theorem hp_ext {h h2 : PH} (e1 : hp_N h = hp_N h2) (e2 : ∀ b, hp_K h b = hp_K h2 b) (e3 : ∀ b j, hp_F h b j = hp_F h2 b j) (e4 : ∀ b, hp_I h b = hp_I h2 b) (e5 : ∀ b, hp_L h b = hp_L h2 b) : h = h2 := by
  obtain ⟨a1, a2, a3, a4, a5⟩ := h
  obtain ⟨b1, b2, b3, b4, b5⟩ := h2
  have q1 : a1 = b1 := e1
  have q2 : a2 = b2 := funext e2
  have q3 : a3 = b3 := funext (fun b => funext (e3 b))
  have q4 : a4 = b4 := funext e4
  have q5 : a5 = b5 := funext e5
  subst q1 q2 q3 q4 q5
  rfl
end WWF
