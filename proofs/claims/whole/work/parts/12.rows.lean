theorem ee_F2.c {α β : Type} {R : α → β → Prop} {a : α} {l : List α} {m : List β} (h : ee_F2 R (a :: l) m) : ∃ b m', m = b :: m' ∧ R a b ∧ ee_F2 R l m' := by
  cases m with
  | nil => exact h.elim
  | cons b m => exact ⟨b, m, rfl, h.1, h.2⟩
theorem ee_LR.get {Z : EE} {ws : va_W} {nL : Nat} {lv : List Value} {rls : Array Slot} {i : Nat} {v : Value} (h : ee_LR Z ws nL lv rls) (hi : lv[i]? = some v) (hv : v ≠ UU) : ∃ v', ee_VR Z ws v v' ∧ rls[i]? = some (.val v') := (h.2.2 i v hi).resolve_left hv
section WWR
variable {l : Launch} {Z : EE} {M : MM} {d bc bs pc : Nat} {lv st : List Value} {h : PH} {Post : Res → PH → Prop}
theorem ww_iconst {n : Int} {v : Int32} (hd : decode (mm_c M) pc = .ok (.iconst n, 1)) (hv : Int32.ofInt n = v) (k : WW l Z M d bc bs (pc + 1) lv (.int v :: st) h Post) : WW l Z M d bc bs pc lv (st) h Post := by
  intro p e s m args below meth c ws0 mc ms ws H locs cells slots rls rst C S h1 h2
  have C' := C
  obtain ⟨hx, hb, hr, hml, hown, hts, hlocks, htab, hK, hZ, hst, hnm⟩ := C'
  obtain ⟨hHR, hP, hD, hS, hL, hF, hE⟩ := S
  refine lv_iconst hx hb hd hv ?_
  exact k p e s m args below meth c ws0 mc ms ws H locs cells slots rls _ C ⟨hHR, hP, hD, hS, hL, ⟨rfl, hF⟩, hE⟩ h1 h2
theorem ww_bipush {n : Int} {v : Int32} (hd : decode (mm_c M) pc = .ok (.bipush n, 2)) (hv : (Int8.ofInt n).toInt32 = v) (k : WW l Z M d bc bs (pc + 2) lv (.int v :: st) h Post) : WW l Z M d bc bs pc lv (st) h Post := by
  intro p e s m args below meth c ws0 mc ms ws H locs cells slots rls rst C S h1 h2
  have C' := C
  obtain ⟨hx, hb, hr, hml, hown, hts, hlocks, htab, hK, hZ, hst, hnm⟩ := C'
  obtain ⟨hHR, hP, hD, hS, hL, hF, hE⟩ := S
  refine lv_bipush hx hb hd hv ?_
  exact k p e s m args below meth c ws0 mc ms ws H locs cells slots rls _ C ⟨hHR, hP, hD, hS, hL, ⟨rfl, hF⟩, hE⟩ h1 h2
theorem ww_sipush {n : Int} {v : Int32} (hd : decode (mm_c M) pc = .ok (.sipush n, 3)) (hv : (Int16.ofInt n).toInt32 = v) (k : WW l Z M d bc bs (pc + 3) lv (.int v :: st) h Post) : WW l Z M d bc bs pc lv (st) h Post := by
  intro p e s m args below meth c ws0 mc ms ws H locs cells slots rls rst C S h1 h2
  have C' := C
  obtain ⟨hx, hb, hr, hml, hown, hts, hlocks, htab, hK, hZ, hst, hnm⟩ := C'
  obtain ⟨hHR, hP, hD, hS, hL, hF, hE⟩ := S
  refine lv_sipush hx hb hd hv ?_
  exact k p e s m args below meth c ws0 mc ms ws H locs cells slots rls _ C ⟨hHR, hP, hD, hS, hL, ⟨rfl, hF⟩, hE⟩ h1 h2
theorem ww_ldc {n : Nat} {v : Int32} (hd : decode (mm_c M) pc = .ok (.ldc n, 2)) (hw : Cond.constant (mm_own M) n v ∈ TG) (k : WW l Z M d bc bs (pc + 2) lv (.int v :: st) h Post) : WW l Z M d bc bs pc lv (st) h Post := by
  intro p e s m args below meth c ws0 mc ms ws H locs cells slots rls rst C S h1 h2
  have C' := C
  obtain ⟨hx, hb, hr, hml, hown, hts, hlocks, htab, hK, hZ, hst, hnm⟩ := C'
  obtain ⟨hHR, hP, hD, hS, hL, hF, hE⟩ := S
  refine lv_ldc hx hb hown (hts _ hw) hd ?_
  exact k p e s m args below meth c ws0 mc ms ws H locs cells slots rls _ C ⟨hHR, hP, hD, hS, hL, ⟨rfl, hF⟩, hE⟩ h1 h2
theorem ww_ldcw {n : Nat} {v : Int32} (hd : decode (mm_c M) pc = .ok (.ldc_w n, 3)) (hw : Cond.constant (mm_own M) n v ∈ TG) (k : WW l Z M d bc bs (pc + 3) lv (.int v :: st) h Post) : WW l Z M d bc bs pc lv (st) h Post := by
  intro p e s m args below meth c ws0 mc ms ws H locs cells slots rls rst C S h1 h2
  have C' := C
  obtain ⟨hx, hb, hr, hml, hown, hts, hlocks, htab, hK, hZ, hst, hnm⟩ := C'
  obtain ⟨hHR, hP, hD, hS, hL, hF, hE⟩ := S
  refine lv_ldcw hx hb hown (hts _ hw) hd ?_
  exact k p e s m args below meth c ws0 mc ms ws H locs cells slots rls _ C ⟨hHR, hP, hD, hS, hL, ⟨rfl, hF⟩, hE⟩ h1 h2
theorem ww_ldc2 {n : Nat} {v : Int64} (hd : decode (mm_c M) pc = .ok (.ldc2_w n, 3)) (hw : Cond.constantLong (mm_own M) n v ∈ TG) (k : WW l Z M d bc bs (pc + 3) lv (.long v :: st) h Post) : WW l Z M d bc bs pc lv (st) h Post := by
  intro p e s m args below meth c ws0 mc ms ws H locs cells slots rls rst C S h1 h2
  have C' := C
  obtain ⟨hx, hb, hr, hml, hown, hts, hlocks, htab, hK, hZ, hst, hnm⟩ := C'
  obtain ⟨hHR, hP, hD, hS, hL, hF, hE⟩ := S
  refine lv_ldc2 hx hb hown (hts _ hw) hd ?_
  exact k p e s m args below meth c ws0 mc ms ws H locs cells slots rls _ C ⟨hHR, hP, hD, hS, hL, ⟨rfl, hF⟩, hE⟩ h1 h2
theorem ww_lconst {n : Fin 2} {v : Int64} (hd : decode (mm_c M) pc = .ok (.lconst n, 1)) (hv : Int64.ofNat (n : Nat) = v) (k : WW l Z M d bc bs (pc + 1) lv (.long v :: st) h Post) : WW l Z M d bc bs pc lv (st) h Post := by
  intro p e s m args below meth c ws0 mc ms ws H locs cells slots rls rst C S h1 h2
  have C' := C
  obtain ⟨hx, hb, hr, hml, hown, hts, hlocks, htab, hK, hZ, hst, hnm⟩ := C'
  obtain ⟨hHR, hP, hD, hS, hL, hF, hE⟩ := S
  refine lv_lconst hx hb hd hv ?_
  exact k p e s m args below meth c ws0 mc ms ws H locs cells slots rls _ C ⟨hHR, hP, hD, hS, hL, ⟨rfl, hF⟩, hE⟩ h1 h2
theorem ww_null  (hd : decode (mm_c M) pc = .ok (.aconst_null, 1)) (k : WW l Z M d bc bs (pc + 1) lv (.null :: st) h Post) : WW l Z M d bc bs pc lv (st) h Post := by
  intro p e s m args below meth c ws0 mc ms ws H locs cells slots rls rst C S h1 h2
  have C' := C
  obtain ⟨hx, hb, hr, hml, hown, hts, hlocks, htab, hK, hZ, hst, hnm⟩ := C'
  obtain ⟨hHR, hP, hD, hS, hL, hF, hE⟩ := S
  refine lv_null hx hb hd ?_
  exact k p e s m args below meth c ws0 mc ms ws H locs cells slots rls _ C ⟨hHR, hP, hD, hS, hL, ⟨rfl, hF⟩, hE⟩ h1 h2
theorem ww_ldcS {n i : Nat} {tx : String} (hd : decode (mm_c M) pc = .ok (.ldc n, 2)) (hs : js_own[i]? = some (mm_own M, n, tx)) (k : WW l Z M d bc bs (pc + 2) lv (.ref (1000000 + (1 + i)) :: st) h Post) : WW l Z M d bc bs pc lv (st) h Post := by
  intro p e s m args below meth c ws0 mc ms ws H locs cells slots rls rst C S h1 h2
  have C' := C
  obtain ⟨hx, hb, hr, hml, hown, hts, hlocks, htab, hK, hZ, hst, hnm⟩ := C'
  obtain ⟨hHR, hP, hD, hS, hL, hF, hE⟩ := S
  refine va_ldcS hx hb hown (hZ.2.2.2.1 i _ hs) hd ?_
  exact k p e s m args below meth c ws0 mc ms ws H locs cells slots rls _ C ⟨hHR, hP, hD, hS, hL, ⟨Or.inr ⟨Nat.le_add_right _ _, congrArg (fun z => Value.ref (Z.2.2 z)) (Nat.add_sub_cancel_left _ _).symm⟩, hF⟩, hE⟩ h1 h2
theorem ww_iadd {x y : Int32} (hd : decode (mm_c M) pc = .ok (.iadd, 1)) (k : WW l Z M d bc bs (pc + 1) lv (.int (x + y) :: st) h Post) : WW l Z M d bc bs pc lv (.int y :: .int x :: st) h Post := by
  intro p e s m args below meth c ws0 mc ms ws H locs cells slots rls rst C S h1 h2
  have C' := C
  obtain ⟨hx, hb, hr, hml, hown, hts, hlocks, htab, hK, hZ, hst, hnm⟩ := C'
  obtain ⟨hHR, hP, hD, hS, hL, hF, hE⟩ := S
  obtain ⟨b0, r0, e0, q0, F1⟩ := hF.c
  subst e0
  cases (show b0 = Value.int y from q0)
  obtain ⟨b1, r1, e1, q1, F2⟩ := F1.c
  subst e1
  cases (show b1 = Value.int x from q1)
  refine lv_iadd hx hb hd ?_
  exact k p e s m args below meth c ws0 mc ms ws H locs cells slots rls _ C ⟨hHR, hP, hD, hS, hL, ⟨rfl, F2⟩, hE⟩ h1 h2
theorem ww_isub {x y : Int32} (hd : decode (mm_c M) pc = .ok (.isub, 1)) (k : WW l Z M d bc bs (pc + 1) lv (.int (x - y) :: st) h Post) : WW l Z M d bc bs pc lv (.int y :: .int x :: st) h Post := by
  intro p e s m args below meth c ws0 mc ms ws H locs cells slots rls rst C S h1 h2
  have C' := C
  obtain ⟨hx, hb, hr, hml, hown, hts, hlocks, htab, hK, hZ, hst, hnm⟩ := C'
  obtain ⟨hHR, hP, hD, hS, hL, hF, hE⟩ := S
  obtain ⟨b0, r0, e0, q0, F1⟩ := hF.c
  subst e0
  cases (show b0 = Value.int y from q0)
  obtain ⟨b1, r1, e1, q1, F2⟩ := F1.c
  subst e1
  cases (show b1 = Value.int x from q1)
  refine lv_isub hx hb hd ?_
  exact k p e s m args below meth c ws0 mc ms ws H locs cells slots rls _ C ⟨hHR, hP, hD, hS, hL, ⟨rfl, F2⟩, hE⟩ h1 h2
theorem ww_imul {x y : Int32} (hd : decode (mm_c M) pc = .ok (.imul, 1)) (k : WW l Z M d bc bs (pc + 1) lv (.int (x * y) :: st) h Post) : WW l Z M d bc bs pc lv (.int y :: .int x :: st) h Post := by
  intro p e s m args below meth c ws0 mc ms ws H locs cells slots rls rst C S h1 h2
  have C' := C
  obtain ⟨hx, hb, hr, hml, hown, hts, hlocks, htab, hK, hZ, hst, hnm⟩ := C'
  obtain ⟨hHR, hP, hD, hS, hL, hF, hE⟩ := S
  obtain ⟨b0, r0, e0, q0, F1⟩ := hF.c
  subst e0
  cases (show b0 = Value.int y from q0)
  obtain ⟨b1, r1, e1, q1, F2⟩ := F1.c
  subst e1
  cases (show b1 = Value.int x from q1)
  refine lv_imul hx hb hd ?_
  exact k p e s m args below meth c ws0 mc ms ws H locs cells slots rls _ C ⟨hHR, hP, hD, hS, hL, ⟨rfl, F2⟩, hE⟩ h1 h2
theorem ww_iand {x y : Int32} (hd : decode (mm_c M) pc = .ok (.iand, 1)) (k : WW l Z M d bc bs (pc + 1) lv (.int (x &&& y) :: st) h Post) : WW l Z M d bc bs pc lv (.int y :: .int x :: st) h Post := by
  intro p e s m args below meth c ws0 mc ms ws H locs cells slots rls rst C S h1 h2
  have C' := C
  obtain ⟨hx, hb, hr, hml, hown, hts, hlocks, htab, hK, hZ, hst, hnm⟩ := C'
  obtain ⟨hHR, hP, hD, hS, hL, hF, hE⟩ := S
  obtain ⟨b0, r0, e0, q0, F1⟩ := hF.c
  subst e0
  cases (show b0 = Value.int y from q0)
  obtain ⟨b1, r1, e1, q1, F2⟩ := F1.c
  subst e1
  cases (show b1 = Value.int x from q1)
  refine lv_iand hx hb hd ?_
  exact k p e s m args below meth c ws0 mc ms ws H locs cells slots rls _ C ⟨hHR, hP, hD, hS, hL, ⟨rfl, F2⟩, hE⟩ h1 h2
theorem ww_ior {x y : Int32} (hd : decode (mm_c M) pc = .ok (.ior, 1)) (k : WW l Z M d bc bs (pc + 1) lv (.int (x ||| y) :: st) h Post) : WW l Z M d bc bs pc lv (.int y :: .int x :: st) h Post := by
  intro p e s m args below meth c ws0 mc ms ws H locs cells slots rls rst C S h1 h2
  have C' := C
  obtain ⟨hx, hb, hr, hml, hown, hts, hlocks, htab, hK, hZ, hst, hnm⟩ := C'
  obtain ⟨hHR, hP, hD, hS, hL, hF, hE⟩ := S
  obtain ⟨b0, r0, e0, q0, F1⟩ := hF.c
  subst e0
  cases (show b0 = Value.int y from q0)
  obtain ⟨b1, r1, e1, q1, F2⟩ := F1.c
  subst e1
  cases (show b1 = Value.int x from q1)
  refine lv_ior hx hb hd ?_
  exact k p e s m args below meth c ws0 mc ms ws H locs cells slots rls _ C ⟨hHR, hP, hD, hS, hL, ⟨rfl, F2⟩, hE⟩ h1 h2
theorem ww_ishl {x y : Int32} (hd : decode (mm_c M) pc = .ok (.ishl, 1)) (k : WW l Z M d bc bs (pc + 1) lv (.int (x <<< (y &&& 31)) :: st) h Post) : WW l Z M d bc bs pc lv (.int y :: .int x :: st) h Post := by
  intro p e s m args below meth c ws0 mc ms ws H locs cells slots rls rst C S h1 h2
  have C' := C
  obtain ⟨hx, hb, hr, hml, hown, hts, hlocks, htab, hK, hZ, hst, hnm⟩ := C'
  obtain ⟨hHR, hP, hD, hS, hL, hF, hE⟩ := S
  obtain ⟨b0, r0, e0, q0, F1⟩ := hF.c
  subst e0
  cases (show b0 = Value.int y from q0)
  obtain ⟨b1, r1, e1, q1, F2⟩ := F1.c
  subst e1
  cases (show b1 = Value.int x from q1)
  refine lv_ishl hx hb hd ?_
  exact k p e s m args below meth c ws0 mc ms ws H locs cells slots rls _ C ⟨hHR, hP, hD, hS, hL, ⟨rfl, F2⟩, hE⟩ h1 h2
theorem ww_ishr {x y : Int32} (hd : decode (mm_c M) pc = .ok (.ishr, 1)) (k : WW l Z M d bc bs (pc + 1) lv (.int (x >>> (y &&& 31)) :: st) h Post) : WW l Z M d bc bs pc lv (.int y :: .int x :: st) h Post := by
  intro p e s m args below meth c ws0 mc ms ws H locs cells slots rls rst C S h1 h2
  have C' := C
  obtain ⟨hx, hb, hr, hml, hown, hts, hlocks, htab, hK, hZ, hst, hnm⟩ := C'
  obtain ⟨hHR, hP, hD, hS, hL, hF, hE⟩ := S
  obtain ⟨b0, r0, e0, q0, F1⟩ := hF.c
  subst e0
  cases (show b0 = Value.int y from q0)
  obtain ⟨b1, r1, e1, q1, F2⟩ := F1.c
  subst e1
  cases (show b1 = Value.int x from q1)
  refine lv_ishr hx hb hd ?_
  exact k p e s m args below meth c ws0 mc ms ws H locs cells slots rls _ C ⟨hHR, hP, hD, hS, hL, ⟨rfl, F2⟩, hE⟩ h1 h2
theorem ww_idiv {x y : Int32} (hd : decode (mm_c M) pc = .ok (.idiv, 1)) (hne : ¬ y = 0) (k : WW l Z M d bc bs (pc + 1) lv (.int (x / y) :: st) h Post) : WW l Z M d bc bs pc lv (.int y :: .int x :: st) h Post := by
  intro p e s m args below meth c ws0 mc ms ws H locs cells slots rls rst C S h1 h2
  have C' := C
  obtain ⟨hx, hb, hr, hml, hown, hts, hlocks, htab, hK, hZ, hst, hnm⟩ := C'
  obtain ⟨hHR, hP, hD, hS, hL, hF, hE⟩ := S
  obtain ⟨b0, r0, e0, q0, F1⟩ := hF.c
  subst e0
  cases (show b0 = Value.int y from q0)
  obtain ⟨b1, r1, e1, q1, F2⟩ := F1.c
  subst e1
  cases (show b1 = Value.int x from q1)
  refine lv_idiv hx hb hd hne ?_
  exact k p e s m args below meth c ws0 mc ms ws H locs cells slots rls _ C ⟨hHR, hP, hD, hS, hL, ⟨rfl, F2⟩, hE⟩ h1 h2
theorem ww_irem {x y : Int32} (hd : decode (mm_c M) pc = .ok (.irem, 1)) (hne : ¬ y = 0) (k : WW l Z M d bc bs (pc + 1) lv (.int (x - x / y * y) :: st) h Post) : WW l Z M d bc bs pc lv (.int y :: .int x :: st) h Post := by
  intro p e s m args below meth c ws0 mc ms ws H locs cells slots rls rst C S h1 h2
  have C' := C
  obtain ⟨hx, hb, hr, hml, hown, hts, hlocks, htab, hK, hZ, hst, hnm⟩ := C'
  obtain ⟨hHR, hP, hD, hS, hL, hF, hE⟩ := S
  obtain ⟨b0, r0, e0, q0, F1⟩ := hF.c
  subst e0
  cases (show b0 = Value.int y from q0)
  obtain ⟨b1, r1, e1, q1, F2⟩ := F1.c
  subst e1
  cases (show b1 = Value.int x from q1)
  refine lv_irem hx hb hd hne ?_
  exact k p e s m args below meth c ws0 mc ms ws H locs cells slots rls _ C ⟨hHR, hP, hD, hS, hL, ⟨rfl, F2⟩, hE⟩ h1 h2
theorem ww_iushr {x y v : Int32} (hd : decode (mm_c M) pc = .ok (.iushr, 1)) (hv : (x.toUInt32 >>> (y.toUInt32 &&& Int32.toUInt32 31)).toInt32 = v) (k : WW l Z M d bc bs (pc + 1) lv (.int v :: st) h Post) : WW l Z M d bc bs pc lv (.int y :: .int x :: st) h Post := by
  intro p e s m args below meth c ws0 mc ms ws H locs cells slots rls rst C S h1 h2
  have C' := C
  obtain ⟨hx, hb, hr, hml, hown, hts, hlocks, htab, hK, hZ, hst, hnm⟩ := C'
  obtain ⟨hHR, hP, hD, hS, hL, hF, hE⟩ := S
  obtain ⟨b0, r0, e0, q0, F1⟩ := hF.c
  subst e0
  cases (show b0 = Value.int y from q0)
  obtain ⟨b1, r1, e1, q1, F2⟩ := F1.c
  subst e1
  cases (show b1 = Value.int x from q1)
  refine lv_iushr hx hb hd hv ?_
  exact k p e s m args below meth c ws0 mc ms ws H locs cells slots rls _ C ⟨hHR, hP, hD, hS, hL, ⟨rfl, F2⟩, hE⟩ h1 h2
theorem ww_ladd {x y : Int64} (hd : decode (mm_c M) pc = .ok (.ladd, 1)) (k : WW l Z M d bc bs (pc + 1) lv (.long (x + y) :: st) h Post) : WW l Z M d bc bs pc lv (.long y :: .long x :: st) h Post := by
  intro p e s m args below meth c ws0 mc ms ws H locs cells slots rls rst C S h1 h2
  have C' := C
  obtain ⟨hx, hb, hr, hml, hown, hts, hlocks, htab, hK, hZ, hst, hnm⟩ := C'
  obtain ⟨hHR, hP, hD, hS, hL, hF, hE⟩ := S
  obtain ⟨b0, r0, e0, q0, F1⟩ := hF.c
  subst e0
  cases (show b0 = Value.long y from q0)
  obtain ⟨b1, r1, e1, q1, F2⟩ := F1.c
  subst e1
  cases (show b1 = Value.long x from q1)
  refine lv_ladd hx hb hd ?_
  exact k p e s m args below meth c ws0 mc ms ws H locs cells slots rls _ C ⟨hHR, hP, hD, hS, hL, ⟨rfl, F2⟩, hE⟩ h1 h2
theorem ww_lmul {x y : Int64} (hd : decode (mm_c M) pc = .ok (.lmul, 1)) (k : WW l Z M d bc bs (pc + 1) lv (.long (x * y) :: st) h Post) : WW l Z M d bc bs pc lv (.long y :: .long x :: st) h Post := by
  intro p e s m args below meth c ws0 mc ms ws H locs cells slots rls rst C S h1 h2
  have C' := C
  obtain ⟨hx, hb, hr, hml, hown, hts, hlocks, htab, hK, hZ, hst, hnm⟩ := C'
  obtain ⟨hHR, hP, hD, hS, hL, hF, hE⟩ := S
  obtain ⟨b0, r0, e0, q0, F1⟩ := hF.c
  subst e0
  cases (show b0 = Value.long y from q0)
  obtain ⟨b1, r1, e1, q1, F2⟩ := F1.c
  subst e1
  cases (show b1 = Value.long x from q1)
  refine lv_lmul hx hb hd ?_
  exact k p e s m args below meth c ws0 mc ms ws H locs cells slots rls _ C ⟨hHR, hP, hD, hS, hL, ⟨rfl, F2⟩, hE⟩ h1 h2
theorem ww_ldiv {x y : Int64} (hd : decode (mm_c M) pc = .ok (.ldiv, 1)) (hne : ¬ y = 0) (k : WW l Z M d bc bs (pc + 1) lv (.long (x / y) :: st) h Post) : WW l Z M d bc bs pc lv (.long y :: .long x :: st) h Post := by
  intro p e s m args below meth c ws0 mc ms ws H locs cells slots rls rst C S h1 h2
  have C' := C
  obtain ⟨hx, hb, hr, hml, hown, hts, hlocks, htab, hK, hZ, hst, hnm⟩ := C'
  obtain ⟨hHR, hP, hD, hS, hL, hF, hE⟩ := S
  obtain ⟨b0, r0, e0, q0, F1⟩ := hF.c
  subst e0
  cases (show b0 = Value.long y from q0)
  obtain ⟨b1, r1, e1, q1, F2⟩ := F1.c
  subst e1
  cases (show b1 = Value.long x from q1)
  refine lv_ldiv hx hb hd hne ?_
  exact k p e s m args below meth c ws0 mc ms ws H locs cells slots rls _ C ⟨hHR, hP, hD, hS, hL, ⟨rfl, F2⟩, hE⟩ h1 h2
theorem ww_lrem {x y : Int64} (hd : decode (mm_c M) pc = .ok (.lrem, 1)) (hne : ¬ y = 0) (k : WW l Z M d bc bs (pc + 1) lv (.long (x - x / y * y) :: st) h Post) : WW l Z M d bc bs pc lv (.long y :: .long x :: st) h Post := by
  intro p e s m args below meth c ws0 mc ms ws H locs cells slots rls rst C S h1 h2
  have C' := C
  obtain ⟨hx, hb, hr, hml, hown, hts, hlocks, htab, hK, hZ, hst, hnm⟩ := C'
  obtain ⟨hHR, hP, hD, hS, hL, hF, hE⟩ := S
  obtain ⟨b0, r0, e0, q0, F1⟩ := hF.c
  subst e0
  cases (show b0 = Value.long y from q0)
  obtain ⟨b1, r1, e1, q1, F2⟩ := F1.c
  subst e1
  cases (show b1 = Value.long x from q1)
  refine lv_lrem hx hb hd hne ?_
  exact k p e s m args below meth c ws0 mc ms ws H locs cells slots rls _ C ⟨hHR, hP, hD, hS, hL, ⟨rfl, F2⟩, hE⟩ h1 h2
theorem ww_i2l {x : Int32} (hd : decode (mm_c M) pc = .ok (.i2l, 1)) (k : WW l Z M d bc bs (pc + 1) lv (.long x.toInt64 :: st) h Post) : WW l Z M d bc bs pc lv (.int x :: st) h Post := by
  intro p e s m args below meth c ws0 mc ms ws H locs cells slots rls rst C S h1 h2
  have C' := C
  obtain ⟨hx, hb, hr, hml, hown, hts, hlocks, htab, hK, hZ, hst, hnm⟩ := C'
  obtain ⟨hHR, hP, hD, hS, hL, hF, hE⟩ := S
  obtain ⟨b0, r0, e0, q0, F1⟩ := hF.c
  subst e0
  cases (show b0 = Value.int x from q0)
  refine lv_i2l (v := x.toInt64) hx hb hd rfl ?_
  exact k p e s m args below meth c ws0 mc ms ws H locs cells slots rls _ C ⟨hHR, hP, hD, hS, hL, ⟨rfl, F1⟩, hE⟩ h1 h2
theorem ww_l2i {x : Int64} (hd : decode (mm_c M) pc = .ok (.l2i, 1)) (k : WW l Z M d bc bs (pc + 1) lv (.int x.toInt32 :: st) h Post) : WW l Z M d bc bs pc lv (.long x :: st) h Post := by
  intro p e s m args below meth c ws0 mc ms ws H locs cells slots rls rst C S h1 h2
  have C' := C
  obtain ⟨hx, hb, hr, hml, hown, hts, hlocks, htab, hK, hZ, hst, hnm⟩ := C'
  obtain ⟨hHR, hP, hD, hS, hL, hF, hE⟩ := S
  obtain ⟨b0, r0, e0, q0, F1⟩ := hF.c
  subst e0
  cases (show b0 = Value.long x from q0)
  refine lv_l2i (v := x.toInt32) hx hb hd rfl ?_
  exact k p e s m args below meth c ws0 mc ms ws H locs cells slots rls _ C ⟨hHR, hP, hD, hS, hL, ⟨rfl, F1⟩, hE⟩ h1 h2
theorem ww_lcmp {x y : Int64} (hd : decode (mm_c M) pc = .ok (.lcmp, 1)) (k : WW l Z M d bc bs (pc + 1) lv (.int (lg_cmp x y) :: st) h Post) : WW l Z M d bc bs pc lv (.long y :: .long x :: st) h Post := by
  intro p e s m args below meth c ws0 mc ms ws H locs cells slots rls rst C S h1 h2
  have C' := C
  obtain ⟨hx, hb, hr, hml, hown, hts, hlocks, htab, hK, hZ, hst, hnm⟩ := C'
  obtain ⟨hHR, hP, hD, hS, hL, hF, hE⟩ := S
  obtain ⟨b0, r0, e0, q0, F1⟩ := hF.c
  subst e0
  cases (show b0 = Value.long y from q0)
  obtain ⟨b1, r1, e1, q1, F2⟩ := F1.c
  subst e1
  cases (show b1 = Value.long x from q1)
  refine W.lcmp hx hb hd ?_
  exact k p e s m args below meth c ws0 mc ms ws H locs cells slots rls _ C ⟨hHR, hP, hD, hS, hL, ⟨rfl, F2⟩, hE⟩ h1 h2
theorem ww_dup {v : Value} (hd : decode (mm_c M) pc = .ok (.dup, 1)) (hv : v.category = 1) (k : WW l Z M d bc bs (pc + 1) lv (v :: v :: st) h Post) : WW l Z M d bc bs pc lv (v :: st) h Post := by
  intro p e s m args below meth c ws0 mc ms ws H locs cells slots rls rst C S h1 h2
  have C' := C
  obtain ⟨hx, hb, hr, hml, hown, hts, hlocks, htab, hK, hZ, hst, hnm⟩ := C'
  obtain ⟨hHR, hP, hD, hS, hL, hF, hE⟩ := S
  obtain ⟨b0, r0, e0, q0, F1⟩ := hF.c
  subst e0
  refine lv_dup hx hb hd (q0.cat.trans hv) ?_
  exact k p e s m args below meth c ws0 mc ms ws H locs cells slots rls _ C ⟨hHR, hP, hD, hS, hL, ⟨q0, ⟨q0, F1⟩⟩, hE⟩ h1 h2
theorem ww_dup2 {v w : Value} (hd : decode (mm_c M) pc = .ok (.dup2, 1)) (hv : v.category = 1) (hw : w.category = 1) (k : WW l Z M d bc bs (pc + 1) lv (v :: w :: v :: w :: st) h Post) : WW l Z M d bc bs pc lv (v :: w :: st) h Post := by
  intro p e s m args below meth c ws0 mc ms ws H locs cells slots rls rst C S h1 h2
  have C' := C
  obtain ⟨hx, hb, hr, hml, hown, hts, hlocks, htab, hK, hZ, hst, hnm⟩ := C'
  obtain ⟨hHR, hP, hD, hS, hL, hF, hE⟩ := S
  obtain ⟨b0, r0, e0, q0, F1⟩ := hF.c
  subst e0
  obtain ⟨b1, r1, e1, q1, F2⟩ := F1.c
  subst e1
  refine lv_dup2_11 hx hb hd (q0.cat.trans hv) (q1.cat.trans hw) ?_
  exact k p e s m args below meth c ws0 mc ms ws H locs cells slots rls _ C ⟨hHR, hP, hD, hS, hL, ⟨q0, ⟨q1, ⟨q0, ⟨q1, F2⟩⟩⟩⟩, hE⟩ h1 h2
theorem ww_pop {v : Value} (hd : decode (mm_c M) pc = .ok (.pop, 1)) (hv : v.category = 1) (k : WW l Z M d bc bs (pc + 1) lv (st) h Post) : WW l Z M d bc bs pc lv (v :: st) h Post := by
  intro p e s m args below meth c ws0 mc ms ws H locs cells slots rls rst C S h1 h2
  have C' := C
  obtain ⟨hx, hb, hr, hml, hown, hts, hlocks, htab, hK, hZ, hst, hnm⟩ := C'
  obtain ⟨hHR, hP, hD, hS, hL, hF, hE⟩ := S
  obtain ⟨b0, r0, e0, q0, F1⟩ := hF.c
  subst e0
  refine lv_pop hx hb hd (q0.cat.trans hv) ?_
  exact k p e s m args below meth c ws0 mc ms ws H locs cells slots rls _ C ⟨hHR, hP, hD, hS, hL, F1, hE⟩ h1 h2
theorem ww_iload {i : Nat} {x : Int32} (hd : decode (mm_c M) pc = .ok (.iload i, 2)) (hl : lv[i]? = some (.int x)) (k : WW l Z M d bc bs (pc + 2) lv ((.int x) :: st) h Post) : WW l Z M d bc bs pc lv st h Post := by
  intro p e s m args below meth c ws0 mc ms ws H locs cells slots rls rst C S h1 h2
  have C' := C
  obtain ⟨hx, hb, hr, hml, hown, hts, hlocks, htab, hK, hZ, hst, hnm⟩ := C'
  obtain ⟨hHR, hP, hD, hS, hL, hF, hE⟩ := S
  obtain ⟨v9, q0, q1⟩ := hL.get hl (by intro e9; cases e9)
  cases (show v9 = Value.int x from q0)
  refine lv_iload hx hb hd q1 ?_
  exact k p e s m args below meth c ws0 mc ms ws H locs cells slots rls _ C ⟨hHR, hP, hD, hS, hL, ⟨rfl, hF⟩, hE⟩ h1 h2
theorem ww_iload_n {n : Fin 4} {i : Nat} {x : Int32} (hd : decode (mm_c M) pc = .ok (.iload_n n, 1)) (hi : (n : Nat) = i) (hl : lv[i]? = some (.int x)) (k : WW l Z M d bc bs (pc + 1) lv ((.int x) :: st) h Post) : WW l Z M d bc bs pc lv st h Post := by
  intro p e s m args below meth c ws0 mc ms ws H locs cells slots rls rst C S h1 h2
  have C' := C
  obtain ⟨hx, hb, hr, hml, hown, hts, hlocks, htab, hK, hZ, hst, hnm⟩ := C'
  obtain ⟨hHR, hP, hD, hS, hL, hF, hE⟩ := S
  obtain ⟨v9, q0, q1⟩ := hL.get hl (by intro e9; cases e9)
  cases (show v9 = Value.int x from q0)
  refine lv_iload_n hx hb hd hi q1 ?_
  exact k p e s m args below meth c ws0 mc ms ws H locs cells slots rls _ C ⟨hHR, hP, hD, hS, hL, ⟨rfl, hF⟩, hE⟩ h1 h2
theorem ww_lload {i : Nat} {x : Int64} (hd : decode (mm_c M) pc = .ok (.lload i, 2)) (hl : lv[i]? = some (.long x)) (k : WW l Z M d bc bs (pc + 2) lv ((.long x) :: st) h Post) : WW l Z M d bc bs pc lv st h Post := by
  intro p e s m args below meth c ws0 mc ms ws H locs cells slots rls rst C S h1 h2
  have C' := C
  obtain ⟨hx, hb, hr, hml, hown, hts, hlocks, htab, hK, hZ, hst, hnm⟩ := C'
  obtain ⟨hHR, hP, hD, hS, hL, hF, hE⟩ := S
  obtain ⟨v9, q0, q1⟩ := hL.get hl (by intro e9; cases e9)
  cases (show v9 = Value.long x from q0)
  refine lv_lload hx hb hd q1 ?_
  exact k p e s m args below meth c ws0 mc ms ws H locs cells slots rls _ C ⟨hHR, hP, hD, hS, hL, ⟨rfl, hF⟩, hE⟩ h1 h2
theorem ww_aload {i : Nat} {x : Nat} (hd : decode (mm_c M) pc = .ok (.aload i, 2)) (hl : lv[i]? = some (.ref x)) (k : WW l Z M d bc bs (pc + 2) lv ((.ref x) :: st) h Post) : WW l Z M d bc bs pc lv st h Post := by
  intro p e s m args below meth c ws0 mc ms ws H locs cells slots rls rst C S h1 h2
  have C' := C
  obtain ⟨hx, hb, hr, hml, hown, hts, hlocks, htab, hK, hZ, hst, hnm⟩ := C'
  obtain ⟨hHR, hP, hD, hS, hL, hF, hE⟩ := S
  obtain ⟨v9, q0, q1⟩ := hL.get hl (by intro e9; cases e9)
  have q2 := q0
  rcases q0 with ⟨a9, e9, g1, rfl⟩ | ⟨g1, rfl⟩
  · refine lv_aload hx hb hd q1 ?_
    exact k p e s m args below meth c ws0 mc ms ws H locs cells slots rls _ C ⟨hHR, hP, hD, hS, hL, ⟨q2, hF⟩, hE⟩ h1 h2
  · refine lv_aload hx hb hd q1 ?_
    exact k p e s m args below meth c ws0 mc ms ws H locs cells slots rls _ C ⟨hHR, hP, hD, hS, hL, ⟨q2, hF⟩, hE⟩ h1 h2
theorem ww_aload_n {n : Fin 4} {i : Nat} {x : Nat} (hd : decode (mm_c M) pc = .ok (.aload_n n, 1)) (hi : (n : Nat) = i) (hl : lv[i]? = some (.ref x)) (k : WW l Z M d bc bs (pc + 1) lv ((.ref x) :: st) h Post) : WW l Z M d bc bs pc lv st h Post := by
  intro p e s m args below meth c ws0 mc ms ws H locs cells slots rls rst C S h1 h2
  have C' := C
  obtain ⟨hx, hb, hr, hml, hown, hts, hlocks, htab, hK, hZ, hst, hnm⟩ := C'
  obtain ⟨hHR, hP, hD, hS, hL, hF, hE⟩ := S
  obtain ⟨v9, q0, q1⟩ := hL.get hl (by intro e9; cases e9)
  have q2 := q0
  rcases q0 with ⟨a9, e9, g1, rfl⟩ | ⟨g1, rfl⟩
  · refine lv_aload_n hx hb hd hi q1 ?_
    exact k p e s m args below meth c ws0 mc ms ws H locs cells slots rls _ C ⟨hHR, hP, hD, hS, hL, ⟨q2, hF⟩, hE⟩ h1 h2
  · refine lv_aload_n hx hb hd hi q1 ?_
    exact k p e s m args below meth c ws0 mc ms ws H locs cells slots rls _ C ⟨hHR, hP, hD, hS, hL, ⟨q2, hF⟩, hE⟩ h1 h2
theorem ww_istore {i : Nat} {x : Int32} (hd : decode (mm_c M) pc = .ok (.istore i, 2)) (hn : i < mm_L M) (hq : ee_nl lv i = true) (k : WW l Z M d bc bs (pc + 2) (lv.set i (.int x)) st h Post) : WW l Z M d bc bs pc lv ((.int x) :: st) h Post := by
  intro p e s m args below meth c ws0 mc ms ws H locs cells slots rls rst C S h1 h2
  have C' := C
  obtain ⟨hx, hb, hr, hml, hown, hts, hlocks, htab, hK, hZ, hst, hnm⟩ := C'
  obtain ⟨hHR, hP, hD, hS, hL, hF, hE⟩ := S
  obtain ⟨b0, r0, e0, q0, F1⟩ := hF.c
  subst e0
  have q2 := q0
  cases (show b0 = Value.int x from q0)
  refine lv_istore hx hb hd (lv_all_has hL.1 hL.2.1) hn rfl (fun rls2 hl2 => ?_)
  exact k p e s m args below meth c ws0 mc ms ws H locs cells slots rls2 _ C ⟨hHR, hP, hD, hS, hL.set1 hq q2 hl2, F1, hE⟩ h1 h2
theorem ww_istore_n {n : Fin 4} {i : Nat} {x : Int32} (hd : decode (mm_c M) pc = .ok (.istore_n n, 1)) (hi : (n : Nat) = i) (hn : i < mm_L M) (hq : ee_nl lv i = true) (k : WW l Z M d bc bs (pc + 1) (lv.set i (.int x)) st h Post) : WW l Z M d bc bs pc lv ((.int x) :: st) h Post := by
  intro p e s m args below meth c ws0 mc ms ws H locs cells slots rls rst C S h1 h2
  have C' := C
  obtain ⟨hx, hb, hr, hml, hown, hts, hlocks, htab, hK, hZ, hst, hnm⟩ := C'
  obtain ⟨hHR, hP, hD, hS, hL, hF, hE⟩ := S
  obtain ⟨b0, r0, e0, q0, F1⟩ := hF.c
  subst e0
  have q2 := q0
  cases (show b0 = Value.int x from q0)
  refine lv_istore_n hx hb hd hi (lv_all_has hL.1 hL.2.1) hn rfl (fun rls2 hl2 => ?_)
  exact k p e s m args below meth c ws0 mc ms ws H locs cells slots rls2 _ C ⟨hHR, hP, hD, hS, hL.set1 hq q2 hl2, F1, hE⟩ h1 h2
theorem ww_astore {i : Nat} {x : Nat} (hd : decode (mm_c M) pc = .ok (.astore i, 2)) (hn : i < mm_L M) (hq : ee_nl lv i = true) (k : WW l Z M d bc bs (pc + 2) (lv.set i (.ref x)) st h Post) : WW l Z M d bc bs pc lv ((.ref x) :: st) h Post := by
  intro p e s m args below meth c ws0 mc ms ws H locs cells slots rls rst C S h1 h2
  have C' := C
  obtain ⟨hx, hb, hr, hml, hown, hts, hlocks, htab, hK, hZ, hst, hnm⟩ := C'
  obtain ⟨hHR, hP, hD, hS, hL, hF, hE⟩ := S
  obtain ⟨b0, r0, e0, q0, F1⟩ := hF.c
  subst e0
  have q2 := q0
  rcases q0 with ⟨a9, e9, g1, rfl⟩ | ⟨g1, rfl⟩
  · refine lv_astore hx hb hd (lv_all_has hL.1 hL.2.1) hn rfl (fun rls2 hl2 => ?_)
    exact k p e s m args below meth c ws0 mc ms ws H locs cells slots rls2 _ C ⟨hHR, hP, hD, hS, hL.set1 hq q2 hl2, F1, hE⟩ h1 h2
  · refine lv_astore hx hb hd (lv_all_has hL.1 hL.2.1) hn rfl (fun rls2 hl2 => ?_)
    exact k p e s m args below meth c ws0 mc ms ws H locs cells slots rls2 _ C ⟨hHR, hP, hD, hS, hL.set1 hq q2 hl2, F1, hE⟩ h1 h2
theorem ww_astore_n {n : Fin 4} {i : Nat} {x : Nat} (hd : decode (mm_c M) pc = .ok (.astore_n n, 1)) (hi : (n : Nat) = i) (hn : i < mm_L M) (hq : ee_nl lv i = true) (k : WW l Z M d bc bs (pc + 1) (lv.set i (.ref x)) st h Post) : WW l Z M d bc bs pc lv ((.ref x) :: st) h Post := by
  intro p e s m args below meth c ws0 mc ms ws H locs cells slots rls rst C S h1 h2
  have C' := C
  obtain ⟨hx, hb, hr, hml, hown, hts, hlocks, htab, hK, hZ, hst, hnm⟩ := C'
  obtain ⟨hHR, hP, hD, hS, hL, hF, hE⟩ := S
  obtain ⟨b0, r0, e0, q0, F1⟩ := hF.c
  subst e0
  have q2 := q0
  rcases q0 with ⟨a9, e9, g1, rfl⟩ | ⟨g1, rfl⟩
  · refine lv_astore_n hx hb hd hi (lv_all_has hL.1 hL.2.1) hn rfl (fun rls2 hl2 => ?_)
    exact k p e s m args below meth c ws0 mc ms ws H locs cells slots rls2 _ C ⟨hHR, hP, hD, hS, hL.set1 hq q2 hl2, F1, hE⟩ h1 h2
  · refine lv_astore_n hx hb hd hi (lv_all_has hL.1 hL.2.1) hn rfl (fun rls2 hl2 => ?_)
    exact k p e s m args below meth c ws0 mc ms ws H locs cells slots rls2 _ C ⟨hHR, hP, hD, hS, hL.set1 hq q2 hl2, F1, hE⟩ h1 h2
theorem ww_lstore {i : Nat} {x : Int64} (hd : decode (mm_c M) pc = .ok (.lstore i, 2)) (hn : i + 1 < mm_L M) (hq : ee_nl lv i = true) (k : WW l Z M d bc bs (pc + 2) ((lv.set i (.long x)).set (i + 1) UU) st h Post) : WW l Z M d bc bs pc lv ((.long x) :: st) h Post := by
  intro p e s m args below meth c ws0 mc ms ws H locs cells slots rls rst C S h1 h2
  have C' := C
  obtain ⟨hx, hb, hr, hml, hown, hts, hlocks, htab, hK, hZ, hst, hnm⟩ := C'
  obtain ⟨hHR, hP, hD, hS, hL, hF, hE⟩ := S
  obtain ⟨b0, r0, e0, q0, F1⟩ := hF.c
  subst e0
  have q2 := q0
  cases (show b0 = Value.long x from q0)
  refine lv_lstore hx hb hd (lv_all_has hL.1 hL.2.1) hn rfl (fun rls2 hl2 => ?_)
  exact k p e s m args below meth c ws0 mc ms ws H locs cells slots rls2 _ C ⟨hHR, hP, hD, hS, hL.set2 hq q2 hl2, F1, hE⟩ h1 h2
theorem ww_iinc {i : Nat} {n : Int} {x v : Int32} (hd : decode (mm_c M) pc = .ok (.iinc i n, 3)) (hl : lv[i]? = some (.int x)) (hv : x + Int32.ofInt n = v) (hn : i < mm_L M) (hq : ee_nl lv i = true) (k : WW l Z M d bc bs (pc + 3) (lv.set i (.int v)) st h Post) : WW l Z M d bc bs pc lv st h Post := by
  intro p e s m args below meth c ws0 mc ms ws H locs cells slots rls rst C S h1 h2
  have C' := C
  obtain ⟨hx, hb, hr, hml, hown, hts, hlocks, htab, hK, hZ, hst, hnm⟩ := C'
  obtain ⟨hHR, hP, hD, hS, hL, hF, hE⟩ := S
  obtain ⟨v9, q0, q1⟩ := hL.get hl (by intro e9; cases e9)
  cases (show v9 = Value.int x from q0)
  obtain ⟨k9, hk9⟩ := List.getElem?_of_mem (lv_all_mem.mpr q1)
  refine lv_iinc hx hb hd (lv_all_has hL.1 hL.2.1) hk9 hv hn rfl (fun rls2 hl2 => ?_)
  exact k p e s m args below meth c ws0 mc ms ws H locs cells slots rls2 _ C ⟨hHR, hP, hD, hS, hL.set1 hq rfl hl2, hF, hE⟩ h1 h2
theorem ww_goto {off : Int} {tgt : Nat} (hd : decode (mm_c M) pc = .ok (.goto off, 3)) (ht : (pc : Int) + off = (tgt : Int)) (k : WW l Z M d bc bs tgt lv st h Post) : WW l Z M d bc bs pc lv st h Post := by
  intro p e s m args below meth c ws0 mc ms ws H locs cells slots rls rst C S h1 h2
  have C' := C
  obtain ⟨hx, hb, hr, hml, hown, hts, hlocks, htab, hK, hZ, hst, hnm⟩ := C'
  obtain ⟨hHR, hP, hD, hS, hL, hF, hE⟩ := S
  refine lv_goto hx hb hd ht ?_
  exact k p e s m args below meth c ws0 mc ms ws H locs cells slots rls _ C ⟨hHR, hP, hD, hS, hL, hF, hE⟩ h1 h2
theorem ww_if_eq {x : Int32} {off : Int} {tgt : Nat} (hd : decode (mm_c M) pc = .ok (.ifCond .eq off, 3)) (ht : (pc : Int) + off = (tgt : Int)) (kt : x = 0 → WW l Z M d bc bs tgt lv st h Post) (kf : ¬ x = 0 → WW l Z M d bc bs (pc + 3) lv st h Post) : WW l Z M d bc bs pc lv ((.int x) :: st) h Post := by
  intro p e s m args below meth c ws0 mc ms ws H locs cells slots rls rst C S h1 h2
  have C' := C
  obtain ⟨hx, hb, hr, hml, hown, hts, hlocks, htab, hK, hZ, hst, hnm⟩ := C'
  obtain ⟨hHR, hP, hD, hS, hL, hF, hE⟩ := S
  obtain ⟨b0, r0, e0, q0, F1⟩ := hF.c
  subst e0
  cases (show b0 = Value.int x from q0)
  refine lv_if_eq hx hb hd ht (fun hc => ?_) (fun hc => ?_)
  · exact kt hc p e s m args below meth c ws0 mc ms ws H locs cells slots rls _ C ⟨hHR, hP, hD, hS, hL, F1, hE⟩ h1 h2
  · exact kf hc p e s m args below meth c ws0 mc ms ws H locs cells slots rls _ C ⟨hHR, hP, hD, hS, hL, F1, hE⟩ h1 h2
theorem ww_icmp_eq {x y : Int32} {off : Int} {tgt : Nat} (hd : decode (mm_c M) pc = .ok (.if_icmp .eq off, 3)) (ht : (pc : Int) + off = (tgt : Int)) (kt : x = y → WW l Z M d bc bs tgt lv st h Post) (kf : ¬ x = y → WW l Z M d bc bs (pc + 3) lv st h Post) : WW l Z M d bc bs pc lv ((.int y) :: (.int x) :: st) h Post := by
  intro p e s m args below meth c ws0 mc ms ws H locs cells slots rls rst C S h1 h2
  have C' := C
  obtain ⟨hx, hb, hr, hml, hown, hts, hlocks, htab, hK, hZ, hst, hnm⟩ := C'
  obtain ⟨hHR, hP, hD, hS, hL, hF, hE⟩ := S
  obtain ⟨b0, r0, e0, q0, F1⟩ := hF.c
  subst e0
  cases (show b0 = Value.int y from q0)
  obtain ⟨b1, r1, e1, q1, F2⟩ := F1.c
  subst e1
  cases (show b1 = Value.int x from q1)
  refine lv_icmp_eq hx hb hd ht (fun hc => ?_) (fun hc => ?_)
  · exact kt hc p e s m args below meth c ws0 mc ms ws H locs cells slots rls _ C ⟨hHR, hP, hD, hS, hL, F2, hE⟩ h1 h2
  · exact kf hc p e s m args below meth c ws0 mc ms ws H locs cells slots rls _ C ⟨hHR, hP, hD, hS, hL, F2, hE⟩ h1 h2
theorem ww_if_ne {x : Int32} {off : Int} {tgt : Nat} (hd : decode (mm_c M) pc = .ok (.ifCond .ne off, 3)) (ht : (pc : Int) + off = (tgt : Int)) (kt : ¬ x = 0 → WW l Z M d bc bs tgt lv st h Post) (kf : x = 0 → WW l Z M d bc bs (pc + 3) lv st h Post) : WW l Z M d bc bs pc lv ((.int x) :: st) h Post := by
  intro p e s m args below meth c ws0 mc ms ws H locs cells slots rls rst C S h1 h2
  have C' := C
  obtain ⟨hx, hb, hr, hml, hown, hts, hlocks, htab, hK, hZ, hst, hnm⟩ := C'
  obtain ⟨hHR, hP, hD, hS, hL, hF, hE⟩ := S
  obtain ⟨b0, r0, e0, q0, F1⟩ := hF.c
  subst e0
  cases (show b0 = Value.int x from q0)
  refine lv_if_ne hx hb hd ht (fun hc => ?_) (fun hc => ?_)
  · exact kt hc p e s m args below meth c ws0 mc ms ws H locs cells slots rls _ C ⟨hHR, hP, hD, hS, hL, F1, hE⟩ h1 h2
  · exact kf hc p e s m args below meth c ws0 mc ms ws H locs cells slots rls _ C ⟨hHR, hP, hD, hS, hL, F1, hE⟩ h1 h2
theorem ww_icmp_ne {x y : Int32} {off : Int} {tgt : Nat} (hd : decode (mm_c M) pc = .ok (.if_icmp .ne off, 3)) (ht : (pc : Int) + off = (tgt : Int)) (kt : ¬ x = y → WW l Z M d bc bs tgt lv st h Post) (kf : x = y → WW l Z M d bc bs (pc + 3) lv st h Post) : WW l Z M d bc bs pc lv ((.int y) :: (.int x) :: st) h Post := by
  intro p e s m args below meth c ws0 mc ms ws H locs cells slots rls rst C S h1 h2
  have C' := C
  obtain ⟨hx, hb, hr, hml, hown, hts, hlocks, htab, hK, hZ, hst, hnm⟩ := C'
  obtain ⟨hHR, hP, hD, hS, hL, hF, hE⟩ := S
  obtain ⟨b0, r0, e0, q0, F1⟩ := hF.c
  subst e0
  cases (show b0 = Value.int y from q0)
  obtain ⟨b1, r1, e1, q1, F2⟩ := F1.c
  subst e1
  cases (show b1 = Value.int x from q1)
  refine lv_icmp_ne hx hb hd ht (fun hc => ?_) (fun hc => ?_)
  · exact kt hc p e s m args below meth c ws0 mc ms ws H locs cells slots rls _ C ⟨hHR, hP, hD, hS, hL, F2, hE⟩ h1 h2
  · exact kf hc p e s m args below meth c ws0 mc ms ws H locs cells slots rls _ C ⟨hHR, hP, hD, hS, hL, F2, hE⟩ h1 h2
theorem ww_if_lt {x : Int32} {off : Int} {tgt : Nat} (hd : decode (mm_c M) pc = .ok (.ifCond .lt off, 3)) (ht : (pc : Int) + off = (tgt : Int)) (kt : x < 0 → WW l Z M d bc bs tgt lv st h Post) (kf : ¬ x < 0 → WW l Z M d bc bs (pc + 3) lv st h Post) : WW l Z M d bc bs pc lv ((.int x) :: st) h Post := by
  intro p e s m args below meth c ws0 mc ms ws H locs cells slots rls rst C S h1 h2
  have C' := C
  obtain ⟨hx, hb, hr, hml, hown, hts, hlocks, htab, hK, hZ, hst, hnm⟩ := C'
  obtain ⟨hHR, hP, hD, hS, hL, hF, hE⟩ := S
  obtain ⟨b0, r0, e0, q0, F1⟩ := hF.c
  subst e0
  cases (show b0 = Value.int x from q0)
  refine lv_if_lt hx hb hd ht (fun hc => ?_) (fun hc => ?_)
  · exact kt hc p e s m args below meth c ws0 mc ms ws H locs cells slots rls _ C ⟨hHR, hP, hD, hS, hL, F1, hE⟩ h1 h2
  · exact kf hc p e s m args below meth c ws0 mc ms ws H locs cells slots rls _ C ⟨hHR, hP, hD, hS, hL, F1, hE⟩ h1 h2
theorem ww_icmp_lt {x y : Int32} {off : Int} {tgt : Nat} (hd : decode (mm_c M) pc = .ok (.if_icmp .lt off, 3)) (ht : (pc : Int) + off = (tgt : Int)) (kt : x < y → WW l Z M d bc bs tgt lv st h Post) (kf : ¬ x < y → WW l Z M d bc bs (pc + 3) lv st h Post) : WW l Z M d bc bs pc lv ((.int y) :: (.int x) :: st) h Post := by
  intro p e s m args below meth c ws0 mc ms ws H locs cells slots rls rst C S h1 h2
  have C' := C
  obtain ⟨hx, hb, hr, hml, hown, hts, hlocks, htab, hK, hZ, hst, hnm⟩ := C'
  obtain ⟨hHR, hP, hD, hS, hL, hF, hE⟩ := S
  obtain ⟨b0, r0, e0, q0, F1⟩ := hF.c
  subst e0
  cases (show b0 = Value.int y from q0)
  obtain ⟨b1, r1, e1, q1, F2⟩ := F1.c
  subst e1
  cases (show b1 = Value.int x from q1)
  refine lv_icmp_lt hx hb hd ht (fun hc => ?_) (fun hc => ?_)
  · exact kt hc p e s m args below meth c ws0 mc ms ws H locs cells slots rls _ C ⟨hHR, hP, hD, hS, hL, F2, hE⟩ h1 h2
  · exact kf hc p e s m args below meth c ws0 mc ms ws H locs cells slots rls _ C ⟨hHR, hP, hD, hS, hL, F2, hE⟩ h1 h2
theorem ww_if_ge {x : Int32} {off : Int} {tgt : Nat} (hd : decode (mm_c M) pc = .ok (.ifCond .ge off, 3)) (ht : (pc : Int) + off = (tgt : Int)) (kt : 0 ≤ x → WW l Z M d bc bs tgt lv st h Post) (kf : ¬ 0 ≤ x → WW l Z M d bc bs (pc + 3) lv st h Post) : WW l Z M d bc bs pc lv ((.int x) :: st) h Post := by
  intro p e s m args below meth c ws0 mc ms ws H locs cells slots rls rst C S h1 h2
  have C' := C
  obtain ⟨hx, hb, hr, hml, hown, hts, hlocks, htab, hK, hZ, hst, hnm⟩ := C'
  obtain ⟨hHR, hP, hD, hS, hL, hF, hE⟩ := S
  obtain ⟨b0, r0, e0, q0, F1⟩ := hF.c
  subst e0
  cases (show b0 = Value.int x from q0)
  refine lv_if_ge hx hb hd ht (fun hc => ?_) (fun hc => ?_)
  · exact kt hc p e s m args below meth c ws0 mc ms ws H locs cells slots rls _ C ⟨hHR, hP, hD, hS, hL, F1, hE⟩ h1 h2
  · exact kf hc p e s m args below meth c ws0 mc ms ws H locs cells slots rls _ C ⟨hHR, hP, hD, hS, hL, F1, hE⟩ h1 h2
theorem ww_icmp_ge {x y : Int32} {off : Int} {tgt : Nat} (hd : decode (mm_c M) pc = .ok (.if_icmp .ge off, 3)) (ht : (pc : Int) + off = (tgt : Int)) (kt : y ≤ x → WW l Z M d bc bs tgt lv st h Post) (kf : ¬ y ≤ x → WW l Z M d bc bs (pc + 3) lv st h Post) : WW l Z M d bc bs pc lv ((.int y) :: (.int x) :: st) h Post := by
  intro p e s m args below meth c ws0 mc ms ws H locs cells slots rls rst C S h1 h2
  have C' := C
  obtain ⟨hx, hb, hr, hml, hown, hts, hlocks, htab, hK, hZ, hst, hnm⟩ := C'
  obtain ⟨hHR, hP, hD, hS, hL, hF, hE⟩ := S
  obtain ⟨b0, r0, e0, q0, F1⟩ := hF.c
  subst e0
  cases (show b0 = Value.int y from q0)
  obtain ⟨b1, r1, e1, q1, F2⟩ := F1.c
  subst e1
  cases (show b1 = Value.int x from q1)
  refine lv_icmp_ge hx hb hd ht (fun hc => ?_) (fun hc => ?_)
  · exact kt hc p e s m args below meth c ws0 mc ms ws H locs cells slots rls _ C ⟨hHR, hP, hD, hS, hL, F2, hE⟩ h1 h2
  · exact kf hc p e s m args below meth c ws0 mc ms ws H locs cells slots rls _ C ⟨hHR, hP, hD, hS, hL, F2, hE⟩ h1 h2
theorem ww_if_gt {x : Int32} {off : Int} {tgt : Nat} (hd : decode (mm_c M) pc = .ok (.ifCond .gt off, 3)) (ht : (pc : Int) + off = (tgt : Int)) (kt : 0 < x → WW l Z M d bc bs tgt lv st h Post) (kf : ¬ 0 < x → WW l Z M d bc bs (pc + 3) lv st h Post) : WW l Z M d bc bs pc lv ((.int x) :: st) h Post := by
  intro p e s m args below meth c ws0 mc ms ws H locs cells slots rls rst C S h1 h2
  have C' := C
  obtain ⟨hx, hb, hr, hml, hown, hts, hlocks, htab, hK, hZ, hst, hnm⟩ := C'
  obtain ⟨hHR, hP, hD, hS, hL, hF, hE⟩ := S
  obtain ⟨b0, r0, e0, q0, F1⟩ := hF.c
  subst e0
  cases (show b0 = Value.int x from q0)
  refine lv_if_gt hx hb hd ht (fun hc => ?_) (fun hc => ?_)
  · exact kt hc p e s m args below meth c ws0 mc ms ws H locs cells slots rls _ C ⟨hHR, hP, hD, hS, hL, F1, hE⟩ h1 h2
  · exact kf hc p e s m args below meth c ws0 mc ms ws H locs cells slots rls _ C ⟨hHR, hP, hD, hS, hL, F1, hE⟩ h1 h2
theorem ww_icmp_gt {x y : Int32} {off : Int} {tgt : Nat} (hd : decode (mm_c M) pc = .ok (.if_icmp .gt off, 3)) (ht : (pc : Int) + off = (tgt : Int)) (kt : y < x → WW l Z M d bc bs tgt lv st h Post) (kf : ¬ y < x → WW l Z M d bc bs (pc + 3) lv st h Post) : WW l Z M d bc bs pc lv ((.int y) :: (.int x) :: st) h Post := by
  intro p e s m args below meth c ws0 mc ms ws H locs cells slots rls rst C S h1 h2
  have C' := C
  obtain ⟨hx, hb, hr, hml, hown, hts, hlocks, htab, hK, hZ, hst, hnm⟩ := C'
  obtain ⟨hHR, hP, hD, hS, hL, hF, hE⟩ := S
  obtain ⟨b0, r0, e0, q0, F1⟩ := hF.c
  subst e0
  cases (show b0 = Value.int y from q0)
  obtain ⟨b1, r1, e1, q1, F2⟩ := F1.c
  subst e1
  cases (show b1 = Value.int x from q1)
  refine lv_icmp_gt hx hb hd ht (fun hc => ?_) (fun hc => ?_)
  · exact kt hc p e s m args below meth c ws0 mc ms ws H locs cells slots rls _ C ⟨hHR, hP, hD, hS, hL, F2, hE⟩ h1 h2
  · exact kf hc p e s m args below meth c ws0 mc ms ws H locs cells slots rls _ C ⟨hHR, hP, hD, hS, hL, F2, hE⟩ h1 h2
theorem ww_if_le {x : Int32} {off : Int} {tgt : Nat} (hd : decode (mm_c M) pc = .ok (.ifCond .le off, 3)) (ht : (pc : Int) + off = (tgt : Int)) (kt : x ≤ 0 → WW l Z M d bc bs tgt lv st h Post) (kf : ¬ x ≤ 0 → WW l Z M d bc bs (pc + 3) lv st h Post) : WW l Z M d bc bs pc lv ((.int x) :: st) h Post := by
  intro p e s m args below meth c ws0 mc ms ws H locs cells slots rls rst C S h1 h2
  have C' := C
  obtain ⟨hx, hb, hr, hml, hown, hts, hlocks, htab, hK, hZ, hst, hnm⟩ := C'
  obtain ⟨hHR, hP, hD, hS, hL, hF, hE⟩ := S
  obtain ⟨b0, r0, e0, q0, F1⟩ := hF.c
  subst e0
  cases (show b0 = Value.int x from q0)
  refine lv_if_le hx hb hd ht (fun hc => ?_) (fun hc => ?_)
  · exact kt hc p e s m args below meth c ws0 mc ms ws H locs cells slots rls _ C ⟨hHR, hP, hD, hS, hL, F1, hE⟩ h1 h2
  · exact kf hc p e s m args below meth c ws0 mc ms ws H locs cells slots rls _ C ⟨hHR, hP, hD, hS, hL, F1, hE⟩ h1 h2
theorem ww_icmp_le {x y : Int32} {off : Int} {tgt : Nat} (hd : decode (mm_c M) pc = .ok (.if_icmp .le off, 3)) (ht : (pc : Int) + off = (tgt : Int)) (kt : x ≤ y → WW l Z M d bc bs tgt lv st h Post) (kf : ¬ x ≤ y → WW l Z M d bc bs (pc + 3) lv st h Post) : WW l Z M d bc bs pc lv ((.int y) :: (.int x) :: st) h Post := by
  intro p e s m args below meth c ws0 mc ms ws H locs cells slots rls rst C S h1 h2
  have C' := C
  obtain ⟨hx, hb, hr, hml, hown, hts, hlocks, htab, hK, hZ, hst, hnm⟩ := C'
  obtain ⟨hHR, hP, hD, hS, hL, hF, hE⟩ := S
  obtain ⟨b0, r0, e0, q0, F1⟩ := hF.c
  subst e0
  cases (show b0 = Value.int y from q0)
  obtain ⟨b1, r1, e1, q1, F2⟩ := F1.c
  subst e1
  cases (show b1 = Value.int x from q1)
  refine lv_icmp_le hx hb hd ht (fun hc => ?_) (fun hc => ?_)
  · exact kt hc p e s m args below meth c ws0 mc ms ws H locs cells slots rls _ C ⟨hHR, hP, hD, hS, hL, F2, hE⟩ h1 h2
  · exact kf hc p e s m args below meth c ws0 mc ms ws H locs cells slots rls _ C ⟨hHR, hP, hD, hS, hL, F2, hE⟩ h1 h2
theorem ww_ifnonnull {x : Nat} {off : Int} {tgt : Nat} (hd : decode (mm_c M) pc = .ok (.ifnonnull off, 3)) (ht : (pc : Int) + off = (tgt : Int)) (k : WW l Z M d bc bs tgt lv st h Post) : WW l Z M d bc bs pc lv ((.ref x) :: st) h Post := by
  intro p e s m args below meth c ws0 mc ms ws H locs cells slots rls rst C S h1 h2
  have C' := C
  obtain ⟨hx, hb, hr, hml, hown, hts, hlocks, htab, hK, hZ, hst, hnm⟩ := C'
  obtain ⟨hHR, hP, hD, hS, hL, hF, hE⟩ := S
  obtain ⟨b0, r0, e0, q0, F1⟩ := hF.c
  subst e0
  rcases q0 with ⟨a9, e9, g1, rfl⟩ | ⟨g1, rfl⟩
  · refine lv_ifnonnull hx hb hd ht ?_
    exact k p e s m args below meth c ws0 mc ms ws H locs cells slots rls _ C ⟨hHR, hP, hD, hS, hL, F1, hE⟩ h1 h2
  · refine lv_ifnonnull hx hb hd ht ?_
    exact k p e s m args below meth c ws0 mc ms ws H locs cells slots rls _ C ⟨hHR, hP, hD, hS, hL, F1, hE⟩ h1 h2
theorem ww_ifnull {x : Nat} {off : Int} (hd : decode (mm_c M) pc = .ok (.ifnull off, 3)) (k : WW l Z M d bc bs (pc + 3) lv st h Post) : WW l Z M d bc bs pc lv ((.ref x) :: st) h Post := by
  intro p e s m args below meth c ws0 mc ms ws H locs cells slots rls rst C S h1 h2
  have C' := C
  obtain ⟨hx, hb, hr, hml, hown, hts, hlocks, htab, hK, hZ, hst, hnm⟩ := C'
  obtain ⟨hHR, hP, hD, hS, hL, hF, hE⟩ := S
  obtain ⟨b0, r0, e0, q0, F1⟩ := hF.c
  subst e0
  rcases q0 with ⟨a9, e9, g1, rfl⟩ | ⟨g1, rfl⟩
  · refine lv_ifnull hx hb hd ?_
    exact k p e s m args below meth c ws0 mc ms ws H locs cells slots rls _ C ⟨hHR, hP, hD, hS, hL, F1, hE⟩ h1 h2
  · refine lv_ifnull hx hb hd ?_
    exact k p e s m args below meth c ws0 mc ms ws H locs cells slots rls _ C ⟨hHR, hP, hD, hS, hL, F1, hE⟩ h1 h2
theorem ww_ifnonnullN {off : Int} (hd : decode (mm_c M) pc = .ok (.ifnonnull off, 3)) (k : WW l Z M d bc bs (pc + 3) lv (st) h Post) : WW l Z M d bc bs pc lv (.null :: st) h Post := by
  intro p e s m args below meth c ws0 mc ms ws H locs cells slots rls rst C S h1 h2
  have C' := C
  obtain ⟨hx, hb, hr, hml, hown, hts, hlocks, htab, hK, hZ, hst, hnm⟩ := C'
  obtain ⟨hHR, hP, hD, hS, hL, hF, hE⟩ := S
  obtain ⟨b0, r0, e0, q0, F1⟩ := hF.c
  subst e0
  cases (show b0 = Value.null from q0)
  refine lv_ifnonnullN hx hb hd ?_
  exact k p e s m args below meth c ws0 mc ms ws H locs cells slots rls _ C ⟨hHR, hP, hD, hS, hL, F1, hE⟩ h1 h2
theorem ww_ifnullN {off : Int} {tgt : Nat} (hd : decode (mm_c M) pc = .ok (.ifnull off, 3)) (ht : (pc : Int) + off = (tgt : Int)) (k : WW l Z M d bc bs tgt lv st h Post) : WW l Z M d bc bs pc lv (.null :: st) h Post := by
  intro p e s m args below meth c ws0 mc ms ws H locs cells slots rls rst C S h1 h2
  have C' := C
  obtain ⟨hx, hb, hr, hml, hown, hts, hlocks, htab, hK, hZ, hst, hnm⟩ := C'
  obtain ⟨hHR, hP, hD, hS, hL, hF, hE⟩ := S
  obtain ⟨b0, r0, e0, q0, F1⟩ := hF.c
  subst e0
  cases (show b0 = Value.null from q0)
  refine lv_ifnullN hx hb hd ht ?_
  exact k p e s m args below meth c ws0 mc ms ws H locs cells slots rls _ C ⟨hHR, hP, hD, hS, hL, F1, hE⟩ h1 h2
theorem ww_tableIn {dflt lo hi : Int} {offs : Array Int} {len : Nat} {x : Int32} {off : Int} {tgt : Nat} (hd : decode (mm_c M) pc = .ok (.tableswitch dflt lo hi offs, len)) (g1 : ¬ x.toInt < lo) (g2 : ¬ hi < x.toInt) (ho : offs[(x.toInt - lo).toNat]? = some off) (ht : (pc : Int) + off = (tgt : Int)) (k : WW l Z M d bc bs tgt lv st h Post) : WW l Z M d bc bs pc lv ((.int x) :: st) h Post := by
  intro p e s m args below meth c ws0 mc ms ws H locs cells slots rls rst C S h1 h2
  have C' := C
  obtain ⟨hx, hb, hr, hml, hown, hts, hlocks, htab, hK, hZ, hst, hnm⟩ := C'
  obtain ⟨hHR, hP, hD, hS, hL, hF, hE⟩ := S
  obtain ⟨b0, r0, e0, q0, F1⟩ := hF.c
  subst e0
  cases (show b0 = Value.int x from q0)
  refine lv_tableIn hx hb hd g1 g2 ho ht ?_
  exact k p e s m args below meth c ws0 mc ms ws H locs cells slots rls _ C ⟨hHR, hP, hD, hS, hL, F1, hE⟩ h1 h2
theorem ww_tableOut {dflt lo hi : Int} {offs : Array Int} {len : Nat} {x : Int32} {tgt : Nat} (hd : decode (mm_c M) pc = .ok (.tableswitch dflt lo hi offs, len)) (g1 : x.toInt < lo ∨ hi < x.toInt) (ht : (pc : Int) + dflt = (tgt : Int)) (k : WW l Z M d bc bs tgt lv st h Post) : WW l Z M d bc bs pc lv ((.int x) :: st) h Post := by
  intro p e s m args below meth c ws0 mc ms ws H locs cells slots rls rst C S h1 h2
  have C' := C
  obtain ⟨hx, hb, hr, hml, hown, hts, hlocks, htab, hK, hZ, hst, hnm⟩ := C'
  obtain ⟨hHR, hP, hD, hS, hL, hF, hE⟩ := S
  obtain ⟨b0, r0, e0, q0, F1⟩ := hF.c
  subst e0
  cases (show b0 = Value.int x from q0)
  refine lv_tableOut hx hb hd g1 ht ?_
  exact k p e s m args below meth c ws0 mc ms ws H locs cells slots rls _ C ⟨hHR, hP, hD, hS, hL, F1, hE⟩ h1 h2
theorem ww_lookup {dflt : Int} {ps : Array (Int × Int)} {len : Nat} {x : Int32} {off : Int} {tgt : Nat} (hd : decode (mm_c M) pc = .ok (.lookupswitch dflt ps, len)) (hp : (ps.toList.zip (ps.toList.drop 1)).all (fun (a, next) => a.1 < next.1) = true) (ho : Op.lookupswitch.offset ps.toList dflt x.toInt = off) (ht : (pc : Int) + off = (tgt : Int)) (k : WW l Z M d bc bs tgt lv st h Post) : WW l Z M d bc bs pc lv ((.int x) :: st) h Post := by
  intro p e s m args below meth c ws0 mc ms ws H locs cells slots rls rst C S h1 h2
  have C' := C
  obtain ⟨hx, hb, hr, hml, hown, hts, hlocks, htab, hK, hZ, hst, hnm⟩ := C'
  obtain ⟨hHR, hP, hD, hS, hL, hF, hE⟩ := S
  obtain ⟨b0, r0, e0, q0, F1⟩ := hF.c
  subst e0
  cases (show b0 = Value.int x from q0)
  refine lv_lookup hx hb hd hp ho ht ?_
  exact k p e s m args below meth c ws0 mc ms ws H locs cells slots rls _ C ⟨hHR, hP, hD, hS, hL, F1, hE⟩ h1 h2
theorem ww_iret {x : Int32} (hd : decode (mm_c M) pc = .ok (.ireturn, 1)) (hr0 : mm_r M = some .int) (hp : Post (.inl (some (.int x))) h) : WW l Z M d bc bs pc lv [.int x] h Post := by
  intro p e s m args below meth c ws0 mc ms ws H locs cells slots rls rst C S h1 h2
  have C' := C
  obtain ⟨hx, hb, hr, hml, hown, hts, hlocks, htab, hK, hZ, hst, hnm⟩ := C'
  obtain ⟨hHR, hP, hD, hS, hL, hF, hE⟩ := S
  obtain ⟨b0, r0, e0, q0, F1⟩ := hF.c
  subst e0
  cases (show b0 = Value.int x from q0)
  cases r0 with
  | cons _ _ => exact F1.elim
  | nil =>
    have hq : ∀ t : State, t.heap = H → s.WarmedH t.vm → ee_Qc Z ws0 s.heap.size Post args s (.returned (some (.int x))) t := fun t ht _ => ⟨⟨some (.int x), some (.int x), h, ws, rfl, hp, ⟨rfl, trivial⟩, hHR, by rw [ht]; exact hP, hD, hE⟩, hS.F ht⟩
    refine W.widen (k := mc) (n := ms) (by omega) (by omega) ?_
    exact vx_ret (W.iret (v := x) hx hb (hr.trans hr0) hq hS.2.2 hd)
theorem ww_zret {x : Int32} (hd : decode (mm_c M) pc = .ok (.ireturn, 1)) (hr0 : mm_r M = some .boolean) (hn0 : narrow .boolean (.int x) = .int x) (hp : Post (.inl (some (.int x))) h) : WW l Z M d bc bs pc lv [.int x] h Post := by
  intro p e s m args below meth c ws0 mc ms ws H locs cells slots rls rst C S h1 h2
  have C' := C
  obtain ⟨hx, hb, hr, hml, hown, hts, hlocks, htab, hK, hZ, hst, hnm⟩ := C'
  obtain ⟨hHR, hP, hD, hS, hL, hF, hE⟩ := S
  obtain ⟨b0, r0, e0, q0, F1⟩ := hF.c
  subst e0
  cases (show b0 = Value.int x from q0)
  cases r0 with
  | cons _ _ => exact F1.elim
  | nil =>
    have hq : ∀ t : State, t.heap = H → s.WarmedH t.vm → ee_Qc Z ws0 s.heap.size Post args s (.returned (some (.int x))) t := fun t ht _ => ⟨⟨some (.int x), some (.int x), h, ws, rfl, hp, ⟨rfl, trivial⟩, hHR, by rw [ht]; exact hP, hD, hE⟩, hS.F ht⟩
    refine W.widen (k := mc) (n := ms) (by omega) (by omega) ?_
    exact vx_ret (W.zret (v := x) (ty := .boolean) hx hb (hr.trans hr0) hn0 hq hS.2.2 hd)
theorem ww_vret (hd : decode (mm_c M) pc = .ok (.return_, 1)) (hr0 : mm_r M = none) (hp : Post (.inl none) h) : WW l Z M d bc bs pc lv [] h Post := by
  intro p e s m args below meth c ws0 mc ms ws H locs cells slots rls rst C S h1 h2
  have C' := C
  obtain ⟨hx, hb, hr, hml, hown, hts, hlocks, htab, hK, hZ, hst, hnm⟩ := C'
  obtain ⟨hHR, hP, hD, hS, hL, hF, hE⟩ := S
  cases rst with
  | cons _ _ => exact hF.elim
  | nil =>
    have hq : ∀ t : State, t.heap = H → s.WarmedH t.vm → ee_Qc Z ws0 s.heap.size Post args s (.returned (none)) t := fun t ht _ => ⟨⟨none, none, h, ws, rfl, hp, trivial, hHR, by rw [ht]; exact hP, hD, hE⟩, hS.F ht⟩
    refine W.widen (k := mc) (n := ms) (by omega) (by omega) ?_
    exact vx_ret (W.vret hx hb (hr.trans hr0) hq hS.2.2 hd)
theorem ww_aret {x : Nat} {rt : FieldType} (hd : decode (mm_c M) pc = .ok (.areturn, 1)) (hr0 : mm_r M = some rt) (hrt : (∃ n, rt = .object n) ∨ ∃ t, rt = .array t) (hp : Post (.inl (some (.ref x))) h) : WW l Z M d bc bs pc lv [.ref x] h Post := by
  intro p e s m args below meth c ws0 mc ms ws H locs cells slots rls rst C S h1 h2
  have C' := C
  obtain ⟨hx, hb, hr, hml, hown, hts, hlocks, htab, hK, hZ, hst, hnm⟩ := C'
  obtain ⟨hHR, hP, hD, hS, hL, hF, hE⟩ := S
  obtain ⟨b0, r9, e0, q0, F1⟩ := hF.c
  subst e0
  have q2 := q0
  cases r9 with
  | cons _ _ => exact F1.elim
  | nil =>
    have hq : ∀ t : State, t.heap = H → s.WarmedH t.vm → ee_Qc Z ws0 s.heap.size Post args s (.returned (some b0)) t := fun t ht _ => ⟨⟨some (.ref x), some b0, h, ws, rfl, hp, ⟨q2, trivial⟩, hHR, by rw [ht]; exact hP, hD, hE⟩, hS.F ht⟩
    refine W.widen (k := mc) (n := ms) (by omega) (by omega) ?_
    refine vx_ret (W.aret (v := b0) hx hb (hr.trans hr0) hrt ?_ hq hS.2.2 hd)
    rcases q0 with ⟨a9, e9, g1, g2⟩ | ⟨g1, g2⟩
    · exact Or.inr ⟨_, g2⟩
    · exact Or.inr ⟨_, g2⟩
end WWR
