/-! ===== how the class says a number: the first way that is found ===== -/
def fstN (P : Nat → Bool) : Nat → Nat → Option Nat
  | _, 0 => none
  | i, j + 1 => if P i = true then some i else fstN P (i + 1) j
theorem fstN_t {P : Nat → Bool} {i : Nat} (j : Nat) (h : P i = true) : fstN P i (j + 1) = some i := by simp [fstN, h]
theorem fstN_f {P : Nat → Bool} {i : Nat} (j : Nat) (h : P i = false) : fstN P i (j + 1) = fstN P (i + 1) j := by simp [fstN, h]
theorem fstN_no {P : Nat → Bool} : ∀ (j i : Nat), (∀ k, i ≤ k → P k = false) → fstN P i j = none
  | 0, _, _ => rfl
  | j + 1, i, h => by rw [fstN_f j (h i (Nat.le_refl _))]; exact fstN_no j (i + 1) (fun k hk => h k (by omega))
theorem fstN_r {P : Nat → Bool} : ∀ (j i a : Nat), fstN P i j = some a → i ≤ a ∧ a < i + j ∧ P a = true
  | 0, i, a, h => by cases h
  | j + 1, i, a, h => by
    by_cases c : P i = true
    · rw [fstN_t j c] at h; cases h; exact ⟨Nat.le_refl _, by omega, c⟩
    · rw [fstN_f j (by simpa using c)] at h
      have := fstN_r j (i + 1) a h
      exact ⟨by omega, by omega, this.2.2⟩
def tkB (x : PQ) (D n a b : Nat) : Bool := x.1 a + x.1 b + D == x.1 n && x.2 a + x.2 b == x.2 n
def suP (x : PQ) (D n a : Nat) : Bool := decide (2 * a ≤ n) && tkB x D n a (n - a)
def dfP (x : PQ) (D n a : Nat) : Bool := tkB x D n a (a - n)
def prP (x : PQ) (D n a b : Nat) : Bool := a * b == n && tkB x D n a b
def prd (x : PQ) (D n : Nat) : Nat → Nat → Option (Nat × Nat)
  | _, 0 => none
  | a, j + 1 => match fstN (prP x D n a) a (61 - a) with
    | some b => some (a, b)
    | none => prd x D n (a + 1) j
theorem prd_t {x : PQ} {D n a b : Nat} (j : Nat) (h : fstN (prP x D n a) a (61 - a) = some b) : prd x D n a (j + 1) = some (a, b) := by simp [prd, h]
theorem prd_f {x : PQ} {D n a : Nat} (j : Nat) (h : fstN (prP x D n a) a (61 - a) = none) : prd x D n a (j + 1) = prd x D n (a + 1) j := by simp [prd, h]
abbrev WAY := Nat × Nat × Nat
def wayV (o : Option WAY) (w : Nat) : Int32 := match o with
  | some (v, a, b) => if w = 0 then nI v else if w = 1 then nI a else nI b
  | none => if w = 0 then nI 0 else -1
def sayS (own : Nat → Nat) (x : PQ) (D n : Nat) : Option WAY :=
  if x.1 n = own n then none else match fstN (suP x D n) 0 61 with
  | some a => some (1, a, n - a)
  | none => match fstN (dfP x D n) n (61 - n) with
    | some a => some (2, a, a - n)
    | none => match prd x D n 0 61 with
      | some (a, b) => some (3, a, b)
      | none => none
def chF (o : Option WAY) (h : PH) : Prop := hp_F h 30 6 = .int (wayV o 0) ∧ hp_F h 30 7 = .int (wayV o 1) ∧ hp_F h 30 8 = .int (wayV o 2)
def Sp0 : Nat → Prop := fun _ => False
def Sp3 : Nat → Nat → Prop := fun c j => c = 30 ∧ (j = 6 ∨ j = 7 ∨ j = 8)
theorem Same.sp3 {h h' : PH} (hS : Same Sp0 Sp3 h h') : Same CX CY h h' := hS.mono (fun _ e => e.elim) (fun c j e => by rcases e with ⟨rfl, rfl | rfl | rfl⟩ <;> decide)
theorem SpK.s3 {h h' : PH} (hK : SpK h) (hS : Same Sp0 Sp3 h h') : SpK h' := hK.same hS (fun j hj e => by unfold Sp3 at e; omega)
theorem SpA.s3 {h h' : PH} {x : PQ} {s : Nat → Bool} {D : Nat} (hA : SpA h x s D) (hS : Same Sp0 Sp3 h h') : SpA h' x s D :=
  ⟨fun i hi => by rw [hS.2.2.2.1 _ (fun e => e)]; exact hA.1 i hi, fun i hi => by rw [hS.2.2.2.1 _ (fun e => e)]; exact hA.2.1 i hi, fun i hi => by rw [hS.2.2.2.1 _ (fun e => e)]; exact hA.2.2.1 i hi, by rw [hS.2.2.1 _ _ (fun e => by unfold Sp3 at e; omega)]; exact hA.2.2.2⟩
def SpL (x : PQ) (D : Nat) : Prop := D ≤ 20 ∧ ∀ m, m ≤ 60 → x.1 m ≤ 99 ∧ x.2 m < 1000000
/-- what a choosing loop ends with -/
def chR (o : Option WAY) (h : PH) : Res → PH → Prop := match o with
  | some w => RQ (some (.int (nI 1))) (fun h9 => chF (some w) h9 ∧ Same Sp0 Sp3 h h9)
  | none => RT (some (.int (nI 0))) h
def chQ (o : Option WAY) (h : PH) : Res → PH → Prop := match o with
  | some w => RQ none (fun h9 => chF (some w) h9 ∧ Same Sp0 Sp3 h h9)
  | none => RT none h
set_option maxHeartbeats 4000000 in
set_option maxRecDepth 100000 in
theorem c_Sp_take_t {l : Launch} {Z : EE} (hst : l.stackTraces = false) {h : PH} (hK : SpK h) {x : PQ} {s : Nat → Bool} {D : Nat} (hA : SpA h x s D) (hB : SpL x D) (n w a b : Nat) (hn : n ≤ 60) (ha : a ≤ 60) (hb : b ≤ 60) (hT : tkB x D n a b = true) : CC l Z m_X7_take 0 0 0 [.ref 30, .int (nI n), .int (nI w), .int (nI a), .int (nI b)] h (RQ (some (.int (nI 1))) (fun h9 => chF (some (w, a, b)) h9 ∧ Same Sp0 Sp3 h h9)) := by
  refine ee_entry hst (by decide +kernel) rfl rfl (by simp [Value.category]) (Nat.le_of_ble_eq_true rfl) ?_
  refine ww_lv (lv2 := [.ref 30, .int (nI n), .int (nI w), .int (nI a), .int (nI b)]) rfl ?_
  have b1 := hB.2 n hn
  have b2 := hB.2 a ha
  have b3 := hB.2 b hb
  have b4 := hB.1
  simp only [tkB, Bool.and_eq_true, beq_iff_eq, Bool.and_eq_false_iff, beq_eq_false_iff_ne] at hT
  refine ww_aload_n dX7_take_0 rfl rfl ?_
  refine ww_get 1 dX7_take_1 hK.1 rfl (by decide) inX7 wg_170 hK.2.2.2.1 ?_
  refine ww_iload_n dX7_take_4 rfl rfl ?_
  refine ww_ialdF dX7_take_5 hK.2.1.2.1 rfl (by omega) (by omega) ?_
  refine ww_sk (st2 := [.int (nI (x.1 a))]) (by rw [hA.1 a (by omega)]) ?_
  refine ww_aload_n dX7_take_6 rfl rfl ?_
  refine ww_get 1 dX7_take_7 hK.1 rfl (by decide) inX7 wg_170 hK.2.2.2.1 ?_
  refine ww_iload dX7_take_10 rfl ?_
  refine ww_ialdF dX7_take_12 hK.2.1.2.1 rfl (by omega) (by omega) ?_
  refine ww_sk (st2 := [.int (nI (x.1 b)), .int (nI (x.1 a))]) (by rw [hA.1 b (by omega)]) ?_
  refine ww_iaddN dX7_take_13 ?_
  refine ww_aload_n dX7_take_14 rfl rfl ?_
  refine ww_get 5 dX7_take_15 hK.1 rfl (by decide) inX7 wg_176 hA.2.2.2 ?_
  refine ww_iaddN dX7_take_18 ?_
  refine ww_aload_n dX7_take_19 rfl rfl ?_
  refine ww_get 1 dX7_take_20 hK.1 rfl (by decide) inX7 wg_170 hK.2.2.2.1 ?_
  refine ww_iload_n dX7_take_23 rfl rfl ?_
  refine ww_ialdF dX7_take_24 hK.2.1.2.1 rfl (by omega) (by omega) ?_
  refine ww_sk (st2 := [.int (nI (x.1 n)), .int (nI (((x.1 a) + (x.1 b)) + D))]) (by rw [hA.1 n (by omega)]) ?_
  refine ww_icmp_neN (tgt := 51) dX7_take_25 (by decide) (by omega) (by omega) (fun c25 => ?_) (fun c25 => ?_)
  · exfalso; omega
  · refine ww_aload_n dX7_take_28 rfl rfl ?_
    refine ww_get 2 dX7_take_29 hK.1 rfl (by decide) inX7 wg_172 hK.2.2.2.2.1 ?_
    refine ww_iload_n dX7_take_32 rfl rfl ?_
    refine ww_ialdF dX7_take_33 hK.2.1.2.2.1 rfl (by omega) (by omega) ?_
    refine ww_sk (st2 := [.int (nI (x.2 a))]) (by rw [hA.2.1 a (by omega)]) ?_
    refine ww_aload_n dX7_take_34 rfl rfl ?_
    refine ww_get 2 dX7_take_35 hK.1 rfl (by decide) inX7 wg_172 hK.2.2.2.2.1 ?_
    refine ww_iload dX7_take_38 rfl ?_
    refine ww_ialdF dX7_take_40 hK.2.1.2.2.1 rfl (by omega) (by omega) ?_
    refine ww_sk (st2 := [.int (nI (x.2 b)), .int (nI (x.2 a))]) (by rw [hA.2.1 b (by omega)]) ?_
    refine ww_iaddN dX7_take_41 ?_
    refine ww_aload_n dX7_take_42 rfl rfl ?_
    refine ww_get 2 dX7_take_43 hK.1 rfl (by decide) inX7 wg_172 hK.2.2.2.2.1 ?_
    refine ww_iload_n dX7_take_46 rfl rfl ?_
    refine ww_ialdF dX7_take_47 hK.2.1.2.2.1 rfl (by omega) (by omega) ?_
    refine ww_sk (st2 := [.int (nI (x.2 n)), .int (nI ((x.2 a) + (x.2 b)))]) (by rw [hA.2.1 n (by omega)]) ?_
    refine ww_icmp_eqN (tgt := 53) dX7_take_48 (by decide) (by omega) (by omega) (fun c48 => ?_) (fun c48 => ?_)
    · refine ww_aload_n dX7_take_53 rfl rfl ?_
      refine ww_iload_n dX7_take_54 rfl rfl ?_
      refine ww_pfI tyX7 6 dX7_take_55 hK.1 rfl (by decide) inX7 tyX7_ok nmX7 wg_177 rfl rfl ?_
      refine ww_aload_n dX7_take_58 rfl rfl ?_
      refine ww_iload_n dX7_take_59 rfl rfl ?_
      refine ww_pfI tyX7 7 dX7_take_60 hK.1 rfl (by decide) inX7 tyX7_ok nmX7 wg_179 rfl rfl ?_
      refine ww_aload_n dX7_take_63 rfl rfl ?_
      refine ww_iload dX7_take_64 rfl ?_
      refine ww_pfI tyX7 8 dX7_take_66 hK.1 rfl (by decide) inX7 tyX7_ok nmX7 wg_181 rfl rfl ?_
      refine ww_iconst (v := nI 1) dX7_take_69 (by decide) ?_
      exact ww_zret dX7_take_70 rfl (by first | rfl | exact nar_bI _) ⟨rfl, ⟨hp_F_nj (by decide) (hp_F_nj (by decide) (hp_F_eq _ _ _ _)), hp_F_nj (by decide) (hp_F_eq _ _ _ _), hp_F_eq _ _ _ _⟩, Same.sF (Same.sF (Same.sF Same.rf ⟨rfl, Or.inl rfl⟩) ⟨rfl, Or.inr (Or.inl rfl)⟩) ⟨rfl, Or.inr (Or.inr rfl)⟩⟩
    · exfalso; omega
set_option maxHeartbeats 4000000 in
set_option maxRecDepth 100000 in
theorem c_Sp_take_f {l : Launch} {Z : EE} (hst : l.stackTraces = false) {h : PH} (hK : SpK h) {x : PQ} {s : Nat → Bool} {D : Nat} (hA : SpA h x s D) (hB : SpL x D) (n w a b : Nat) (hn : n ≤ 60) (ha : a ≤ 60) (hb : b ≤ 60) (hT : tkB x D n a b = false) : CC l Z m_X7_take 0 0 0 [.ref 30, .int (nI n), .int (nI w), .int (nI a), .int (nI b)] h (RT (some (.int (nI 0))) h) := by
  refine ee_entry hst (by decide +kernel) rfl rfl (by simp [Value.category]) (Nat.le_of_ble_eq_true rfl) ?_
  refine ww_lv (lv2 := [.ref 30, .int (nI n), .int (nI w), .int (nI a), .int (nI b)]) rfl ?_
  have b1 := hB.2 n hn
  have b2 := hB.2 a ha
  have b3 := hB.2 b hb
  have b4 := hB.1
  simp only [tkB, Bool.and_eq_true, beq_iff_eq, Bool.and_eq_false_iff, beq_eq_false_iff_ne] at hT
  refine ww_aload_n dX7_take_0 rfl rfl ?_
  refine ww_get 1 dX7_take_1 hK.1 rfl (by decide) inX7 wg_170 hK.2.2.2.1 ?_
  refine ww_iload_n dX7_take_4 rfl rfl ?_
  refine ww_ialdF dX7_take_5 hK.2.1.2.1 rfl (by omega) (by omega) ?_
  refine ww_sk (st2 := [.int (nI (x.1 a))]) (by rw [hA.1 a (by omega)]) ?_
  refine ww_aload_n dX7_take_6 rfl rfl ?_
  refine ww_get 1 dX7_take_7 hK.1 rfl (by decide) inX7 wg_170 hK.2.2.2.1 ?_
  refine ww_iload dX7_take_10 rfl ?_
  refine ww_ialdF dX7_take_12 hK.2.1.2.1 rfl (by omega) (by omega) ?_
  refine ww_sk (st2 := [.int (nI (x.1 b)), .int (nI (x.1 a))]) (by rw [hA.1 b (by omega)]) ?_
  refine ww_iaddN dX7_take_13 ?_
  refine ww_aload_n dX7_take_14 rfl rfl ?_
  refine ww_get 5 dX7_take_15 hK.1 rfl (by decide) inX7 wg_176 hA.2.2.2 ?_
  refine ww_iaddN dX7_take_18 ?_
  refine ww_aload_n dX7_take_19 rfl rfl ?_
  refine ww_get 1 dX7_take_20 hK.1 rfl (by decide) inX7 wg_170 hK.2.2.2.1 ?_
  refine ww_iload_n dX7_take_23 rfl rfl ?_
  refine ww_ialdF dX7_take_24 hK.2.1.2.1 rfl (by omega) (by omega) ?_
  refine ww_sk (st2 := [.int (nI (x.1 n)), .int (nI (((x.1 a) + (x.1 b)) + D))]) (by rw [hA.1 n (by omega)]) ?_
  refine ww_icmp_neN (tgt := 51) dX7_take_25 (by decide) (by omega) (by omega) (fun c25 => ?_) (fun c25 => ?_)
  · refine ww_iconst (v := nI 0) dX7_take_51 (by decide) ?_
    exact ww_zret dX7_take_52 rfl (by first | rfl | exact nar_bI _) ⟨rfl, rfl⟩
  · refine ww_aload_n dX7_take_28 rfl rfl ?_
    refine ww_get 2 dX7_take_29 hK.1 rfl (by decide) inX7 wg_172 hK.2.2.2.2.1 ?_
    refine ww_iload_n dX7_take_32 rfl rfl ?_
    refine ww_ialdF dX7_take_33 hK.2.1.2.2.1 rfl (by omega) (by omega) ?_
    refine ww_sk (st2 := [.int (nI (x.2 a))]) (by rw [hA.2.1 a (by omega)]) ?_
    refine ww_aload_n dX7_take_34 rfl rfl ?_
    refine ww_get 2 dX7_take_35 hK.1 rfl (by decide) inX7 wg_172 hK.2.2.2.2.1 ?_
    refine ww_iload dX7_take_38 rfl ?_
    refine ww_ialdF dX7_take_40 hK.2.1.2.2.1 rfl (by omega) (by omega) ?_
    refine ww_sk (st2 := [.int (nI (x.2 b)), .int (nI (x.2 a))]) (by rw [hA.2.1 b (by omega)]) ?_
    refine ww_iaddN dX7_take_41 ?_
    refine ww_aload_n dX7_take_42 rfl rfl ?_
    refine ww_get 2 dX7_take_43 hK.1 rfl (by decide) inX7 wg_172 hK.2.2.2.2.1 ?_
    refine ww_iload_n dX7_take_46 rfl rfl ?_
    refine ww_ialdF dX7_take_47 hK.2.1.2.2.1 rfl (by omega) (by omega) ?_
    refine ww_sk (st2 := [.int (nI (x.2 n)), .int (nI ((x.2 a) + (x.2 b)))]) (by rw [hA.2.1 n (by omega)]) ?_
    refine ww_icmp_eqN (tgt := 53) dX7_take_48 (by decide) (by omega) (by omega) (fun c48 => ?_) (fun c48 => ?_)
    · exfalso; omega
    · refine ww_iconst (v := nI 0) dX7_take_51 (by decide) ?_
      exact ww_zret dX7_take_52 rfl (by first | rfl | exact nar_bI _) ⟨rfl, rfl⟩
set_option maxHeartbeats 4000000 in
set_option maxRecDepth 100000 in
theorem l_Sp_sum {l : Launch} {Z : EE} (hst : l.stackTraces = false) {h : PH} (hK : SpK h) {x : PQ} {s : Nat → Bool} {D : Nat} (hA : SpA h x s D) (hB : SpL x D) (n : Nat) (hn : n ≤ 60) : ∀ (j a : Nat), a + j = 61 → 2 * a ≤ n + 2 → WW l Z m_X7_chooseSum 1 0 0 2 [.ref 30, .int (nI n), .int (nI a)] [] h (chR ((fstN (suP x D n) a j).map (fun a => (1, a, n - a))) h) := by
  intro j
  induction j with
  | zero => intro a h1 h2; exfalso; omega
  | succ j ih =>
    intro a hj ha
    by_cases c : 2 * a ≤ n
    · rcases hT : tkB x D n a (n - a) with _ | _
      · have hP : suP x D n a = false := by simp [suP, hT]
        rw [fstN_f j hP]
        refine ww_iload_n dX7_chooseSum_2 rfl rfl ?_
        refine ww_iload_n dX7_chooseSum_3 rfl rfl ?_
        refine ww_iload_n dX7_chooseSum_4 rfl rfl ?_
        refine ww_isubN dX7_chooseSum_5 (by omega) ?_
        refine ww_icmp_gtN (tgt := 30) dX7_chooseSum_6 (by decide) (by omega) (by omega) (fun c6 => ?_) (fun c6 => ?_)
        · exfalso; omega
        · refine ww_aload_n dX7_chooseSum_9 rfl rfl ?_
          refine ww_iload_n dX7_chooseSum_10 rfl rfl ?_
          refine ww_iconst (v := nI 1) dX7_chooseSum_11 (by decide) ?_
          refine ww_iload_n dX7_chooseSum_12 rfl rfl ?_
          refine ww_iload_n dX7_chooseSum_13 rfl rfl ?_
          refine ww_iload_n dX7_chooseSum_14 rfl rfl ?_
          refine ww_isubN dX7_chooseSum_15 (by omega) ?_
          refine ww_cVr (M := m_X7_chooseSum) (pc := 16) (v := .int (nI 0)) (h1 := h) (st := []) (d := 1) (bc := 0) (bs := 0) (c_Sp_take_f hst hK hA hB n 1 a (n - a) hn (by omega) (by omega) hT) vv_X7_take dX7_chooseSum_16 wg_930 hK.1 rfl rfl rfl rfl (Nat.le_of_ble_eq_true rfl) (Nat.le_of_ble_eq_true rfl) (Nat.le_of_ble_eq_true rfl) (Nat.le_of_ble_eq_true rfl) ?_
          refine ww_if_eqN (tgt := 24) dX7_chooseSum_19 (by decide) (by omega) (fun c19 => ?_) (fun c19 => ?_)
          · refine ww_incN (c := 1) (lv2 := [.ref 30, .int (nI n), .int (nI (a + 1))]) dX7_chooseSum_24 rfl rfl rfl (by decide) rfl ?_
            refine ww_goto (tgt := 2) dX7_chooseSum_27 (by decide) ?_
            exact ih (a + 1) (by omega) (by omega)
          · exfalso; omega
      · have hP : suP x D n a = true := by simp [suP, hT, c]
        rw [fstN_t j hP]
        refine ww_iload_n dX7_chooseSum_2 rfl rfl ?_
        refine ww_iload_n dX7_chooseSum_3 rfl rfl ?_
        refine ww_iload_n dX7_chooseSum_4 rfl rfl ?_
        refine ww_isubN dX7_chooseSum_5 (by omega) ?_
        refine ww_icmp_gtN (tgt := 30) dX7_chooseSum_6 (by decide) (by omega) (by omega) (fun c6 => ?_) (fun c6 => ?_)
        · exfalso; omega
        · refine ww_aload_n dX7_chooseSum_9 rfl rfl ?_
          refine ww_iload_n dX7_chooseSum_10 rfl rfl ?_
          refine ww_iconst (v := nI 1) dX7_chooseSum_11 (by decide) ?_
          refine ww_iload_n dX7_chooseSum_12 rfl rfl ?_
          refine ww_iload_n dX7_chooseSum_13 rfl rfl ?_
          refine ww_iload_n dX7_chooseSum_14 rfl rfl ?_
          refine ww_isubN dX7_chooseSum_15 (by omega) ?_
          refine ww_cVq (M := m_X7_chooseSum) (pc := 16) (v := .int (nI 1)) (st := []) (d := 1) (bc := 0) (bs := 0) (c_Sp_take_t hst hK hA hB n 1 a (n - a) hn (by omega) (by omega) hT) vv_X7_take dX7_chooseSum_16 wg_930 hK.1 rfl rfl rfl rfl (Nat.le_of_ble_eq_true rfl) (Nat.le_of_ble_eq_true rfl) (Nat.le_of_ble_eq_true rfl) (Nat.le_of_ble_eq_true rfl) (fun hr qr => ?_)
          refine ww_if_eqN (tgt := 24) dX7_chooseSum_19 (by decide) (by omega) (fun c19 => ?_) (fun c19 => ?_)
          · exfalso; omega
          · refine ww_iconst (v := nI 1) dX7_chooseSum_22 (by decide) ?_
            exact ww_zret dX7_chooseSum_23 rfl (by first | rfl | exact nar_bI _) ⟨rfl, qr⟩
    · rw [fstN_no (j + 1) a (fun k hk => by simp only [suP, Bool.and_eq_false_iff, decide_eq_false_iff_not]; exact Or.inl (by omega))]
      by_cases c2 : a ≤ n
      · refine ww_iload_n dX7_chooseSum_2 rfl rfl ?_
        refine ww_iload_n dX7_chooseSum_3 rfl rfl ?_
        refine ww_iload_n dX7_chooseSum_4 rfl rfl ?_
        refine ww_isubN dX7_chooseSum_5 (by omega) ?_
        refine ww_icmp_gtN (tgt := 30) dX7_chooseSum_6 (by decide) (by omega) (by omega) (fun c6 => ?_) (fun c6 => ?_)
        · refine ww_iconst (v := nI 0) dX7_chooseSum_30 (by decide) ?_
          exact ww_zret dX7_chooseSum_31 rfl (by first | rfl | exact nar_bI _) ⟨rfl, rfl⟩
        · exfalso; omega
      · have hn0 : n = 0 := by omega
        have ha1 : a = 1 := by omega
        subst hn0; subst ha1
        refine ww_iload_n dX7_chooseSum_2 rfl rfl ?_
        refine ww_iload_n dX7_chooseSum_3 rfl rfl ?_
        refine ww_iload_n dX7_chooseSum_4 rfl rfl ?_
        refine ww_isub dX7_chooseSum_5 ?_
        refine ww_icmp_gt (tgt := 30) dX7_chooseSum_6 (by decide) (fun c6 => ?_) (fun c6 => ?_)
        · refine ww_iconst (v := nI 0) dX7_chooseSum_30 (by decide) ?_
          exact ww_zret dX7_chooseSum_31 rfl (by first | rfl | exact nar_bI _) ⟨rfl, rfl⟩
        · exact absurd (by decide) c6
set_option maxHeartbeats 4000000 in
set_option maxRecDepth 100000 in
theorem c_Sp_sum {l : Launch} {Z : EE} (hst : l.stackTraces = false) {h : PH} (hK : SpK h) {x : PQ} {s : Nat → Bool} {D : Nat} (hA : SpA h x s D) (hB : SpL x D) (n : Nat) (hn : n ≤ 60) : CC l Z m_X7_chooseSum 1 0 0 [.ref 30, .int (nI n)] h (chR ((fstN (suP x D n) 0 61).map (fun a => (1, a, n - a))) h) := by
  refine ee_entry hst (by decide +kernel) rfl rfl (by simp [Value.category]) (Nat.le_of_ble_eq_true rfl) ?_
  refine ww_lv (lv2 := [.ref 30, .int (nI n), UU]) rfl ?_
  refine ww_iconst (v := nI 0) dX7_chooseSum_0 (by decide) ?_
  refine ww_sti_n (lv2 := [.ref 30, .int (nI n), .int (nI 0)]) dX7_chooseSum_1 rfl rfl (by decide) rfl ?_
  exact l_Sp_sum hst hK hA hB n hn 61 0 rfl (by omega)
