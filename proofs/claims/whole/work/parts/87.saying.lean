/-! ===== how the class says a number: the first way that is found ===== -/
def fstN (P : Nat → Bool) : Nat → Nat → Option Nat
  | _, 0 => none
  | i, j + 1 => if P i = true then some i else fstN P (i + 1) j
theorem fstN_t {P : Nat → Bool} {i : Nat} (j : Nat) (h : P i = true) : fstN P i (j + 1) = some i := by simp [fstN, h]
theorem fstN_f {P : Nat → Bool} {i : Nat} (j : Nat) (h : P i = false) : fstN P i (j + 1) = fstN P (i + 1) j := by simp [fstN, h]
theorem fstN_no {P : Nat → Bool} : ∀ (j i : Nat), (∀ k, i ≤ k → P k = false) → fstN P i j = none
  | 0, _, _ => rfl
  | j + 1, i, h => by rw [fstN_f j (h i (Nat.le_refl _))]; exact fstN_no j (i + 1) (fun k hk => h k (by omega))
theorem fstN_r {P : Nat → Bool} : ∀ (j i a : Nat), fstN P i j = some a → i ≤ a ∧ a < i + j ∧ P a = true
  | 0, i, a, h => by cases h
  | j + 1, i, a, h => by
    by_cases c : P i = true
    · rw [fstN_t j c] at h; cases h; exact ⟨Nat.le_refl _, by omega, c⟩
    · rw [fstN_f j (by simpa using c)] at h
      have := fstN_r j (i + 1) a h
      exact ⟨by omega, by omega, this.2.2⟩
def tkB (x : PQ) (D n a b : Nat) : Bool := x.1 a + x.1 b + D == x.1 n && x.2 a + x.2 b == x.2 n
def suP (x : PQ) (D n a : Nat) : Bool := decide (2 * a ≤ n) && tkB x D n a (n - a)
def dfP (x : PQ) (D n a : Nat) : Bool := tkB x D n a (a - n)
def prP (x : PQ) (D n a b : Nat) : Bool := a * b == n && tkB x D n a b
def prd (x : PQ) (D n : Nat) : Nat → Nat → Option (Nat × Nat)
  | _, 0 => none
  | a, j + 1 => match fstN (prP x D n a) a (61 - a) with
    | some b => some (a, b)
    | none => prd x D n (a + 1) j
theorem prd_t {x : PQ} {D n a b : Nat} (j : Nat) (h : fstN (prP x D n a) a (61 - a) = some b) : prd x D n a (j + 1) = some (a, b) := by simp [prd, h]
theorem prd_f {x : PQ} {D n a : Nat} (j : Nat) (h : fstN (prP x D n a) a (61 - a) = none) : prd x D n a (j + 1) = prd x D n (a + 1) j := by simp [prd, h]
abbrev WAY := Nat × Nat × Nat
def wayV (o : Option WAY) (w : Nat) : Int32 := match o with
  | some (v, a, b) => if w = 0 then nI v else if w = 1 then nI a else nI b
  | none => if w = 0 then nI 0 else -1
def sayS (own : Nat → Nat) (x : PQ) (D n : Nat) : Option WAY :=
  if x.1 n = own n then none else match fstN (suP x D n) 0 61 with
  | some a => some (1, a, n - a)
  | none => match fstN (dfP x D n) n (61 - n) with
    | some a => some (2, a, a - n)
    | none => match prd x D n 0 61 with
      | some (a, b) => some (3, a, b)
      | none => none
def chF (o : Option WAY) (h : PH) : Prop := hp_F h 30 6 = .int (wayV o 0) ∧ hp_F h 30 7 = .int (wayV o 1) ∧ hp_F h 30 8 = .int (wayV o 2)
def Sp0 : Nat → Prop := fun _ => False
def Sp3 : Nat → Nat → Prop := fun c j => c = 30 ∧ (j = 6 ∨ j = 7 ∨ j = 8)
theorem Same.sp3 {h h' : PH} (hS : Same Sp0 Sp3 h h') : Same CX CY h h' := hS.mono (fun _ e => e.elim) (fun c j e => by rcases e with ⟨rfl, rfl | rfl | rfl⟩ <;> decide)
theorem SpK.s3 {h h' : PH} (hK : SpK h) (hS : Same Sp0 Sp3 h h') : SpK h' := hK.same hS (fun j hj e => by unfold Sp3 at e; omega)
theorem SpA.s3 {h h' : PH} {x : PQ} {s : Nat → Bool} {D : Nat} (hA : SpA h x s D) (hS : Same Sp0 Sp3 h h') : SpA h' x s D :=
  ⟨fun i hi => by rw [hS.2.2.2.1 _ (fun e => e)]; exact hA.1 i hi, fun i hi => by rw [hS.2.2.2.1 _ (fun e => e)]; exact hA.2.1 i hi, fun i hi => by rw [hS.2.2.2.1 _ (fun e => e)]; exact hA.2.2.1 i hi, by rw [hS.2.2.1 _ _ (fun e => by unfold Sp3 at e; omega)]; exact hA.2.2.2⟩
def SpL (x : PQ) (D : Nat) : Prop := D ≤ 20 ∧ ∀ m, m ≤ 60 → x.1 m ≤ 99 ∧ x.2 m < 1000000
/-- what a choosing loop ends with -/
def chR (o : Option WAY) (h : PH) : Res → PH → Prop := match o with
  | some w => RQ (some (.int (nI 1))) (fun h9 => chF (some w) h9 ∧ Same Sp0 Sp3 h h9)
  | none => RT (some (.int (nI 0))) h
def chQ (o : Option WAY) (h : PH) : Res → PH → Prop := match o with
  | some w => RQ none (fun h9 => chF (some w) h9 ∧ Same Sp0 Sp3 h h9)
  | none => RT none h
set_option maxHeartbeats 4000000 in
set_option maxRecDepth 100000 in
theorem c_Sp_take_t {l : Launch} {Z : EE} (hst : l.stackTraces = false) {h : PH} (hK : SpK h) {x : PQ} {s : Nat → Bool} {D : Nat} (hA : SpA h x s D) (hB : SpL x D) (n w a b : Nat) (hn : n ≤ 60) (ha : a ≤ 60) (hb : b ≤ 60) (hT : tkB x D n a b = true) : CC l Z m_X7_take 0 0 0 [.ref 30, .int (nI n), .int (nI w), .int (nI a), .int (nI b)] h (RQ (some (.int (nI 1))) (fun h9 => chF (some (w, a, b)) h9 ∧ Same Sp0 Sp3 h h9)) := by
  refine ee_entry hst (by decide +kernel) rfl rfl (by simp [Value.category]) (Nat.le_of_ble_eq_true rfl) ?_
  refine ww_lv (lv2 := [.ref 30, .int (nI n), .int (nI w), .int (nI a), .int (nI b)]) rfl ?_
  have b1 := hB.2 n hn
  have b2 := hB.2 a ha
  have b3 := hB.2 b hb
  have b4 := hB.1
  simp only [tkB, Bool.and_eq_true, beq_iff_eq, Bool.and_eq_false_iff, beq_eq_false_iff_ne] at hT
  refine ww_aload_n dX7_take_0 rfl rfl ?_
  refine ww_get 1 dX7_take_1 hK.1 rfl (by decide) inX7 wg_170 hK.2.2.2.1 ?_
  refine ww_iload_n dX7_take_4 rfl rfl ?_
  refine ww_ialdF dX7_take_5 hK.2.1.2.1 rfl (by omega) (by omega) ?_
  refine ww_sk (st2 := [.int (nI (x.1 a))]) (by rw [hA.1 a (by omega)]) ?_
  refine ww_aload_n dX7_take_6 rfl rfl ?_
  refine ww_get 1 dX7_take_7 hK.1 rfl (by decide) inX7 wg_170 hK.2.2.2.1 ?_
  refine ww_iload dX7_take_10 rfl ?_
  refine ww_ialdF dX7_take_12 hK.2.1.2.1 rfl (by omega) (by omega) ?_
  refine ww_sk (st2 := [.int (nI (x.1 b)), .int (nI (x.1 a))]) (by rw [hA.1 b (by omega)]) ?_
  refine ww_iaddN dX7_take_13 ?_
  refine ww_aload_n dX7_take_14 rfl rfl ?_
  refine ww_get 5 dX7_take_15 hK.1 rfl (by decide) inX7 wg_176 hA.2.2.2 ?_
  refine ww_iaddN dX7_take_18 ?_
  refine ww_aload_n dX7_take_19 rfl rfl ?_
  refine ww_get 1 dX7_take_20 hK.1 rfl (by decide) inX7 wg_170 hK.2.2.2.1 ?_
  refine ww_iload_n dX7_take_23 rfl rfl ?_
  refine ww_ialdF dX7_take_24 hK.2.1.2.1 rfl (by omega) (by omega) ?_
  refine ww_sk (st2 := [.int (nI (x.1 n)), .int (nI (((x.1 a) + (x.1 b)) + D))]) (by rw [hA.1 n (by omega)]) ?_
  refine ww_icmp_neN (tgt := 51) dX7_take_25 (by decide) (by omega) (by omega) (fun c25 => ?_) (fun c25 => ?_)
  · exfalso; omega
  · refine ww_aload_n dX7_take_28 rfl rfl ?_
    refine ww_get 2 dX7_take_29 hK.1 rfl (by decide) inX7 wg_172 hK.2.2.2.2.1 ?_
    refine ww_iload_n dX7_take_32 rfl rfl ?_
    refine ww_ialdF dX7_take_33 hK.2.1.2.2.1 rfl (by omega) (by omega) ?_
    refine ww_sk (st2 := [.int (nI (x.2 a))]) (by rw [hA.2.1 a (by omega)]) ?_
    refine ww_aload_n dX7_take_34 rfl rfl ?_
    refine ww_get 2 dX7_take_35 hK.1 rfl (by decide) inX7 wg_172 hK.2.2.2.2.1 ?_
    refine ww_iload dX7_take_38 rfl ?_
    refine ww_ialdF dX7_take_40 hK.2.1.2.2.1 rfl (by omega) (by omega) ?_
    refine ww_sk (st2 := [.int (nI (x.2 b)), .int (nI (x.2 a))]) (by rw [hA.2.1 b (by omega)]) ?_
    refine ww_iaddN dX7_take_41 ?_
    refine ww_aload_n dX7_take_42 rfl rfl ?_
    refine ww_get 2 dX7_take_43 hK.1 rfl (by decide) inX7 wg_172 hK.2.2.2.2.1 ?_
    refine ww_iload_n dX7_take_46 rfl rfl ?_
    refine ww_ialdF dX7_take_47 hK.2.1.2.2.1 rfl (by omega) (by omega) ?_
    refine ww_sk (st2 := [.int (nI (x.2 n)), .int (nI ((x.2 a) + (x.2 b)))]) (by rw [hA.2.1 n (by omega)]) ?_
    refine ww_icmp_eqN (tgt := 53) dX7_take_48 (by decide) (by omega) (by omega) (fun c48 => ?_) (fun c48 => ?_)
    · refine ww_aload_n dX7_take_53 rfl rfl ?_
      refine ww_iload_n dX7_take_54 rfl rfl ?_
      refine ww_pfI tyX7 6 dX7_take_55 hK.1 rfl (by decide) inX7 tyX7_ok nmX7 wg_177 rfl rfl ?_
      refine ww_aload_n dX7_take_58 rfl rfl ?_
      refine ww_iload_n dX7_take_59 rfl rfl ?_
      refine ww_pfI tyX7 7 dX7_take_60 hK.1 rfl (by decide) inX7 tyX7_ok nmX7 wg_179 rfl rfl ?_
      refine ww_aload_n dX7_take_63 rfl rfl ?_
      refine ww_iload dX7_take_64 rfl ?_
      refine ww_pfI tyX7 8 dX7_take_66 hK.1 rfl (by decide) inX7 tyX7_ok nmX7 wg_181 rfl rfl ?_
      refine ww_iconst (v := nI 1) dX7_take_69 (by decide) ?_
      exact ww_zret dX7_take_70 rfl (by first | rfl | exact nar_bI _) ⟨rfl, ⟨hp_F_nj (by decide) (hp_F_nj (by decide) (hp_F_eq _ _ _ _)), hp_F_nj (by decide) (hp_F_eq _ _ _ _), hp_F_eq _ _ _ _⟩, Same.sF (Same.sF (Same.sF Same.rf ⟨rfl, Or.inl rfl⟩) ⟨rfl, Or.inr (Or.inl rfl)⟩) ⟨rfl, Or.inr (Or.inr rfl)⟩⟩
    · exfalso; omega
set_option maxHeartbeats 4000000 in
set_option maxRecDepth 100000 in
theorem c_Sp_take_f {l : Launch} {Z : EE} (hst : l.stackTraces = false) {h : PH} (hK : SpK h) {x : PQ} {s : Nat → Bool} {D : Nat} (hA : SpA h x s D) (hB : SpL x D) (n w a b : Nat) (hn : n ≤ 60) (ha : a ≤ 60) (hb : b ≤ 60) (hT : tkB x D n a b = false) : CC l Z m_X7_take 0 0 0 [.ref 30, .int (nI n), .int (nI w), .int (nI a), .int (nI b)] h (RT (some (.int (nI 0))) h) := by
  refine ee_entry hst (by decide +kernel) rfl rfl (by simp [Value.category]) (Nat.le_of_ble_eq_true rfl) ?_
  refine ww_lv (lv2 := [.ref 30, .int (nI n), .int (nI w), .int (nI a), .int (nI b)]) rfl ?_
  have b1 := hB.2 n hn
  have b2 := hB.2 a ha
  have b3 := hB.2 b hb
  have b4 := hB.1
  simp only [tkB, Bool.and_eq_true, beq_iff_eq, Bool.and_eq_false_iff, beq_eq_false_iff_ne] at hT
  refine ww_aload_n dX7_take_0 rfl rfl ?_
  refine ww_get 1 dX7_take_1 hK.1 rfl (by decide) inX7 wg_170 hK.2.2.2.1 ?_
  refine ww_iload_n dX7_take_4 rfl rfl ?_
  refine ww_ialdF dX7_take_5 hK.2.1.2.1 rfl (by omega) (by omega) ?_
  refine ww_sk (st2 := [.int (nI (x.1 a))]) (by rw [hA.1 a (by omega)]) ?_
  refine ww_aload_n dX7_take_6 rfl rfl ?_
  refine ww_get 1 dX7_take_7 hK.1 rfl (by decide) inX7 wg_170 hK.2.2.2.1 ?_
  refine ww_iload dX7_take_10 rfl ?_
  refine ww_ialdF dX7_take_12 hK.2.1.2.1 rfl (by omega) (by omega) ?_
  refine ww_sk (st2 := [.int (nI (x.1 b)), .int (nI (x.1 a))]) (by rw [hA.1 b (by omega)]) ?_
  refine ww_iaddN dX7_take_13 ?_
  refine ww_aload_n dX7_take_14 rfl rfl ?_
  refine ww_get 5 dX7_take_15 hK.1 rfl (by decide) inX7 wg_176 hA.2.2.2 ?_
  refine ww_iaddN dX7_take_18 ?_
  refine ww_aload_n dX7_take_19 rfl rfl ?_
  refine ww_get 1 dX7_take_20 hK.1 rfl (by decide) inX7 wg_170 hK.2.2.2.1 ?_
  refine ww_iload_n dX7_take_23 rfl rfl ?_
  refine ww_ialdF dX7_take_24 hK.2.1.2.1 rfl (by omega) (by omega) ?_
  refine ww_sk (st2 := [.int (nI (x.1 n)), .int (nI (((x.1 a) + (x.1 b)) + D))]) (by rw [hA.1 n (by omega)]) ?_
  refine ww_icmp_neN (tgt := 51) dX7_take_25 (by decide) (by omega) (by omega) (fun c25 => ?_) (fun c25 => ?_)
  · refine ww_iconst (v := nI 0) dX7_take_51 (by decide) ?_
    exact ww_zret dX7_take_52 rfl (by first | rfl | exact nar_bI _) ⟨rfl, rfl⟩
  · refine ww_aload_n dX7_take_28 rfl rfl ?_
    refine ww_get 2 dX7_take_29 hK.1 rfl (by decide) inX7 wg_172 hK.2.2.2.2.1 ?_
    refine ww_iload_n dX7_take_32 rfl rfl ?_
    refine ww_ialdF dX7_take_33 hK.2.1.2.2.1 rfl (by omega) (by omega) ?_
    refine ww_sk (st2 := [.int (nI (x.2 a))]) (by rw [hA.2.1 a (by omega)]) ?_
    refine ww_aload_n dX7_take_34 rfl rfl ?_
    refine ww_get 2 dX7_take_35 hK.1 rfl (by decide) inX7 wg_172 hK.2.2.2.2.1 ?_
    refine ww_iload dX7_take_38 rfl ?_
    refine ww_ialdF dX7_take_40 hK.2.1.2.2.1 rfl (by omega) (by omega) ?_
    refine ww_sk (st2 := [.int (nI (x.2 b)), .int (nI (x.2 a))]) (by rw [hA.2.1 b (by omega)]) ?_
    refine ww_iaddN dX7_take_41 ?_
    refine ww_aload_n dX7_take_42 rfl rfl ?_
    refine ww_get 2 dX7_take_43 hK.1 rfl (by decide) inX7 wg_172 hK.2.2.2.2.1 ?_
    refine ww_iload_n dX7_take_46 rfl rfl ?_
    refine ww_ialdF dX7_take_47 hK.2.1.2.2.1 rfl (by omega) (by omega) ?_
    refine ww_sk (st2 := [.int (nI (x.2 n)), .int (nI ((x.2 a) + (x.2 b)))]) (by rw [hA.2.1 n (by omega)]) ?_
    refine ww_icmp_eqN (tgt := 53) dX7_take_48 (by decide) (by omega) (by omega) (fun c48 => ?_) (fun c48 => ?_)
    · exfalso; omega
    · refine ww_iconst (v := nI 0) dX7_take_51 (by decide) ?_
      exact ww_zret dX7_take_52 rfl (by first | rfl | exact nar_bI _) ⟨rfl, rfl⟩
set_option maxHeartbeats 4000000 in
set_option maxRecDepth 100000 in
theorem l_Sp_sum {l : Launch} {Z : EE} (hst : l.stackTraces = false) {h : PH} (hK : SpK h) {x : PQ} {s : Nat → Bool} {D : Nat} (hA : SpA h x s D) (hB : SpL x D) (n : Nat) (hn : n ≤ 60) : ∀ (j a : Nat), a + j = 61 → 2 * a ≤ n + 2 → WW l Z m_X7_chooseSum 1 0 0 2 [.ref 30, .int (nI n), .int (nI a)] [] h (chR ((fstN (suP x D n) a j).map (fun a => (1, a, n - a))) h) := by
  intro j
  induction j with
  | zero => intro a h1 h2; exfalso; omega
  | succ j ih =>
    intro a hj ha
    by_cases c : 2 * a ≤ n
    · rcases hT : tkB x D n a (n - a) with _ | _
      · have hP : suP x D n a = false := by simp [suP, hT]
        rw [fstN_f j hP]
        refine ww_iload_n dX7_chooseSum_2 rfl rfl ?_
        refine ww_iload_n dX7_chooseSum_3 rfl rfl ?_
        refine ww_iload_n dX7_chooseSum_4 rfl rfl ?_
        refine ww_isubN dX7_chooseSum_5 (by omega) ?_
        refine ww_icmp_gtN (tgt := 30) dX7_chooseSum_6 (by decide) (by omega) (by omega) (fun c6 => ?_) (fun c6 => ?_)
        · exfalso; omega
        · refine ww_aload_n dX7_chooseSum_9 rfl rfl ?_
          refine ww_iload_n dX7_chooseSum_10 rfl rfl ?_
          refine ww_iconst (v := nI 1) dX7_chooseSum_11 (by decide) ?_
          refine ww_iload_n dX7_chooseSum_12 rfl rfl ?_
          refine ww_iload_n dX7_chooseSum_13 rfl rfl ?_
          refine ww_iload_n dX7_chooseSum_14 rfl rfl ?_
          refine ww_isubN dX7_chooseSum_15 (by omega) ?_
          refine ww_cVr (M := m_X7_chooseSum) (pc := 16) (v := .int (nI 0)) (h1 := h) (st := []) (d := 1) (bc := 0) (bs := 0) (c_Sp_take_f hst hK hA hB n 1 a (n - a) hn (by omega) (by omega) hT) vv_X7_take dX7_chooseSum_16 wg_930 hK.1 rfl rfl rfl rfl (Nat.le_of_ble_eq_true rfl) (Nat.le_of_ble_eq_true rfl) (Nat.le_of_ble_eq_true rfl) (Nat.le_of_ble_eq_true rfl) ?_
          refine ww_if_eqN (tgt := 24) dX7_chooseSum_19 (by decide) (by omega) (fun c19 => ?_) (fun c19 => ?_)
          · refine ww_incN (c := 1) (lv2 := [.ref 30, .int (nI n), .int (nI (a + 1))]) dX7_chooseSum_24 rfl rfl rfl (by decide) rfl ?_
            refine ww_goto (tgt := 2) dX7_chooseSum_27 (by decide) ?_
            exact ih (a + 1) (by omega) (by omega)
          · exfalso; omega
      · have hP : suP x D n a = true := by simp [suP, hT, c]
        rw [fstN_t j hP]
        refine ww_iload_n dX7_chooseSum_2 rfl rfl ?_
        refine ww_iload_n dX7_chooseSum_3 rfl rfl ?_
        refine ww_iload_n dX7_chooseSum_4 rfl rfl ?_
        refine ww_isubN dX7_chooseSum_5 (by omega) ?_
        refine ww_icmp_gtN (tgt := 30) dX7_chooseSum_6 (by decide) (by omega) (by omega) (fun c6 => ?_) (fun c6 => ?_)
        · exfalso; omega
        · refine ww_aload_n dX7_chooseSum_9 rfl rfl ?_
          refine ww_iload_n dX7_chooseSum_10 rfl rfl ?_
          refine ww_iconst (v := nI 1) dX7_chooseSum_11 (by decide) ?_
          refine ww_iload_n dX7_chooseSum_12 rfl rfl ?_
          refine ww_iload_n dX7_chooseSum_13 rfl rfl ?_
          refine ww_iload_n dX7_chooseSum_14 rfl rfl ?_
          refine ww_isubN dX7_chooseSum_15 (by omega) ?_
          refine ww_cVq (M := m_X7_chooseSum) (pc := 16) (v := .int (nI 1)) (st := []) (d := 1) (bc := 0) (bs := 0) (c_Sp_take_t hst hK hA hB n 1 a (n - a) hn (by omega) (by omega) hT) vv_X7_take dX7_chooseSum_16 wg_930 hK.1 rfl rfl rfl rfl (Nat.le_of_ble_eq_true rfl) (Nat.le_of_ble_eq_true rfl) (Nat.le_of_ble_eq_true rfl) (Nat.le_of_ble_eq_true rfl) (fun hr qr => ?_)
          refine ww_if_eqN (tgt := 24) dX7_chooseSum_19 (by decide) (by omega) (fun c19 => ?_) (fun c19 => ?_)
          · exfalso; omega
          · refine ww_iconst (v := nI 1) dX7_chooseSum_22 (by decide) ?_
            exact ww_zret dX7_chooseSum_23 rfl (by first | rfl | exact nar_bI _) ⟨rfl, qr⟩
    · rw [fstN_no (j + 1) a (fun k hk => by simp only [suP, Bool.and_eq_false_iff, decide_eq_false_iff_not]; exact Or.inl (by omega))]
      by_cases c2 : a ≤ n
      · refine ww_iload_n dX7_chooseSum_2 rfl rfl ?_
        refine ww_iload_n dX7_chooseSum_3 rfl rfl ?_
        refine ww_iload_n dX7_chooseSum_4 rfl rfl ?_
        refine ww_isubN dX7_chooseSum_5 (by omega) ?_
        refine ww_icmp_gtN (tgt := 30) dX7_chooseSum_6 (by decide) (by omega) (by omega) (fun c6 => ?_) (fun c6 => ?_)
        · refine ww_iconst (v := nI 0) dX7_chooseSum_30 (by decide) ?_
          exact ww_zret dX7_chooseSum_31 rfl (by first | rfl | exact nar_bI _) ⟨rfl, rfl⟩
        · exfalso; omega
      · have hn0 : n = 0 := by omega
        have ha1 : a = 1 := by omega
        subst hn0; subst ha1
        refine ww_iload_n dX7_chooseSum_2 rfl rfl ?_
        refine ww_iload_n dX7_chooseSum_3 rfl rfl ?_
        refine ww_iload_n dX7_chooseSum_4 rfl rfl ?_
        refine ww_isub dX7_chooseSum_5 ?_
        refine ww_icmp_gt (tgt := 30) dX7_chooseSum_6 (by decide) (fun c6 => ?_) (fun c6 => ?_)
        · refine ww_iconst (v := nI 0) dX7_chooseSum_30 (by decide) ?_
          exact ww_zret dX7_chooseSum_31 rfl (by first | rfl | exact nar_bI _) ⟨rfl, rfl⟩
        · exact absurd (by decide) c6
set_option maxHeartbeats 4000000 in
set_option maxRecDepth 100000 in
theorem c_Sp_sum {l : Launch} {Z : EE} (hst : l.stackTraces = false) {h : PH} (hK : SpK h) {x : PQ} {s : Nat → Bool} {D : Nat} (hA : SpA h x s D) (hB : SpL x D) (n : Nat) (hn : n ≤ 60) : CC l Z m_X7_chooseSum 1 0 0 [.ref 30, .int (nI n)] h (chR ((fstN (suP x D n) 0 61).map (fun a => (1, a, n - a))) h) := by
  refine ee_entry hst (by decide +kernel) rfl rfl (by simp [Value.category]) (Nat.le_of_ble_eq_true rfl) ?_
  refine ww_lv (lv2 := [.ref 30, .int (nI n), UU]) rfl ?_
  refine ww_iconst (v := nI 0) dX7_chooseSum_0 (by decide) ?_
  refine ww_sti_n (lv2 := [.ref 30, .int (nI n), .int (nI 0)]) dX7_chooseSum_1 rfl rfl (by decide) rfl ?_
  exact l_Sp_sum hst hK hA hB n hn 61 0 rfl (by omega)
set_option maxHeartbeats 4000000 in
set_option maxRecDepth 100000 in
theorem l_Sp_diff {l : Launch} {Z : EE} (hst : l.stackTraces = false) {h : PH} (hK : SpK h) {x : PQ} {s : Nat → Bool} {D : Nat} (hA : SpA h x s D) (hB : SpL x D) (n : Nat) (hn : n ≤ 60) : ∀ (j a : Nat), a + j = 61 → n ≤ a → WW l Z m_X7_chooseDifference 1 0 0 2 [.ref 30, .int (nI n), .int (nI a)] [] h (chR ((fstN (dfP x D n) a j).map (fun a => (2, a, a - n))) h) := by
  intro j
  induction j with
  | zero =>
    intro a hj ha
    refine ww_iload_n dX7_chooseDifference_2 rfl rfl ?_
    refine ww_bipush (v := nI 60) dX7_chooseDifference_3 (by decide) ?_
    refine ww_icmp_gtN (tgt := 29) dX7_chooseDifference_5 (by decide) (by omega) (by omega) (fun c5 => ?_) (fun c5 => ?_)
    · refine ww_iconst (v := nI 0) dX7_chooseDifference_29 (by decide) ?_
      exact ww_zret dX7_chooseDifference_30 rfl (by first | rfl | exact nar_bI _) ⟨rfl, rfl⟩
    · exfalso; omega
  | succ j ih =>
    intro a hj ha
    rcases hT : tkB x D n a (a - n) with _ | _
    · rw [fstN_f j (show dfP x D n a = false from hT)]
      refine ww_iload_n dX7_chooseDifference_2 rfl rfl ?_
      refine ww_bipush (v := nI 60) dX7_chooseDifference_3 (by decide) ?_
      refine ww_icmp_gtN (tgt := 29) dX7_chooseDifference_5 (by decide) (by omega) (by omega) (fun c5 => ?_) (fun c5 => ?_)
      · exfalso; omega
      · refine ww_aload_n dX7_chooseDifference_8 rfl rfl ?_
        refine ww_iload_n dX7_chooseDifference_9 rfl rfl ?_
        refine ww_iconst (v := nI 2) dX7_chooseDifference_10 (by decide) ?_
        refine ww_iload_n dX7_chooseDifference_11 rfl rfl ?_
        refine ww_iload_n dX7_chooseDifference_12 rfl rfl ?_
        refine ww_iload_n dX7_chooseDifference_13 rfl rfl ?_
        refine ww_isubN dX7_chooseDifference_14 (by omega) ?_
        refine ww_cVr (M := m_X7_chooseDifference) (pc := 15) (v := .int (nI 0)) (h1 := h) (st := []) (d := 1) (bc := 0) (bs := 0) (c_Sp_take_f hst hK hA hB n 2 a (a - n) hn (by omega) (by omega) hT) vv_X7_take dX7_chooseDifference_15 wg_930 hK.1 rfl rfl rfl rfl (Nat.le_of_ble_eq_true rfl) (Nat.le_of_ble_eq_true rfl) (Nat.le_of_ble_eq_true rfl) (Nat.le_of_ble_eq_true rfl) ?_
        refine ww_if_eqN (tgt := 23) dX7_chooseDifference_18 (by decide) (by omega) (fun c18 => ?_) (fun c18 => ?_)
        · refine ww_incN (c := 1) (lv2 := [.ref 30, .int (nI n), .int (nI (a + 1))]) dX7_chooseDifference_23 rfl rfl rfl (by decide) rfl ?_
          refine ww_goto (tgt := 2) dX7_chooseDifference_26 (by decide) ?_
          exact ih (a + 1) (by omega) (by omega)
        · exfalso; omega
    · rw [fstN_t j (show dfP x D n a = true from hT)]
      refine ww_iload_n dX7_chooseDifference_2 rfl rfl ?_
      refine ww_bipush (v := nI 60) dX7_chooseDifference_3 (by decide) ?_
      refine ww_icmp_gtN (tgt := 29) dX7_chooseDifference_5 (by decide) (by omega) (by omega) (fun c5 => ?_) (fun c5 => ?_)
      · exfalso; omega
      · refine ww_aload_n dX7_chooseDifference_8 rfl rfl ?_
        refine ww_iload_n dX7_chooseDifference_9 rfl rfl ?_
        refine ww_iconst (v := nI 2) dX7_chooseDifference_10 (by decide) ?_
        refine ww_iload_n dX7_chooseDifference_11 rfl rfl ?_
        refine ww_iload_n dX7_chooseDifference_12 rfl rfl ?_
        refine ww_iload_n dX7_chooseDifference_13 rfl rfl ?_
        refine ww_isubN dX7_chooseDifference_14 (by omega) ?_
        refine ww_cVq (M := m_X7_chooseDifference) (pc := 15) (v := .int (nI 1)) (st := []) (d := 1) (bc := 0) (bs := 0) (c_Sp_take_t hst hK hA hB n 2 a (a - n) hn (by omega) (by omega) hT) vv_X7_take dX7_chooseDifference_15 wg_930 hK.1 rfl rfl rfl rfl (Nat.le_of_ble_eq_true rfl) (Nat.le_of_ble_eq_true rfl) (Nat.le_of_ble_eq_true rfl) (Nat.le_of_ble_eq_true rfl) (fun hr qr => ?_)
        refine ww_if_eqN (tgt := 23) dX7_chooseDifference_18 (by decide) (by omega) (fun c18 => ?_) (fun c18 => ?_)
        · exfalso; omega
        · refine ww_iconst (v := nI 1) dX7_chooseDifference_21 (by decide) ?_
          exact ww_zret dX7_chooseDifference_22 rfl (by first | rfl | exact nar_bI _) ⟨rfl, qr⟩
set_option maxHeartbeats 4000000 in
set_option maxRecDepth 100000 in
theorem c_Sp_diff {l : Launch} {Z : EE} (hst : l.stackTraces = false) {h : PH} (hK : SpK h) {x : PQ} {s : Nat → Bool} {D : Nat} (hA : SpA h x s D) (hB : SpL x D) (n : Nat) (hn : n ≤ 60) : CC l Z m_X7_chooseDifference 1 0 0 [.ref 30, .int (nI n)] h (chR ((fstN (dfP x D n) n (61 - n)).map (fun a => (2, a, a - n))) h) := by
  refine ee_entry hst (by decide +kernel) rfl rfl (by simp [Value.category]) (Nat.le_of_ble_eq_true rfl) ?_
  refine ww_lv (lv2 := [.ref 30, .int (nI n), UU]) rfl ?_
  refine ww_iload_n dX7_chooseDifference_0 rfl rfl ?_
  refine ww_sti_n (lv2 := [.ref 30, .int (nI n), .int (nI n)]) dX7_chooseDifference_1 rfl rfl (by decide) rfl ?_
  exact l_Sp_diff hst hK hA hB n hn (61 - n) n (by omega) (Nat.le_refl _)
set_option maxHeartbeats 4000000 in
set_option maxRecDepth 100000 in
theorem l_Sp_prodI {l : Launch} {Z : EE} (hst : l.stackTraces = false) {h : PH} (hK : SpK h) {x : PQ} {s : Nat → Bool} {D : Nat} (hA : SpA h x s D) (hB : SpL x D) (n : Nat) (hn : n ≤ 60) (a : Nat) (ha : a ≤ 60) {Post : Res → PH → Prop} : ∀ (j b : Nat), b + j = 61 → (fstN (prP x D n a) b j = none → WW l Z m_X7_chooseProduct 1 0 0 41 [.ref 30, .int (nI n), .int (nI a), .int (nI 61)] [] h Post) → (∀ b9 h9, fstN (prP x D n a) b j = some b9 → chF (some (3, a, b9)) h9 → Same Sp0 Sp3 h h9 → Post (.inl none) h9) → WW l Z m_X7_chooseProduct 1 0 0 10 [.ref 30, .int (nI n), .int (nI a), .int (nI b)] [] h Post := by
  intro j
  induction j with
  | zero =>
    intro b hj hno hyes
    refine ww_iload_n dX7_chooseProduct_10 rfl rfl ?_
    refine ww_bipush (v := nI 60) dX7_chooseProduct_11 (by decide) ?_
    refine ww_icmp_gtN (tgt := 41) dX7_chooseProduct_13 (by decide) (by omega) (by omega) (fun c13 => ?_) (fun c13 => ?_)
    · have hb9 : b = 61 := by omega
      subst hb9
      exact hno rfl
    · exfalso; omega
  | succ j ih =>
    intro b hj hno hyes
    have hm : a * b ≤ 60 * 60 := Nat.mul_le_mul ha (by omega)
    rcases hP : prP x D n a b with _ | _
    · rw [fstN_f j hP] at hno hyes
      by_cases c : a * b = n
      · have hT : tkB x D n a b = false := by simpa [prP, c] using hP
        refine ww_iload_n dX7_chooseProduct_10 rfl rfl ?_
        refine ww_bipush (v := nI 60) dX7_chooseProduct_11 (by decide) ?_
        refine ww_icmp_gtN (tgt := 41) dX7_chooseProduct_13 (by decide) (by omega) (by omega) (fun c13 => ?_) (fun c13 => ?_)
        · exfalso; omega
        · refine ww_iload_n dX7_chooseProduct_16 rfl rfl ?_
          refine ww_iload_n dX7_chooseProduct_17 rfl rfl ?_
          refine ww_imulN dX7_chooseProduct_18 ?_
          refine ww_iload_n dX7_chooseProduct_19 rfl rfl ?_
          refine ww_icmp_neN (tgt := 35) dX7_chooseProduct_20 (by decide) (by omega) (by omega) (fun c20 => ?_) (fun c20 => ?_)
          · exfalso; omega
          · refine ww_aload_n dX7_chooseProduct_23 rfl rfl ?_
            refine ww_iload_n dX7_chooseProduct_24 rfl rfl ?_
            refine ww_iconst (v := nI 3) dX7_chooseProduct_25 (by decide) ?_
            refine ww_iload_n dX7_chooseProduct_26 rfl rfl ?_
            refine ww_iload_n dX7_chooseProduct_27 rfl rfl ?_
            refine ww_cVr (M := m_X7_chooseProduct) (pc := 28) (v := .int (nI 0)) (h1 := h) (st := []) (d := 1) (bc := 0) (bs := 0) (c_Sp_take_f hst hK hA hB n 3 a b hn (by omega) (by omega) hT) vv_X7_take dX7_chooseProduct_28 wg_930 hK.1 rfl rfl rfl rfl (Nat.le_of_ble_eq_true rfl) (Nat.le_of_ble_eq_true rfl) (Nat.le_of_ble_eq_true rfl) (Nat.le_of_ble_eq_true rfl) ?_
            refine ww_if_eqN (tgt := 35) dX7_chooseProduct_31 (by decide) (by omega) (fun c31 => ?_) (fun c31 => ?_)
            · refine ww_incN (c := 1) (lv2 := [.ref 30, .int (nI n), .int (nI a), .int (nI (b + 1))]) dX7_chooseProduct_35 rfl rfl rfl (by decide) rfl ?_
              refine ww_goto (tgt := 10) dX7_chooseProduct_38 (by decide) ?_
              exact ih (b + 1) (by omega) hno hyes
            · exfalso; omega
      · refine ww_iload_n dX7_chooseProduct_10 rfl rfl ?_
        refine ww_bipush (v := nI 60) dX7_chooseProduct_11 (by decide) ?_
        refine ww_icmp_gtN (tgt := 41) dX7_chooseProduct_13 (by decide) (by omega) (by omega) (fun c13 => ?_) (fun c13 => ?_)
        · exfalso; omega
        · refine ww_iload_n dX7_chooseProduct_16 rfl rfl ?_
          refine ww_iload_n dX7_chooseProduct_17 rfl rfl ?_
          refine ww_imulN dX7_chooseProduct_18 ?_
          refine ww_iload_n dX7_chooseProduct_19 rfl rfl ?_
          refine ww_icmp_neN (tgt := 35) dX7_chooseProduct_20 (by decide) (by omega) (by omega) (fun c20 => ?_) (fun c20 => ?_)
          · refine ww_incN (c := 1) (lv2 := [.ref 30, .int (nI n), .int (nI a), .int (nI (b + 1))]) dX7_chooseProduct_35 rfl rfl rfl (by decide) rfl ?_
            refine ww_goto (tgt := 10) dX7_chooseProduct_38 (by decide) ?_
            exact ih (b + 1) (by omega) hno hyes
          · exfalso; omega
    · rw [fstN_t j hP] at hyes
      have hPP : a * b = n ∧ tkB x D n a b = true := by simpa [prP] using hP
      have c := hPP.1
      have hT := hPP.2
      refine ww_iload_n dX7_chooseProduct_10 rfl rfl ?_
      refine ww_bipush (v := nI 60) dX7_chooseProduct_11 (by decide) ?_
      refine ww_icmp_gtN (tgt := 41) dX7_chooseProduct_13 (by decide) (by omega) (by omega) (fun c13 => ?_) (fun c13 => ?_)
      · exfalso; omega
      · refine ww_iload_n dX7_chooseProduct_16 rfl rfl ?_
        refine ww_iload_n dX7_chooseProduct_17 rfl rfl ?_
        refine ww_imulN dX7_chooseProduct_18 ?_
        refine ww_iload_n dX7_chooseProduct_19 rfl rfl ?_
        refine ww_icmp_neN (tgt := 35) dX7_chooseProduct_20 (by decide) (by omega) (by omega) (fun c20 => ?_) (fun c20 => ?_)
        · exfalso; omega
        · refine ww_aload_n dX7_chooseProduct_23 rfl rfl ?_
          refine ww_iload_n dX7_chooseProduct_24 rfl rfl ?_
          refine ww_iconst (v := nI 3) dX7_chooseProduct_25 (by decide) ?_
          refine ww_iload_n dX7_chooseProduct_26 rfl rfl ?_
          refine ww_iload_n dX7_chooseProduct_27 rfl rfl ?_
          refine ww_cVq (M := m_X7_chooseProduct) (pc := 28) (v := .int (nI 1)) (st := []) (d := 1) (bc := 0) (bs := 0) (c_Sp_take_t hst hK hA hB n 3 a b hn (by omega) (by omega) hT) vv_X7_take dX7_chooseProduct_28 wg_930 hK.1 rfl rfl rfl rfl (Nat.le_of_ble_eq_true rfl) (Nat.le_of_ble_eq_true rfl) (Nat.le_of_ble_eq_true rfl) (Nat.le_of_ble_eq_true rfl) (fun hr qr => ?_)
          refine ww_if_eqN (tgt := 35) dX7_chooseProduct_31 (by decide) (by omega) (fun c31 => ?_) (fun c31 => ?_)
          · exfalso; omega
          · exact ww_vret dX7_chooseProduct_34 rfl (hyes b hr rfl qr.1 qr.2)
set_option maxHeartbeats 4000000 in
set_option maxRecDepth 100000 in
theorem l_Sp_prod {l : Launch} {Z : EE} (hst : l.stackTraces = false) {h : PH} (hK : SpK h) {x : PQ} {s : Nat → Bool} {D : Nat} (hA : SpA h x s D) (hB : SpL x D) (n : Nat) (hn : n ≤ 60) : ∀ (j a : Nat), a + j = 61 → WW l Z m_X7_chooseProduct 1 0 0 2 [.ref 30, .int (nI n), .int (nI a), UU] [] h (chQ ((prd x D n a j).map (fun p => (3, p.1, p.2))) h) := by
  intro j
  induction j with
  | zero =>
    intro a hj
    refine ww_iload_n dX7_chooseProduct_2 rfl rfl ?_
    refine ww_bipush (v := nI 60) dX7_chooseProduct_3 (by decide) ?_
    refine ww_icmp_gtN (tgt := 47) dX7_chooseProduct_5 (by decide) (by omega) (by omega) (fun c5 => ?_) (fun c5 => ?_)
    · exact ww_vret dX7_chooseProduct_47 rfl ⟨rfl, rfl⟩
    · exfalso; omega
  | succ j ih =>
    intro a hj
    refine ww_iload_n dX7_chooseProduct_2 rfl rfl ?_
    refine ww_bipush (v := nI 60) dX7_chooseProduct_3 (by decide) ?_
    refine ww_icmp_gtN (tgt := 47) dX7_chooseProduct_5 (by decide) (by omega) (by omega) (fun c5 => ?_) (fun c5 => ?_)
    · exfalso; omega
    · refine ww_iload_n dX7_chooseProduct_8 rfl rfl ?_
      refine ww_sti_n (lv2 := [.ref 30, .int (nI n), .int (nI a), .int (nI a)]) dX7_chooseProduct_9 rfl rfl (by decide) rfl ?_
      refine l_Sp_prodI hst hK hA hB n hn a (by omega) (61 - a) a (by omega) (fun e => ?_) (fun b9 h9 e q1 q2 => ?_)
      · rw [prd_f j e]
        refine ww_incN (c := 1) (lv2 := [.ref 30, .int (nI n), .int (nI (a + 1)), .int (nI 61)]) dX7_chooseProduct_41 rfl rfl rfl (by decide) rfl ?_
        refine ww_goto (tgt := 2) dX7_chooseProduct_44 (by decide) ?_
        refine ww_fg (lv2 := [.ref 30, .int (nI n), .int (nI (a + 1)), UU]) ⟨Or.inr rfl, Or.inr rfl, Or.inr rfl, Or.inl rfl, trivial⟩ ?_
        exact ih (a + 1) (by omega)
      · rw [prd_t j e]
        exact ⟨rfl, q1, q2⟩
set_option maxHeartbeats 4000000 in
set_option maxRecDepth 100000 in
theorem c_Sp_prod {l : Launch} {Z : EE} (hst : l.stackTraces = false) {h : PH} (hK : SpK h) {x : PQ} {s : Nat → Bool} {D : Nat} (hA : SpA h x s D) (hB : SpL x D) (n : Nat) (hn : n ≤ 60) : CC l Z m_X7_chooseProduct 1 0 0 [.ref 30, .int (nI n)] h (chQ ((prd x D n 0 61).map (fun p => (3, p.1, p.2))) h) := by
  refine ee_entry hst (by decide +kernel) rfl rfl (by simp [Value.category]) (Nat.le_of_ble_eq_true rfl) ?_
  refine ww_lv (lv2 := [.ref 30, .int (nI n), UU, UU]) rfl ?_
  refine ww_iconst (v := nI 0) dX7_chooseProduct_0 (by decide) ?_
  refine ww_sti_n (lv2 := [.ref 30, .int (nI n), .int (nI 0), UU]) dX7_chooseProduct_1 rfl rfl (by decide) rfl ?_
  exact l_Sp_prod hst hK hA hB n hn 61 0 rfl
set_option maxHeartbeats 4000000 in
set_option maxRecDepth 100000 in
theorem l_Sp_choose {l : Launch} {Z : EE} (hst : l.stackTraces = false) {h : PH} (hK : SpK h) {x : PQ} {s : Nat → Bool} {D : Nat} (hA : SpA h x s D) (hB : SpL x D) {own : Nat → Nat} (ho : ∀ i, i ≤ 60 → hp_I h 31 i = nI (own i)) (hob : ∀ i, i ≤ 60 → own i ≤ 99) (n : Nat) (hn : n ≤ 60) (hF : chF none h) : WW l Z m_X7_choose 2 0 0 15 [.ref 30, .int (nI n)] [] h (RQ none (fun h9 => chF (sayS own x D n) h9 ∧ Same Sp0 Sp3 h h9)) := by
  have hx9 := (hB.2 n hn).1
  have ho9 := hob n hn
  by_cases c : x.1 n = own n
  · have e : sayS own x D n = none := by simp [sayS, c]
    rw [e]
    refine ww_aload_n dX7_choose_15 rfl rfl ?_
    refine ww_get 1 dX7_choose_16 hK.1 rfl (by decide) inX7 wg_170 hK.2.2.2.1 ?_
    refine ww_iload_n dX7_choose_19 rfl rfl ?_
    refine ww_ialdF dX7_choose_20 hK.2.1.2.1 rfl (by omega) (by omega) ?_
    refine ww_sk (st2 := [.int (nI (x.1 n))]) (by rw [hA.1 n (by omega)]) ?_
    refine ww_aload_n dX7_choose_21 rfl rfl ?_
    refine ww_get 0 dX7_choose_22 hK.1 rfl (by decide) inX7 wg_168 hK.2.2.1 ?_
    refine ww_iload_n dX7_choose_25 rfl rfl ?_
    refine ww_ialdF dX7_choose_26 hK.2.1.1 rfl (by omega) (by omega) ?_
    refine ww_sk (st2 := [.int (nI (own n)), .int (nI (x.1 n))]) (by rw [ho n hn]) ?_
    refine ww_icmp_eqN (tgt := 46) dX7_choose_27 (by decide) (by omega) (by omega) (fun c27 => ?_) (fun c27 => ?_)
    · exact ww_vret dX7_choose_46 rfl ⟨rfl, hF, Same.rf⟩
    · exfalso; omega
  · rcases h1 : fstN (suP x D n) 0 61 with _ | a
    · rcases h2 : fstN (dfP x D n) n (61 - n) with _ | a
      · rcases h3 : prd x D n 0 61 with _ | ⟨a, b⟩
        · have e : sayS own x D n = none := by simp [sayS, c, h1, h2, h3]
          rw [e]
          refine ww_aload_n dX7_choose_15 rfl rfl ?_
          refine ww_get 1 dX7_choose_16 hK.1 rfl (by decide) inX7 wg_170 hK.2.2.2.1 ?_
          refine ww_iload_n dX7_choose_19 rfl rfl ?_
          refine ww_ialdF dX7_choose_20 hK.2.1.2.1 rfl (by omega) (by omega) ?_
          refine ww_sk (st2 := [.int (nI (x.1 n))]) (by rw [hA.1 n (by omega)]) ?_
          refine ww_aload_n dX7_choose_21 rfl rfl ?_
          refine ww_get 0 dX7_choose_22 hK.1 rfl (by decide) inX7 wg_168 hK.2.2.1 ?_
          refine ww_iload_n dX7_choose_25 rfl rfl ?_
          refine ww_ialdF dX7_choose_26 hK.2.1.1 rfl (by omega) (by omega) ?_
          refine ww_sk (st2 := [.int (nI (own n)), .int (nI (x.1 n))]) (by rw [ho n hn]) ?_
          refine ww_icmp_eqN (tgt := 46) dX7_choose_27 (by decide) (by omega) (by omega) (fun c27 => ?_) (fun c27 => ?_)
          · exfalso; omega
          · refine ww_aload_n dX7_choose_30 rfl rfl ?_
            refine ww_iload_n dX7_choose_31 rfl rfl ?_
            have ks : CC l Z m_X7_chooseSum 1 0 0 [.ref 30, .int (nI n)] h (RT (some (.int (nI 0))) h) := by
              have k9 := c_Sp_sum (l := l) (Z := Z) hst hK hA hB n hn
              rw [h1] at k9
              exact k9
            refine ww_cVr (M := m_X7_choose) (pc := 32) (v := .int (nI 0)) (h1 := h) (st := []) (d := 2) (bc := 0) (bs := 0) ks vv_X7_chooseSum dX7_choose_32 wg_926 hK.1 rfl rfl rfl rfl (Nat.le_of_ble_eq_true rfl) (Nat.le_of_ble_eq_true rfl) (Nat.le_of_ble_eq_true rfl) (Nat.le_of_ble_eq_true rfl) ?_
            refine ww_if_neN (tgt := 46) dX7_choose_35 (by decide) (by omega) (fun c35 => ?_) (fun c35 => ?_)
            · exfalso; omega
            · refine ww_aload_n dX7_choose_38 rfl rfl ?_
              refine ww_iload_n dX7_choose_39 rfl rfl ?_
              have kd : CC l Z m_X7_chooseDifference 1 0 0 [.ref 30, .int (nI n)] h (RT (some (.int (nI 0))) h) := by
                have k9 := c_Sp_diff (l := l) (Z := Z) hst hK hA hB n hn
                rw [h2] at k9
                exact k9
              refine ww_cVr (M := m_X7_choose) (pc := 40) (v := .int (nI 0)) (h1 := h) (st := []) (d := 2) (bc := 0) (bs := 0) kd vv_X7_chooseDifference dX7_choose_40 wg_934 hK.1 rfl rfl rfl rfl (Nat.le_of_ble_eq_true rfl) (Nat.le_of_ble_eq_true rfl) (Nat.le_of_ble_eq_true rfl) (Nat.le_of_ble_eq_true rfl) ?_
              refine ww_if_eqN (tgt := 47) dX7_choose_43 (by decide) (by omega) (fun c43 => ?_) (fun c43 => ?_)
              · refine ww_aload_n dX7_choose_47 rfl rfl ?_
                refine ww_iload_n dX7_choose_48 rfl rfl ?_
                have kp : CC l Z m_X7_chooseProduct 1 0 0 [.ref 30, .int (nI n)] h (RT (none) h) := by
                  have k9 := c_Sp_prod (l := l) (Z := Z) hst hK hA hB n hn
                  rw [h3] at k9
                  exact k9
                refine ww_cV0 (M := m_X7_choose) (pc := 49) (h1 := h) (st := []) (d := 2) (bc := 0) (bs := 0) kp vv_X7_chooseProduct dX7_choose_49 wg_938 hK.1 rfl rfl rfl rfl (Nat.le_of_ble_eq_true rfl) (Nat.le_of_ble_eq_true rfl) (Nat.le_of_ble_eq_true rfl) (Nat.le_of_ble_eq_true rfl) ?_
                exact ww_vret dX7_choose_52 rfl ⟨rfl, hF, Same.rf⟩
              · exfalso; omega
        · have e : sayS own x D n = some (3, a, b) := by simp [sayS, c, h1, h2, h3]
          rw [e]
          refine ww_aload_n dX7_choose_15 rfl rfl ?_
          refine ww_get 1 dX7_choose_16 hK.1 rfl (by decide) inX7 wg_170 hK.2.2.2.1 ?_
          refine ww_iload_n dX7_choose_19 rfl rfl ?_
          refine ww_ialdF dX7_choose_20 hK.2.1.2.1 rfl (by omega) (by omega) ?_
          refine ww_sk (st2 := [.int (nI (x.1 n))]) (by rw [hA.1 n (by omega)]) ?_
          refine ww_aload_n dX7_choose_21 rfl rfl ?_
          refine ww_get 0 dX7_choose_22 hK.1 rfl (by decide) inX7 wg_168 hK.2.2.1 ?_
          refine ww_iload_n dX7_choose_25 rfl rfl ?_
          refine ww_ialdF dX7_choose_26 hK.2.1.1 rfl (by omega) (by omega) ?_
          refine ww_sk (st2 := [.int (nI (own n)), .int (nI (x.1 n))]) (by rw [ho n hn]) ?_
          refine ww_icmp_eqN (tgt := 46) dX7_choose_27 (by decide) (by omega) (by omega) (fun c27 => ?_) (fun c27 => ?_)
          · exfalso; omega
          · refine ww_aload_n dX7_choose_30 rfl rfl ?_
            refine ww_iload_n dX7_choose_31 rfl rfl ?_
            have ks : CC l Z m_X7_chooseSum 1 0 0 [.ref 30, .int (nI n)] h (RT (some (.int (nI 0))) h) := by
              have k9 := c_Sp_sum (l := l) (Z := Z) hst hK hA hB n hn
              rw [h1] at k9
              exact k9
            refine ww_cVr (M := m_X7_choose) (pc := 32) (v := .int (nI 0)) (h1 := h) (st := []) (d := 2) (bc := 0) (bs := 0) ks vv_X7_chooseSum dX7_choose_32 wg_926 hK.1 rfl rfl rfl rfl (Nat.le_of_ble_eq_true rfl) (Nat.le_of_ble_eq_true rfl) (Nat.le_of_ble_eq_true rfl) (Nat.le_of_ble_eq_true rfl) ?_
            refine ww_if_neN (tgt := 46) dX7_choose_35 (by decide) (by omega) (fun c35 => ?_) (fun c35 => ?_)
            · exfalso; omega
            · refine ww_aload_n dX7_choose_38 rfl rfl ?_
              refine ww_iload_n dX7_choose_39 rfl rfl ?_
              have kd : CC l Z m_X7_chooseDifference 1 0 0 [.ref 30, .int (nI n)] h (RT (some (.int (nI 0))) h) := by
                have k9 := c_Sp_diff (l := l) (Z := Z) hst hK hA hB n hn
                rw [h2] at k9
                exact k9
              refine ww_cVr (M := m_X7_choose) (pc := 40) (v := .int (nI 0)) (h1 := h) (st := []) (d := 2) (bc := 0) (bs := 0) kd vv_X7_chooseDifference dX7_choose_40 wg_934 hK.1 rfl rfl rfl rfl (Nat.le_of_ble_eq_true rfl) (Nat.le_of_ble_eq_true rfl) (Nat.le_of_ble_eq_true rfl) (Nat.le_of_ble_eq_true rfl) ?_
              refine ww_if_eqN (tgt := 47) dX7_choose_43 (by decide) (by omega) (fun c43 => ?_) (fun c43 => ?_)
              · refine ww_aload_n dX7_choose_47 rfl rfl ?_
                refine ww_iload_n dX7_choose_48 rfl rfl ?_
                have kp : CC l Z m_X7_chooseProduct 1 0 0 [.ref 30, .int (nI n)] h (RQ (none) (fun h9 => chF (some (3, a, b)) h9 ∧ Same Sp0 Sp3 h h9)) := by
                  have k9 := c_Sp_prod (l := l) (Z := Z) hst hK hA hB n hn
                  rw [h3] at k9
                  exact k9
                refine ww_cVq0 (M := m_X7_choose) (pc := 49) (st := []) (d := 2) (bc := 0) (bs := 0) kp vv_X7_chooseProduct dX7_choose_49 wg_938 hK.1 rfl rfl rfl rfl (Nat.le_of_ble_eq_true rfl) (Nat.le_of_ble_eq_true rfl) (Nat.le_of_ble_eq_true rfl) (Nat.le_of_ble_eq_true rfl) (fun hr qr => ?_)
                exact ww_vret dX7_choose_52 rfl ⟨rfl, qr⟩
              · exfalso; omega
      · have e : sayS own x D n = some (2, a, a - n) := by simp [sayS, c, h1, h2]
        rw [e]
        refine ww_aload_n dX7_choose_15 rfl rfl ?_
        refine ww_get 1 dX7_choose_16 hK.1 rfl (by decide) inX7 wg_170 hK.2.2.2.1 ?_
        refine ww_iload_n dX7_choose_19 rfl rfl ?_
        refine ww_ialdF dX7_choose_20 hK.2.1.2.1 rfl (by omega) (by omega) ?_
        refine ww_sk (st2 := [.int (nI (x.1 n))]) (by rw [hA.1 n (by omega)]) ?_
        refine ww_aload_n dX7_choose_21 rfl rfl ?_
        refine ww_get 0 dX7_choose_22 hK.1 rfl (by decide) inX7 wg_168 hK.2.2.1 ?_
        refine ww_iload_n dX7_choose_25 rfl rfl ?_
        refine ww_ialdF dX7_choose_26 hK.2.1.1 rfl (by omega) (by omega) ?_
        refine ww_sk (st2 := [.int (nI (own n)), .int (nI (x.1 n))]) (by rw [ho n hn]) ?_
        refine ww_icmp_eqN (tgt := 46) dX7_choose_27 (by decide) (by omega) (by omega) (fun c27 => ?_) (fun c27 => ?_)
        · exfalso; omega
        · refine ww_aload_n dX7_choose_30 rfl rfl ?_
          refine ww_iload_n dX7_choose_31 rfl rfl ?_
          have ks : CC l Z m_X7_chooseSum 1 0 0 [.ref 30, .int (nI n)] h (RT (some (.int (nI 0))) h) := by
            have k9 := c_Sp_sum (l := l) (Z := Z) hst hK hA hB n hn
            rw [h1] at k9
            exact k9
          refine ww_cVr (M := m_X7_choose) (pc := 32) (v := .int (nI 0)) (h1 := h) (st := []) (d := 2) (bc := 0) (bs := 0) ks vv_X7_chooseSum dX7_choose_32 wg_926 hK.1 rfl rfl rfl rfl (Nat.le_of_ble_eq_true rfl) (Nat.le_of_ble_eq_true rfl) (Nat.le_of_ble_eq_true rfl) (Nat.le_of_ble_eq_true rfl) ?_
          refine ww_if_neN (tgt := 46) dX7_choose_35 (by decide) (by omega) (fun c35 => ?_) (fun c35 => ?_)
          · exfalso; omega
          · refine ww_aload_n dX7_choose_38 rfl rfl ?_
            refine ww_iload_n dX7_choose_39 rfl rfl ?_
            have kd : CC l Z m_X7_chooseDifference 1 0 0 [.ref 30, .int (nI n)] h (RQ (some (.int (nI 1))) (fun h9 => chF (some (2, a, a - n)) h9 ∧ Same Sp0 Sp3 h h9)) := by
              have k9 := c_Sp_diff (l := l) (Z := Z) hst hK hA hB n hn
              rw [h2] at k9
              exact k9
            refine ww_cVq (M := m_X7_choose) (pc := 40) (v := .int (nI 1)) (st := []) (d := 2) (bc := 0) (bs := 0) kd vv_X7_chooseDifference dX7_choose_40 wg_934 hK.1 rfl rfl rfl rfl (Nat.le_of_ble_eq_true rfl) (Nat.le_of_ble_eq_true rfl) (Nat.le_of_ble_eq_true rfl) (Nat.le_of_ble_eq_true rfl) (fun hr qr => ?_)
            refine ww_if_eqN (tgt := 47) dX7_choose_43 (by decide) (by omega) (fun c43 => ?_) (fun c43 => ?_)
            · exfalso; omega
            · exact ww_vret dX7_choose_46 rfl ⟨rfl, qr⟩
    · have e : sayS own x D n = some (1, a, n - a) := by simp [sayS, c, h1]
      rw [e]
      refine ww_aload_n dX7_choose_15 rfl rfl ?_
      refine ww_get 1 dX7_choose_16 hK.1 rfl (by decide) inX7 wg_170 hK.2.2.2.1 ?_
      refine ww_iload_n dX7_choose_19 rfl rfl ?_
      refine ww_ialdF dX7_choose_20 hK.2.1.2.1 rfl (by omega) (by omega) ?_
      refine ww_sk (st2 := [.int (nI (x.1 n))]) (by rw [hA.1 n (by omega)]) ?_
      refine ww_aload_n dX7_choose_21 rfl rfl ?_
      refine ww_get 0 dX7_choose_22 hK.1 rfl (by decide) inX7 wg_168 hK.2.2.1 ?_
      refine ww_iload_n dX7_choose_25 rfl rfl ?_
      refine ww_ialdF dX7_choose_26 hK.2.1.1 rfl (by omega) (by omega) ?_
      refine ww_sk (st2 := [.int (nI (own n)), .int (nI (x.1 n))]) (by rw [ho n hn]) ?_
      refine ww_icmp_eqN (tgt := 46) dX7_choose_27 (by decide) (by omega) (by omega) (fun c27 => ?_) (fun c27 => ?_)
      · exfalso; omega
      · refine ww_aload_n dX7_choose_30 rfl rfl ?_
        refine ww_iload_n dX7_choose_31 rfl rfl ?_
        have ks : CC l Z m_X7_chooseSum 1 0 0 [.ref 30, .int (nI n)] h (RQ (some (.int (nI 1))) (fun h9 => chF (some (1, a, n - a)) h9 ∧ Same Sp0 Sp3 h h9)) := by
          have k9 := c_Sp_sum (l := l) (Z := Z) hst hK hA hB n hn
          rw [h1] at k9
          exact k9
        refine ww_cVq (M := m_X7_choose) (pc := 32) (v := .int (nI 1)) (st := []) (d := 2) (bc := 0) (bs := 0) ks vv_X7_chooseSum dX7_choose_32 wg_926 hK.1 rfl rfl rfl rfl (Nat.le_of_ble_eq_true rfl) (Nat.le_of_ble_eq_true rfl) (Nat.le_of_ble_eq_true rfl) (Nat.le_of_ble_eq_true rfl) (fun hr qr => ?_)
        refine ww_if_neN (tgt := 46) dX7_choose_35 (by decide) (by omega) (fun c35 => ?_) (fun c35 => ?_)
        · exact ww_vret dX7_choose_46 rfl ⟨rfl, qr⟩
        · exfalso; omega
set_option maxHeartbeats 4000000 in
set_option maxRecDepth 100000 in
theorem c_Sp_choose {l : Launch} {Z : EE} (hst : l.stackTraces = false) {h : PH} (hK : SpK h) {x : PQ} {s : Nat → Bool} {D : Nat} (hA : SpA h x s D) (hB : SpL x D) {own : Nat → Nat} (ho : ∀ i, i ≤ 60 → hp_I h 31 i = nI (own i)) (hob : ∀ i, i ≤ 60 → own i ≤ 99) (n : Nat) (hn : n ≤ 60) : CC l Z m_X7_choose 2 0 0 [.ref 30, .int (nI n)] h (RQ none (fun h9 => chF (sayS own x D n) h9 ∧ Same Sp0 Sp3 h h9)) := by
  refine ee_entry hst (by decide +kernel) rfl rfl (by simp [Value.category]) (Nat.le_of_ble_eq_true rfl) ?_
  refine ww_lv (lv2 := [.ref 30, .int (nI n)]) rfl ?_
  refine ww_aload_n dX7_choose_0 rfl rfl ?_
  refine ww_iconst (v := nI 0) dX7_choose_1 (by decide) ?_
  refine ww_pfI tyX7 6 dX7_choose_2 hK.1 rfl (by decide) inX7 tyX7_ok nmX7 wg_177 rfl rfl ?_
  refine ww_aload_n dX7_choose_5 rfl rfl ?_
  refine ww_iconst (v := -1) dX7_choose_6 (by decide) ?_
  refine ww_pfI tyX7 7 dX7_choose_7 hK.1 rfl (by decide) inX7 tyX7_ok nmX7 wg_179 rfl rfl ?_
  refine ww_aload_n dX7_choose_10 rfl rfl ?_
  refine ww_iconst (v := -1) dX7_choose_11 (by decide) ?_
  refine ww_pfI tyX7 8 dX7_choose_12 hK.1 rfl (by decide) inX7 tyX7_ok nmX7 wg_181 rfl rfl ?_
  have hS9 : Same Sp0 Sp3 h (hp_sF (hp_sF (hp_sF h 30 6 (.int (nI 0))) 30 7 (.int (-1))) 30 8 (.int (-1))) := Same.sF (Same.sF (Same.sF Same.rf ⟨rfl, Or.inl rfl⟩) ⟨rfl, Or.inr (Or.inl rfl)⟩) ⟨rfl, Or.inr (Or.inr rfl)⟩
  have hF9 : chF none (hp_sF (hp_sF (hp_sF h 30 6 (.int (nI 0))) 30 7 (.int (-1))) 30 8 (.int (-1))) := ⟨hp_F_nj (by decide) (hp_F_nj (by decide) (hp_F_eq _ _ _ _)), hp_F_nj (by decide) (hp_F_eq _ _ _ _), hp_F_eq _ _ _ _⟩
  generalize hp_sF (hp_sF (hp_sF h 30 6 (.int (nI 0))) 30 7 (.int (-1))) 30 8 (.int (-1)) = hz at hS9 hF9 ⊢
  refine ww_post (fun r h9 hp => ⟨hp.1, hp.2.1, hS9.tr hp.2.2⟩) (l_Sp_choose hst (hK.s3 hS9) (hA.s3 hS9) hB (fun i hi => by rw [hS9.2.2.2.1 _ (fun e => e)]; exact ho i hi) hob n hn hF9)
set_option maxHeartbeats 4000000 in
set_option maxRecDepth 100000 in
theorem c_K_saying0 {l : Launch} {Z : EE} (hst : l.stackTraces = false) {h : PH} {la lw bk : Nat} (hC : CL h la lw bk) {np du : Nat} {f : Nat → Int32} (hL : LandAt h la np du f) {sz : Nat} {kf vf : Nat → Int32} (hW : LawAt h lw sz kf vf) (hok : LawOK kf vf sz) (n : Nat) (hn : n ≤ 60) : CC l Z m_X10_saying 6 0 0 [.ref 0, .int (nI n), .int (nI 0)] h (COk (wayV (sayS (syO f sz kf vf) (syQ f sz kf vf du) du n) 0) h) := by
  refine ee_entry hst (by decide +kernel) rfl rfl (by simp [Value.category]) (Nat.le_of_ble_eq_true rfl) ?_
  refine ww_lv (lv2 := [.ref 0, .int (nI n), .int (nI 0)]) rfl ?_
  have hla := hC.la
  have hlw := hC.lw
  have hbk := hC.bk
  have hdu := hL.2.2.2.2.2.2.2
  refine ww_aload_n dX10_saying_0 rfl rfl ?_
  refine ww_iload_n dX10_saying_1 rfl rfl ?_
  refine ww_cV0 (M := m_X10_saying) (pc := 2) (h1 := h) (st := []) (d := 6) (bc := 0) (bs := 0) (c_needNumber_t hst hC.K0 n hn) vv_X10_needNumber dX10_saying_2 wg_847 (hC.K0) rfl rfl rfl rfl (Nat.le_of_ble_eq_true rfl) (Nat.le_of_ble_eq_true rfl) (Nat.le_of_ble_eq_true rfl) (Nat.le_of_ble_eq_true rfl) ?_
  refine ww_aload_n dX10_saying_5 rfl rfl ?_
  refine ww_iload_n dX10_saying_6 rfl rfl ?_
  refine ww_iconst (v := nI 0) dX10_saying_7 (by decide) ?_
  refine ww_iconst (v := nI 2) dX10_saying_8 (by decide) ?_
  refine ww_cV0 (M := m_X10_saying) (pc := 9) (h1 := h) (st := []) (d := 6) (bc := 0) (bs := 0) (c_within_t hst (nI 0) (nI 0) (nI 2) (by decide) (by decide) _) vv_X10_within dX10_saying_9 wg_410 (hC.K0) rfl rfl rfl rfl (Nat.le_of_ble_eq_true rfl) (Nat.le_of_ble_eq_true rfl) (Nat.le_of_ble_eq_true rfl) (Nat.le_of_ble_eq_true rfl) ?_
  refine ww_aload_n dX10_saying_12 rfl rfl ?_
  refine ww_get 15 dX10_saying_13 (hC.K0) rfl (by decide) inX10 wg_279 (hC.R0_15) ?_
  refine ww_aload_n dX10_saying_16 rfl rfl ?_
  refine ww_get 1 dX10_saying_17 (hC.K0) rfl (by decide) inX10 wg_265 hC.D1 ?_
  refine ww_aload_n dX10_saying_20 rfl rfl ?_
  refine ww_get 3 dX10_saying_21 (hC.K0) rfl (by decide) inX10 wg_267 hC.D3 ?_
  refine ww_cVq0 (M := m_X10_saying) (pc := 24) (st := []) (d := 6) (bc := 0) (bs := 0) (c_Sp_say hst hC hL hW hok) vv_X7_say dX10_saying_24 wg_882 (hC.K30) rfl rfl rfl rfl (Nat.le_of_ble_eq_true rfl) (Nat.le_of_ble_eq_true rfl) (Nat.le_of_ble_eq_true rfl) (Nat.le_of_ble_eq_true rfl) (fun hq1 qq1 => ?_)
  have s1 : Same CX CY h hq1 := qq1.1
  have hC1 := hC.scr s1
  refine ww_aload_n dX10_saying_27 rfl rfl ?_
  refine ww_get 15 dX10_saying_28 (hC1.K0) rfl (by decide) inX10 wg_279 (hC1.R0_15) ?_
  refine ww_iload_n dX10_saying_31 rfl rfl ?_
  refine ww_cVq0 (M := m_X10_saying) (pc := 32) (st := []) (d := 6) (bc := 0) (bs := 0) (c_Sp_choose hst (own := syO f sz kf vf) hC1.sp qq1.2.1 ⟨hdu, fun m hm => syQ_le f sz kf vf du hm⟩ qq1.2.2 (fun i _ => syO_le f sz kf vf i) n hn) vv_X7_choose dX10_saying_32 wg_922 (hC1.K30) rfl rfl rfl rfl (Nat.le_of_ble_eq_true rfl) (Nat.le_of_ble_eq_true rfl) (Nat.le_of_ble_eq_true rfl) (Nat.le_of_ble_eq_true rfl) (fun hq2 q9 => ?_)
  have s2 : Same CX CY h hq2 := s1.tr (q9.2.sp3)
  have hC2 := hC.scr s2
  refine ww_iload_n dX10_saying_35 rfl rfl ?_
  refine ww_lookup (off := 28) (tgt := 64) dX10_saying_36 (by decide) (by decide) (by decide) ?_
  refine ww_aload_n dX10_saying_64 rfl rfl ?_
  refine ww_get 15 dX10_saying_65 (hC2.K0) rfl (by decide) inX10 wg_279 (hC2.R0_15) ?_
  refine ww_getN 6 dX10_saying_68 (hC2.K30) rfl (by decide) inX7 wn_178 q9.1.1 ?_
  exact ww_iret dX10_saying_71 rfl ⟨rfl, s2⟩
set_option maxHeartbeats 4000000 in
set_option maxRecDepth 100000 in
theorem c_K_saying1 {l : Launch} {Z : EE} (hst : l.stackTraces = false) {h : PH} {la lw bk : Nat} (hC : CL h la lw bk) {np du : Nat} {f : Nat → Int32} (hL : LandAt h la np du f) {sz : Nat} {kf vf : Nat → Int32} (hW : LawAt h lw sz kf vf) (hok : LawOK kf vf sz) (n : Nat) (hn : n ≤ 60) : CC l Z m_X10_saying 6 0 0 [.ref 0, .int (nI n), .int (nI 1)] h (COk (wayV (sayS (syO f sz kf vf) (syQ f sz kf vf du) du n) 1) h) := by
  refine ee_entry hst (by decide +kernel) rfl rfl (by simp [Value.category]) (Nat.le_of_ble_eq_true rfl) ?_
  refine ww_lv (lv2 := [.ref 0, .int (nI n), .int (nI 1)]) rfl ?_
  have hla := hC.la
  have hlw := hC.lw
  have hbk := hC.bk
  have hdu := hL.2.2.2.2.2.2.2
  refine ww_aload_n dX10_saying_0 rfl rfl ?_
  refine ww_iload_n dX10_saying_1 rfl rfl ?_
  refine ww_cV0 (M := m_X10_saying) (pc := 2) (h1 := h) (st := []) (d := 6) (bc := 0) (bs := 0) (c_needNumber_t hst hC.K0 n hn) vv_X10_needNumber dX10_saying_2 wg_847 (hC.K0) rfl rfl rfl rfl (Nat.le_of_ble_eq_true rfl) (Nat.le_of_ble_eq_true rfl) (Nat.le_of_ble_eq_true rfl) (Nat.le_of_ble_eq_true rfl) ?_
  refine ww_aload_n dX10_saying_5 rfl rfl ?_
  refine ww_iload_n dX10_saying_6 rfl rfl ?_
  refine ww_iconst (v := nI 0) dX10_saying_7 (by decide) ?_
  refine ww_iconst (v := nI 2) dX10_saying_8 (by decide) ?_
  refine ww_cV0 (M := m_X10_saying) (pc := 9) (h1 := h) (st := []) (d := 6) (bc := 0) (bs := 0) (c_within_t hst (nI 1) (nI 0) (nI 2) (by decide) (by decide) _) vv_X10_within dX10_saying_9 wg_410 (hC.K0) rfl rfl rfl rfl (Nat.le_of_ble_eq_true rfl) (Nat.le_of_ble_eq_true rfl) (Nat.le_of_ble_eq_true rfl) (Nat.le_of_ble_eq_true rfl) ?_
  refine ww_aload_n dX10_saying_12 rfl rfl ?_
  refine ww_get 15 dX10_saying_13 (hC.K0) rfl (by decide) inX10 wg_279 (hC.R0_15) ?_
  refine ww_aload_n dX10_saying_16 rfl rfl ?_
  refine ww_get 1 dX10_saying_17 (hC.K0) rfl (by decide) inX10 wg_265 hC.D1 ?_
  refine ww_aload_n dX10_saying_20 rfl rfl ?_
  refine ww_get 3 dX10_saying_21 (hC.K0) rfl (by decide) inX10 wg_267 hC.D3 ?_
  refine ww_cVq0 (M := m_X10_saying) (pc := 24) (st := []) (d := 6) (bc := 0) (bs := 0) (c_Sp_say hst hC hL hW hok) vv_X7_say dX10_saying_24 wg_882 (hC.K30) rfl rfl rfl rfl (Nat.le_of_ble_eq_true rfl) (Nat.le_of_ble_eq_true rfl) (Nat.le_of_ble_eq_true rfl) (Nat.le_of_ble_eq_true rfl) (fun hq1 qq1 => ?_)
  have s1 : Same CX CY h hq1 := qq1.1
  have hC1 := hC.scr s1
  refine ww_aload_n dX10_saying_27 rfl rfl ?_
  refine ww_get 15 dX10_saying_28 (hC1.K0) rfl (by decide) inX10 wg_279 (hC1.R0_15) ?_
  refine ww_iload_n dX10_saying_31 rfl rfl ?_
  refine ww_cVq0 (M := m_X10_saying) (pc := 32) (st := []) (d := 6) (bc := 0) (bs := 0) (c_Sp_choose hst (own := syO f sz kf vf) hC1.sp qq1.2.1 ⟨hdu, fun m hm => syQ_le f sz kf vf du hm⟩ qq1.2.2 (fun i _ => syO_le f sz kf vf i) n hn) vv_X7_choose dX10_saying_32 wg_922 (hC1.K30) rfl rfl rfl rfl (Nat.le_of_ble_eq_true rfl) (Nat.le_of_ble_eq_true rfl) (Nat.le_of_ble_eq_true rfl) (Nat.le_of_ble_eq_true rfl) (fun hq2 q9 => ?_)
  have s2 : Same CX CY h hq2 := s1.tr (q9.2.sp3)
  have hC2 := hC.scr s2
  refine ww_iload_n dX10_saying_35 rfl rfl ?_
  refine ww_lookup (off := 36) (tgt := 72) dX10_saying_36 (by decide) (by decide) (by decide) ?_
  refine ww_aload_n dX10_saying_72 rfl rfl ?_
  refine ww_get 15 dX10_saying_73 (hC2.K0) rfl (by decide) inX10 wg_279 (hC2.R0_15) ?_
  refine ww_getN 7 dX10_saying_76 (hC2.K30) rfl (by decide) inX7 wn_180 q9.1.2.1 ?_
  exact ww_iret dX10_saying_79 rfl ⟨rfl, s2⟩
set_option maxHeartbeats 4000000 in
set_option maxRecDepth 100000 in
theorem c_K_saying2 {l : Launch} {Z : EE} (hst : l.stackTraces = false) {h : PH} {la lw bk : Nat} (hC : CL h la lw bk) {np du : Nat} {f : Nat → Int32} (hL : LandAt h la np du f) {sz : Nat} {kf vf : Nat → Int32} (hW : LawAt h lw sz kf vf) (hok : LawOK kf vf sz) (n : Nat) (hn : n ≤ 60) : CC l Z m_X10_saying 6 0 0 [.ref 0, .int (nI n), .int (nI 2)] h (COk (wayV (sayS (syO f sz kf vf) (syQ f sz kf vf du) du n) 2) h) := by
  refine ee_entry hst (by decide +kernel) rfl rfl (by simp [Value.category]) (Nat.le_of_ble_eq_true rfl) ?_
  refine ww_lv (lv2 := [.ref 0, .int (nI n), .int (nI 2)]) rfl ?_
  have hla := hC.la
  have hlw := hC.lw
  have hbk := hC.bk
  have hdu := hL.2.2.2.2.2.2.2
  refine ww_aload_n dX10_saying_0 rfl rfl ?_
  refine ww_iload_n dX10_saying_1 rfl rfl ?_
  refine ww_cV0 (M := m_X10_saying) (pc := 2) (h1 := h) (st := []) (d := 6) (bc := 0) (bs := 0) (c_needNumber_t hst hC.K0 n hn) vv_X10_needNumber dX10_saying_2 wg_847 (hC.K0) rfl rfl rfl rfl (Nat.le_of_ble_eq_true rfl) (Nat.le_of_ble_eq_true rfl) (Nat.le_of_ble_eq_true rfl) (Nat.le_of_ble_eq_true rfl) ?_
  refine ww_aload_n dX10_saying_5 rfl rfl ?_
  refine ww_iload_n dX10_saying_6 rfl rfl ?_
  refine ww_iconst (v := nI 0) dX10_saying_7 (by decide) ?_
  refine ww_iconst (v := nI 2) dX10_saying_8 (by decide) ?_
  refine ww_cV0 (M := m_X10_saying) (pc := 9) (h1 := h) (st := []) (d := 6) (bc := 0) (bs := 0) (c_within_t hst (nI 2) (nI 0) (nI 2) (by decide) (by decide) _) vv_X10_within dX10_saying_9 wg_410 (hC.K0) rfl rfl rfl rfl (Nat.le_of_ble_eq_true rfl) (Nat.le_of_ble_eq_true rfl) (Nat.le_of_ble_eq_true rfl) (Nat.le_of_ble_eq_true rfl) ?_
  refine ww_aload_n dX10_saying_12 rfl rfl ?_
  refine ww_get 15 dX10_saying_13 (hC.K0) rfl (by decide) inX10 wg_279 (hC.R0_15) ?_
  refine ww_aload_n dX10_saying_16 rfl rfl ?_
  refine ww_get 1 dX10_saying_17 (hC.K0) rfl (by decide) inX10 wg_265 hC.D1 ?_
  refine ww_aload_n dX10_saying_20 rfl rfl ?_
  refine ww_get 3 dX10_saying_21 (hC.K0) rfl (by decide) inX10 wg_267 hC.D3 ?_
  refine ww_cVq0 (M := m_X10_saying) (pc := 24) (st := []) (d := 6) (bc := 0) (bs := 0) (c_Sp_say hst hC hL hW hok) vv_X7_say dX10_saying_24 wg_882 (hC.K30) rfl rfl rfl rfl (Nat.le_of_ble_eq_true rfl) (Nat.le_of_ble_eq_true rfl) (Nat.le_of_ble_eq_true rfl) (Nat.le_of_ble_eq_true rfl) (fun hq1 qq1 => ?_)
  have s1 : Same CX CY h hq1 := qq1.1
  have hC1 := hC.scr s1
  refine ww_aload_n dX10_saying_27 rfl rfl ?_
  refine ww_get 15 dX10_saying_28 (hC1.K0) rfl (by decide) inX10 wg_279 (hC1.R0_15) ?_
  refine ww_iload_n dX10_saying_31 rfl rfl ?_
  refine ww_cVq0 (M := m_X10_saying) (pc := 32) (st := []) (d := 6) (bc := 0) (bs := 0) (c_Sp_choose hst (own := syO f sz kf vf) hC1.sp qq1.2.1 ⟨hdu, fun m hm => syQ_le f sz kf vf du hm⟩ qq1.2.2 (fun i _ => syO_le f sz kf vf i) n hn) vv_X7_choose dX10_saying_32 wg_922 (hC1.K30) rfl rfl rfl rfl (Nat.le_of_ble_eq_true rfl) (Nat.le_of_ble_eq_true rfl) (Nat.le_of_ble_eq_true rfl) (Nat.le_of_ble_eq_true rfl) (fun hq2 q9 => ?_)
  have s2 : Same CX CY h hq2 := s1.tr (q9.2.sp3)
  have hC2 := hC.scr s2
  refine ww_iload_n dX10_saying_35 rfl rfl ?_
  refine ww_lookup (off := 44) (tgt := 80) dX10_saying_36 (by decide) (by decide) (by decide) ?_
  refine ww_aload_n dX10_saying_80 rfl rfl ?_
  refine ww_get 15 dX10_saying_81 (hC2.K0) rfl (by decide) inX10 wg_279 (hC2.R0_15) ?_
  refine ww_getN 8 dX10_saying_84 (hC2.K30) rfl (by decide) inX7 wn_182 q9.1.2.2 ?_
  exact ww_iret dX10_saying_87 rfl ⟨rfl, s2⟩
set_option maxHeartbeats 4000000 in
set_option maxRecDepth 100000 in
theorem c_K_saying_no0 {l : Launch} {Z : EE} (hst : l.stackTraces = false) {h : PH} {la lw bk : Nat} (hC : CL h la lw bk) {np du : Nat} {f : Nat → Int32} (hL : LandAt h la np du f) {sz : Nat} {kf vf : Nat → Int32} (hW : LawAt h lw sz kf vf) (hok : LawOK kf vf sz) {mi : Int32} (hmi : hp_F h 0 12 = .int mi) (n : Int32) (w : Int32) (hout : outR 0 60 n) : CC l Z m_X10_saying 7 1 6 [.ref 0, .int n, .int w] h (TH nsX (hp_sF h 0 12 (.int (mi + nI 1)))) := by
  refine ee_entry hst (by decide +kernel) rfl rfl (by simp [Value.category]) (Nat.le_of_ble_eq_true rfl) ?_
  refine ww_lv (lv2 := [.ref 0, .int n, .int w]) rfl ?_
  have hla := hC.la
  have hlw := hC.lw
  have hbk := hC.bk
  refine ww_aload_n dX10_saying_0 rfl rfl ?_
  refine ww_iload_n dX10_saying_1 rfl rfl ?_
  exact ww_cVt (M := m_X10_saying) (pc := 2) (st := []) (d := 7) (bc := 0) (bs := 0) (c_needNumber_f hst hC.K0 hmi n hout) vv_X10_needNumber dX10_saying_2 wg_847 (hC.K0) rfl rfl rfl rfl (Nat.le_of_ble_eq_true rfl) (Nat.le_of_ble_eq_true rfl) (Nat.le_of_ble_eq_true rfl) (Nat.le_of_ble_eq_true rfl) ⟨rfl, rfl⟩
set_option maxHeartbeats 4000000 in
set_option maxRecDepth 100000 in
theorem c_K_saying_no1 {l : Launch} {Z : EE} (hst : l.stackTraces = false) {h : PH} {la lw bk : Nat} (hC : CL h la lw bk) {np du : Nat} {f : Nat → Int32} (hL : LandAt h la np du f) {sz : Nat} {kf vf : Nat → Int32} (hW : LawAt h lw sz kf vf) (hok : LawOK kf vf sz) {wr : Int32} (hwr : hp_F h 0 13 = .int wr) (n : Nat) (hn : n ≤ 60) (w : Int32) (hout : ¬ (nI 0 ≤ w ∧ w ≤ nI 2)) : CC l Z m_X10_saying 7 1 6 [.ref 0, .int (nI n), .int w] h (TH iaX (hp_sF h 0 13 (.int (wr + nI 1)))) := by
  refine ee_entry hst (by decide +kernel) rfl rfl (by simp [Value.category]) (Nat.le_of_ble_eq_true rfl) ?_
  refine ww_lv (lv2 := [.ref 0, .int (nI n), .int w]) rfl ?_
  have hla := hC.la
  have hlw := hC.lw
  have hbk := hC.bk
  refine ww_aload_n dX10_saying_0 rfl rfl ?_
  refine ww_iload_n dX10_saying_1 rfl rfl ?_
  refine ww_cV0 (M := m_X10_saying) (pc := 2) (h1 := h) (st := []) (d := 7) (bc := 1) (bs := 6) (c_needNumber_t hst hC.K0 n hn) vv_X10_needNumber dX10_saying_2 wg_847 (hC.K0) rfl rfl rfl rfl (Nat.le_of_ble_eq_true rfl) (Nat.le_of_ble_eq_true rfl) (Nat.le_of_ble_eq_true rfl) (Nat.le_of_ble_eq_true rfl) ?_
  refine ww_aload_n dX10_saying_5 rfl rfl ?_
  refine ww_iload_n dX10_saying_6 rfl rfl ?_
  refine ww_iconst (v := nI 0) dX10_saying_7 (by decide) ?_
  refine ww_iconst (v := nI 2) dX10_saying_8 (by decide) ?_
  exact ww_cVt (M := m_X10_saying) (pc := 9) (st := []) (d := 7) (bc := 0) (bs := 0) (c_within_f hst hC.K0 hwr w (nI 0) (nI 2) hout) vv_X10_within dX10_saying_9 wg_410 (hC.K0) rfl rfl rfl rfl (Nat.le_of_ble_eq_true rfl) (Nat.le_of_ble_eq_true rfl) (Nat.le_of_ble_eq_true rfl) (Nat.le_of_ble_eq_true rfl) ⟨rfl, rfl⟩
