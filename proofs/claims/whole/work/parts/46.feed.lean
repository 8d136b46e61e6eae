/-! ===== feed: bytes onto the tapes ===== -/
theorem ww_sk {l : Launch} {Z : EE} {M : MM} {d bc bs pc : Nat} {lv st st2 : List Value} {h : PH} {Post : Res → PH → Prop} (e : st = st2) (k : WW l Z M d bc bs pc lv st2 h Post) : WW l Z M d bc bs pc lv st h Post := by rw [e]; exact k
theorem hp_F_sI {h : PH} {a j b : Nat} {f : Nat → Int32} {v : Value} (e : hp_F h a j = v) : hp_F (hp_sI h b f) a j = v := e
theorem hp_F_sL {h : PH} {a j b : Nat} {f : Nat → Int64} {v : Value} (e : hp_F h a j = v) : hp_F (hp_sL h b f) a j = v := e
theorem hp_I_sF {h : PH} {a b k : Nat} {f : Nat → Int32} {v : Value} (e : hp_I h a = f) : hp_I (hp_sF h b k v) a = f := e
theorem hp_I_sL {h : PH} {a b : Nat} {f : Nat → Int32} {g : Nat → Int64} (e : hp_I h a = f) : hp_I (hp_sL h b g) a = f := e
theorem hp_L_sF {h : PH} {a b k : Nat} {f : Nat → Int64} {v : Value} (e : hp_L h a = f) : hp_L (hp_sF h b k v) a = f := e
theorem hp_L_sI {h : PH} {a b : Nat} {f : Nat → Int64} {g : Nat → Int32} (e : hp_L h a = f) : hp_L (hp_sI h b g) a = f := e
/-- the j-th byte of an int, the highest first -/
def byF (x : Int32) (j : Nat) : Int32 := nI (x.toBitVec.toNat / 2 ^ (24 - 8 * j) % 256)
theorem by_u (x s : Int32) (k : Nat) (hs : ((s.toUInt32 &&& Int32.toUInt32 31).toBitVec % 32).toNat = k) : (x.toUInt32 >>> (s.toUInt32 &&& Int32.toUInt32 31)).toInt32 &&& nI 255 = nI (x.toBitVec.toNat / 2 ^ k % 256) := by
  rw [pk_and _ 8 (by decide), pk_ushr x s k hs]
theorem by_s (x s : Int32) (k : Nat) (hs : (s.toBitVec.smod 32).toNat = k) (hk : k = 0 ∨ k = 8 ∨ k = 16 ∨ k = 24) : (x >>> s) &&& nI 255 = nI (x.toBitVec.toNat / 2 ^ k % 256) := by
  rw [pk_and _ 8 (by decide)]
  have h1 := pk_shr x s k hs
  have h2 : (x >>> s).toInt = (x >>> s).toBitVec.toInt := rfl
  have h3 : x.toInt = x.toBitVec.toInt := rfl
  rw [h2, h3, BitVec.toInt_eq_toNat_cond, BitVec.toInt_eq_toNat_cond, Int.shiftRight_eq_div_pow] at h1
  have b1 := (x >>> s).toBitVec.isLt
  have b2 := x.toBitVec.isLt
  congr 1
  generalize (x >>> s).toBitVec.toNat = y at *
  generalize x.toBitVec.toNat = z at *
  rcases hk with rfl | rfl | rfl | rfl <;> (split at h1 <;> split at h1 <;> simp only [Nat.reducePow, Int.reducePow] at * <;> omega)
/-- the tape with the first k bytes of five ints behind its tp-th -/
def fdF (tf : Nat → Int32) (tp : Nat) (xs : Nat → Int32) (k : Nat) : Nat → Int32 := fun i => if tp ≤ i ∧ i < tp + k then byF (xs ((i - tp) / 4)) ((i - tp) % 4) else tf i
theorem fdF_0 (tf : Nat → Int32) (tp : Nat) (xs : Nat → Int32) : fdF tf tp xs 0 = tf := by funext i; unfold fdF; rw [if_neg (by omega)]
theorem fdF_s (tf : Nat → Int32) (tp : Nat) (xs : Nat → Int32) (k : Nat) : upd (fdF tf tp xs k) (tp + k) (byF (xs (k / 4)) (k % 4)) = fdF tf tp xs (k + 1) := by
  funext i
  by_cases e : i = tp + k
  · subst e
    rw [pk_us]
    unfold fdF
    rw [if_pos (by omega), show tp + k - tp = k by omega]
  · rw [pk_un e]
    unfold fdF
    by_cases h : tp ≤ i ∧ i < tp + k
    · rw [if_pos h, if_pos (by omega)]
    · rw [if_neg h, if_neg (by omega)]
theorem sh_ok (k : Nat) : (((nI (24 - 8 * (k % 4))) &&& 31).toBitVec.smod 32).toNat = 24 - 8 * (k % 4) := by
  have h5 : k % 4 = 0 ∨ k % 4 = 1 ∨ k % 4 = 2 ∨ k % 4 = 3 := by omega
  rcases h5 with e | e | e | e <;> rw [e] <;> decide
def xsF (a b c d e : Int32) : Nat → Int32 := fun j => if j = 0 then a else if j = 1 then b else if j = 2 then c else if j = 3 then d else e
theorem fdF_4 (tf : Nat → Int32) (tp : Nat) (xs : Nat → Int32) (j : Nat) : upd (upd (upd (upd (fdF tf tp xs (4 * j)) (tp + 4 * j) (byF (xs j) 0)) (tp + 4 * j + 1) (byF (xs j) 1)) (tp + 4 * j + 1 + 1) (byF (xs j) 2)) (tp + 4 * j + 1 + 1 + 1) (byF (xs j) 3) = fdF tf tp xs (4 * (j + 1)) := by
  have h0 := fdF_s tf tp xs (4 * j)
  have h1 := fdF_s tf tp xs (4 * j + 1)
  have h2 := fdF_s tf tp xs (4 * j + 2)
  have h3 := fdF_s tf tp xs (4 * j + 3)
  rw [show 4 * j / 4 = j by omega, show 4 * j % 4 = 0 by omega] at h0
  rw [show (4 * j + 1) / 4 = j by omega, show (4 * j + 1) % 4 = 1 by omega] at h1
  rw [show (4 * j + 2) / 4 = j by omega, show (4 * j + 2) % 4 = 2 by omega] at h2
  rw [show (4 * j + 3) / 4 = j by omega, show (4 * j + 3) % 4 = 3 by omega] at h3
  rw [h0, show tp + 4 * j + 1 = tp + (4 * j + 1) by omega, h1, show tp + (4 * j + 1) + 1 = tp + (4 * j + 2) by omega, h2, show tp + (4 * j + 2) + 1 = tp + (4 * j + 3) by omega, h3]
  rfl
set_option maxHeartbeats 4000000 in
set_option maxRecDepth 100000 in
theorem c_Rd_put {l : Launch} {Z : EE} (hst : l.stackTraces = false) {h : PH} (k1 : hp_K h 1 = (5, 6)) (k2 : hp_K h 2 = (20, 600)) (r1 : hp_F h 1 0 = .ref 2) {xs : Nat → Int32} {tf : Nat → Int32} {tp j : Nat} (hsz : hp_F h 1 1 = .int (nI (tp + 4 * j))) (htf : hp_I h 2 = fdF tf tp xs (4 * j)) (hj : tp + 4 * j + 4 ≤ 600) : CC l Z m_X5_put 0 0 0 [.ref 1, .int (xs j)] h (RQ none (fun h9 => Same (fun c => c = 2) (fun a i => a = 1 ∧ i = 1) h h9 ∧ hp_F h9 1 1 = .int (nI (tp + 4 * (j + 1))) ∧ hp_I h9 2 = fdF tf tp xs (4 * (j + 1)))) := by
  refine ee_entry hst (by decide +kernel) rfl rfl (by simp [Value.category]) (Nat.le_of_ble_eq_true rfl) ?_
  refine ww_lv (lv2 := [.ref 1, .int (xs j), UU]) rfl ?_
  refine ww_bipush (v := nI 24) dX5_put_0 (by decide) ?_
  refine ww_sti_n (lv2 := [.ref 1, .int (xs j), .int (nI 24)]) dX5_put_2 rfl rfl (by decide) rfl ?_
  refine ww_iload_n dX5_put_3 rfl rfl ?_
  refine ww_if_ltN (tgt := 49) dX5_put_4 (by decide) (by omega) ?_
  refine ww_aload_n dX5_put_7 rfl rfl ?_
  refine ww_get 1 dX5_put_8 k1 rfl (by decide) inX5 wg_39 hsz ?_
  refine ww_sipush (v := nI 600) dX5_put_11 (by decide) ?_
  refine ww_icmp_geN (tgt := 49) dX5_put_14 (by decide) (by omega) (by omega) (fun c14 => ?_) (fun c14 => ?_)
  · exfalso; omega
  · refine ww_aload_n dX5_put_17 rfl rfl ?_
    refine ww_get 0 dX5_put_18 k1 rfl (by decide) inX5 wg_38 r1 ?_
    refine ww_aload_n dX5_put_21 rfl rfl ?_
    refine ww_get 1 dX5_put_22 k1 rfl (by decide) inX5 wg_39 hsz ?_
    refine ww_iload_n dX5_put_25 rfl rfl ?_
    refine ww_iload_n dX5_put_26 rfl rfl ?_
    refine ww_iushr dX5_put_27 rfl ?_
    refine ww_sipush (v := nI 255) dX5_put_28 (by decide) ?_
    refine ww_iand dX5_put_31 ?_
    refine ww_sk (st2 := [.int (byF (xs j) 0), .int (nI (tp + 4 * j)), .ref 2]) (by rw [by_u _ _ 24 (by decide)]; rfl) ?_
    refine ww_iastF dX5_put_32 k2 htf (by omega) (by omega) ?_
    refine ww_aload_n dX5_put_33 rfl rfl ?_
    refine ww_dup dX5_put_34 rfl ?_
    refine ww_get 1 dX5_put_35 k1 rfl (by decide) inX5 wg_39 hsz ?_
    refine ww_iconst (v := nI 1) dX5_put_38 (by decide) ?_
    refine ww_iaddN dX5_put_39 ?_
    refine ww_pfI tyX5 1 dX5_put_40 k1 rfl (by decide) inX5 tyX5_ok nmX5 wg_39 rfl rfl ?_
    refine ww_inc (v := nI 16) (lv2 := [.ref 1, .int (xs j), .int (nI 16)]) dX5_put_43 rfl rfl rfl (by decide) rfl ?_
    refine ww_goto (tgt := 3) dX5_put_46 (by decide) ?_
    refine ww_iload_n dX5_put_3 rfl rfl ?_
    refine ww_if_ltN (tgt := 49) dX5_put_4 (by decide) (by omega) ?_
    refine ww_aload_n dX5_put_7 rfl rfl ?_
    refine ww_get 1 dX5_put_8 k1 rfl (by decide) inX5 wg_39 (hp_F_eq _ _ _ _) ?_
    refine ww_sipush (v := nI 600) dX5_put_11 (by decide) ?_
    refine ww_icmp_geN (tgt := 49) dX5_put_14 (by decide) (by omega) (by omega) (fun c14 => ?_) (fun c14 => ?_)
    · exfalso; omega
    · refine ww_aload_n dX5_put_17 rfl rfl ?_
      refine ww_get 0 dX5_put_18 k1 rfl (by decide) inX5 wg_38 (hp_F_nj (by decide) r1) ?_
      refine ww_aload_n dX5_put_21 rfl rfl ?_
      refine ww_get 1 dX5_put_22 k1 rfl (by decide) inX5 wg_39 (hp_F_eq _ _ _ _) ?_
      refine ww_iload_n dX5_put_25 rfl rfl ?_
      refine ww_iload_n dX5_put_26 rfl rfl ?_
      refine ww_iushr dX5_put_27 rfl ?_
      refine ww_sipush (v := nI 255) dX5_put_28 (by decide) ?_
      refine ww_iand dX5_put_31 ?_
      refine ww_sk (st2 := [.int (byF (xs j) 1), .int (nI ((tp + 4 * j) + 1)), .ref 2]) (by rw [by_u _ _ 16 (by decide)]; rfl) ?_
      refine ww_iastF dX5_put_32 k2 (hp_I_sF (hp_I_eq _ _ _)) (by omega) (by omega) ?_
      refine ww_aload_n dX5_put_33 rfl rfl ?_
      refine ww_dup dX5_put_34 rfl ?_
      refine ww_get 1 dX5_put_35 k1 rfl (by decide) inX5 wg_39 (hp_F_sI (hp_F_eq _ _ _ _)) ?_
      refine ww_iconst (v := nI 1) dX5_put_38 (by decide) ?_
      refine ww_iaddN dX5_put_39 ?_
      refine ww_pfI tyX5 1 dX5_put_40 k1 rfl (by decide) inX5 tyX5_ok nmX5 wg_39 rfl rfl ?_
      refine ww_inc (v := nI 8) (lv2 := [.ref 1, .int (xs j), .int (nI 8)]) dX5_put_43 rfl rfl rfl (by decide) rfl ?_
      refine ww_goto (tgt := 3) dX5_put_46 (by decide) ?_
      refine ww_iload_n dX5_put_3 rfl rfl ?_
      refine ww_if_ltN (tgt := 49) dX5_put_4 (by decide) (by omega) ?_
      refine ww_aload_n dX5_put_7 rfl rfl ?_
      refine ww_get 1 dX5_put_8 k1 rfl (by decide) inX5 wg_39 (hp_F_eq _ _ _ _) ?_
      refine ww_sipush (v := nI 600) dX5_put_11 (by decide) ?_
      refine ww_icmp_geN (tgt := 49) dX5_put_14 (by decide) (by omega) (by omega) (fun c14 => ?_) (fun c14 => ?_)
      · exfalso; omega
      · refine ww_aload_n dX5_put_17 rfl rfl ?_
        refine ww_get 0 dX5_put_18 k1 rfl (by decide) inX5 wg_38 (hp_F_nj (by decide) (hp_F_sI (hp_F_nj (by decide) r1))) ?_
        refine ww_aload_n dX5_put_21 rfl rfl ?_
        refine ww_get 1 dX5_put_22 k1 rfl (by decide) inX5 wg_39 (hp_F_eq _ _ _ _) ?_
        refine ww_iload_n dX5_put_25 rfl rfl ?_
        refine ww_iload_n dX5_put_26 rfl rfl ?_
        refine ww_iushr dX5_put_27 rfl ?_
        refine ww_sipush (v := nI 255) dX5_put_28 (by decide) ?_
        refine ww_iand dX5_put_31 ?_
        refine ww_sk (st2 := [.int (byF (xs j) 2), .int (nI (((tp + 4 * j) + 1) + 1)), .ref 2]) (by rw [by_u _ _ 8 (by decide)]; rfl) ?_
        refine ww_iastF dX5_put_32 k2 (hp_I_sF (hp_I_eq _ _ _)) (by omega) (by omega) ?_
        refine ww_aload_n dX5_put_33 rfl rfl ?_
        refine ww_dup dX5_put_34 rfl ?_
        refine ww_get 1 dX5_put_35 k1 rfl (by decide) inX5 wg_39 (hp_F_sI (hp_F_eq _ _ _ _)) ?_
        refine ww_iconst (v := nI 1) dX5_put_38 (by decide) ?_
        refine ww_iaddN dX5_put_39 ?_
        refine ww_pfI tyX5 1 dX5_put_40 k1 rfl (by decide) inX5 tyX5_ok nmX5 wg_39 rfl rfl ?_
        refine ww_inc (v := nI 0) (lv2 := [.ref 1, .int (xs j), .int (nI 0)]) dX5_put_43 rfl rfl rfl (by decide) rfl ?_
        refine ww_goto (tgt := 3) dX5_put_46 (by decide) ?_
        refine ww_iload_n dX5_put_3 rfl rfl ?_
        refine ww_if_ltN (tgt := 49) dX5_put_4 (by decide) (by omega) ?_
        refine ww_aload_n dX5_put_7 rfl rfl ?_
        refine ww_get 1 dX5_put_8 k1 rfl (by decide) inX5 wg_39 (hp_F_eq _ _ _ _) ?_
        refine ww_sipush (v := nI 600) dX5_put_11 (by decide) ?_
        refine ww_icmp_geN (tgt := 49) dX5_put_14 (by decide) (by omega) (by omega) (fun c14 => ?_) (fun c14 => ?_)
        · exfalso; omega
        · refine ww_aload_n dX5_put_17 rfl rfl ?_
          refine ww_get 0 dX5_put_18 k1 rfl (by decide) inX5 wg_38 (hp_F_nj (by decide) (hp_F_sI (hp_F_nj (by decide) (hp_F_sI (hp_F_nj (by decide) r1))))) ?_
          refine ww_aload_n dX5_put_21 rfl rfl ?_
          refine ww_get 1 dX5_put_22 k1 rfl (by decide) inX5 wg_39 (hp_F_eq _ _ _ _) ?_
          refine ww_iload_n dX5_put_25 rfl rfl ?_
          refine ww_iload_n dX5_put_26 rfl rfl ?_
          refine ww_iushr dX5_put_27 rfl ?_
          refine ww_sipush (v := nI 255) dX5_put_28 (by decide) ?_
          refine ww_iand dX5_put_31 ?_
          refine ww_sk (st2 := [.int (byF (xs j) 3), .int (nI ((((tp + 4 * j) + 1) + 1) + 1)), .ref 2]) (by rw [by_u _ _ 0 (by decide)]; rfl) ?_
          refine ww_iastF dX5_put_32 k2 (hp_I_sF (hp_I_eq _ _ _)) (by omega) (by omega) ?_
          refine ww_aload_n dX5_put_33 rfl rfl ?_
          refine ww_dup dX5_put_34 rfl ?_
          refine ww_get 1 dX5_put_35 k1 rfl (by decide) inX5 wg_39 (hp_F_sI (hp_F_eq _ _ _ _)) ?_
          refine ww_iconst (v := nI 1) dX5_put_38 (by decide) ?_
          refine ww_iaddN dX5_put_39 ?_
          refine ww_pfI tyX5 1 dX5_put_40 k1 rfl (by decide) inX5 tyX5_ok nmX5 wg_39 rfl rfl ?_
          refine ww_inc (v := -8) (lv2 := [.ref 1, .int (xs j), .int (-8)]) dX5_put_43 rfl rfl rfl (by decide) rfl ?_
          refine ww_goto (tgt := 3) dX5_put_46 (by decide) ?_
          refine ww_iload_n dX5_put_3 rfl rfl ?_
          refine ww_if_lt (tgt := 49) dX5_put_4 (by decide) (fun c4 => ?_) (fun c4 => ?_)
          · exact ww_vret dX5_put_49 rfl ⟨rfl, (by exact Same.sF (Same.sI (Same.sF (Same.sI (Same.sF (Same.sI (Same.sF (Same.sI (Same.rf) (by rfl)) (by exact ⟨rfl, rfl⟩)) (by rfl)) (by exact ⟨rfl, rfl⟩)) (by rfl)) (by exact ⟨rfl, rfl⟩)) (by rfl)) (by exact ⟨rfl, rfl⟩)), (hp_F_eq _ _ _ _), by rw [(hp_I_sF (hp_I_eq _ _ _))]; exact fdF_4 tf tp xs j⟩
          · exact absurd (by decide : ((-8 : Int32) < 0)) (by first | exact c4 | exact Int32.not_lt.mpr c4)
set_option maxHeartbeats 4000000 in
set_option maxRecDepth 100000 in
theorem c_Rd_hasRoom {l : Launch} {Z : EE} (hst : l.stackTraces = false) {h : PH} (k1 : hp_K h 1 = (5, 6)) {tp : Nat} (hsz : hp_F h 1 1 = .int (nI tp)) (htp : tp ≤ 600) : CC l Z m_X5_hasRoom 0 0 0 [.ref 1] h (RT (some (.int (bI (decide (tp + 20 ≤ 600))))) h) := by
  refine ee_entry hst (by decide +kernel) rfl rfl (by simp [Value.category]) (Nat.le_of_ble_eq_true rfl) ?_
  refine ww_lv (lv2 := [.ref 1]) rfl ?_
  refine ww_aload_n dX5_hasRoom_0 rfl rfl ?_
  refine ww_get 1 dX5_hasRoom_1 k1 rfl (by decide) inX5 wg_39 hsz ?_
  refine ww_bipush (v := nI 20) dX5_hasRoom_4 (by decide) ?_
  refine ww_iaddN dX5_hasRoom_6 ?_
  refine ww_sipush (v := nI 600) dX5_hasRoom_7 (by decide) ?_
  refine ww_icmp_gtN (tgt := 17) dX5_hasRoom_10 (by decide) (by omega) (by omega) (fun c10 => ?_) (fun c10 => ?_)
  · refine ww_iconst (v := nI 0) dX5_hasRoom_17 (by decide) ?_
    exact ww_zret dX5_hasRoom_18 rfl (by first | rfl | exact nar_bI _) ⟨by rw [show decide (tp + 20 ≤ 600) = false by simp; omega]; rfl, rfl⟩
  · refine ww_iconst (v := nI 1) dX5_hasRoom_13 (by decide) ?_
    refine ww_goto (tgt := 18) dX5_hasRoom_14 (by decide) ?_
    exact ww_zret dX5_hasRoom_18 rfl (by first | rfl | exact nar_bI _) ⟨by rw [show decide (tp + 20 ≤ 600) = true by simp; omega]; rfl, rfl⟩
set_option maxHeartbeats 4000000 in
set_option maxRecDepth 100000 in
theorem c_K_feed {l : Launch} {Z : EE} (hst : l.stackTraces = false) {h : PH} {la lw bk : Nat} (hC : CL h la lw bk) {tf : Nat → Int32} {tp : Nat} (hsz : hp_F h 1 1 = .int (nI tp)) (htf : hp_I h 2 = tf) (ht : tp + 20 ≤ 600) (a b c d e : Int32) : CC l Z m_X10_feed 2 0 0 [.ref 0, .int ((xsF a b c d e) 0), .int ((xsF a b c d e) 1), .int ((xsF a b c d e) 2), .int ((xsF a b c d e) 3), .int ((xsF a b c d e) 4)] h (RQ (some (.int (nI (tp + 20)))) (fun h9 => Same (fun c => c = 2) (fun a i => a = 1 ∧ i = 1) h h9 ∧ hp_F h9 1 1 = .int (nI (tp + 20)) ∧ hp_I h9 2 = fdF tf tp (xsF a b c d e) 20)) := by
  refine ee_entry hst (by decide +kernel) rfl rfl (by simp [Value.category]) (Nat.le_of_ble_eq_true rfl) ?_
  refine ww_lv (lv2 := [.ref 0, .int ((xsF a b c d e) 0), .int ((xsF a b c d e) 1), .int ((xsF a b c d e) 2), .int ((xsF a b c d e) 3), .int ((xsF a b c d e) 4)]) rfl ?_
  refine ww_aload_n dX10_feed_0 rfl rfl ?_
  refine ww_get 0 dX10_feed_1 (hC.K0) rfl (by decide) inX10 wg_264 (hC.R0_0) ?_
  refine ww_cVr (M := m_X10_feed) (pc := 4) (v := .int (bI (decide (tp + 20 ≤ 600)))) (h1 := h) (st := []) (bc := 0) (bs := 0) (c_Rd_hasRoom hst hC.K1 hsz (by omega)) vv_X5_hasRoom dX10_feed_4 wg_326 (hC.K1) rfl rfl rfl rfl (Nat.le_of_ble_eq_true rfl) (Nat.le_of_ble_eq_true rfl) (Nat.le_of_ble_eq_true rfl) (Nat.le_of_ble_eq_true rfl) ?_
  refine ww_if_neB (tgt := 12) dX10_feed_7 (by decide) (fun c7 => ?_) (fun c7 => ?_)
  · refine ww_aload_n dX10_feed_12 rfl rfl ?_
    refine ww_get 0 dX10_feed_13 (hC.K0) rfl (by decide) inX10 wg_264 (hC.R0_0) ?_
    refine ww_iload_n dX10_feed_16 rfl rfl ?_
    refine ww_cVq0 (M := m_X10_feed) (pc := 17) (st := []) (bc := 0) (bs := 0) (c_Rd_put hst (h := h) hC.K1 hC.K2 hC.R1_0 (xs := (xsF a b c d e)) (tf := tf) (tp := tp) (j := 0) hsz (by rw [fdF_0]; exact htf) (by omega)) vv_X5_put dX10_feed_17 wg_330 (hC.K1) rfl rfl rfl rfl (Nat.le_of_ble_eq_true rfl) (Nat.le_of_ble_eq_true rfl) (Nat.le_of_ble_eq_true rfl) (Nat.le_of_ble_eq_true rfl) (fun hq1 qq1 => ?_)
    have s1 : Same (fun c => c = 2) (fun a i => a = 1 ∧ i = 1) h hq1 := Same.rf.tr qq1.1
    have c1_0 := (s1.2.1 0).trans hC.K0
    have c1_1 := (s1.2.1 1).trans hC.K1
    have c1_2 := (s1.2.1 2).trans hC.K2
    have c1_3 := (s1.2.2.1 1 0 (by omega)).trans hC.R1_0
    have c1_4 := (s1.2.2.1 0 0 (by omega)).trans hC.R0_0
    refine ww_aload_n dX10_feed_20 rfl rfl ?_
    refine ww_get 0 dX10_feed_21 c1_0 rfl (by decide) inX10 wg_264 c1_4 ?_
    refine ww_iload_n dX10_feed_24 rfl rfl ?_
    refine ww_cVq0 (M := m_X10_feed) (pc := 25) (st := []) (bc := 0) (bs := 0) (c_Rd_put hst (h := hq1) c1_1 c1_2 c1_3 (xs := (xsF a b c d e)) (tf := tf) (tp := tp) (j := 1) qq1.2.1 qq1.2.2 (by omega)) vv_X5_put dX10_feed_25 wg_330 c1_1 rfl rfl rfl rfl (Nat.le_of_ble_eq_true rfl) (Nat.le_of_ble_eq_true rfl) (Nat.le_of_ble_eq_true rfl) (Nat.le_of_ble_eq_true rfl) (fun hq2 qq2 => ?_)
    have s2 : Same (fun c => c = 2) (fun a i => a = 1 ∧ i = 1) h hq2 := s1.tr qq2.1
    have c2_0 := (s2.2.1 0).trans hC.K0
    have c2_1 := (s2.2.1 1).trans hC.K1
    have c2_2 := (s2.2.1 2).trans hC.K2
    have c2_3 := (s2.2.2.1 1 0 (by omega)).trans hC.R1_0
    have c2_4 := (s2.2.2.1 0 0 (by omega)).trans hC.R0_0
    refine ww_aload_n dX10_feed_28 rfl rfl ?_
    refine ww_get 0 dX10_feed_29 c2_0 rfl (by decide) inX10 wg_264 c2_4 ?_
    refine ww_iload_n dX10_feed_32 rfl rfl ?_
    refine ww_cVq0 (M := m_X10_feed) (pc := 33) (st := []) (bc := 0) (bs := 0) (c_Rd_put hst (h := hq2) c2_1 c2_2 c2_3 (xs := (xsF a b c d e)) (tf := tf) (tp := tp) (j := 2) qq2.2.1 qq2.2.2 (by omega)) vv_X5_put dX10_feed_33 wg_330 c2_1 rfl rfl rfl rfl (Nat.le_of_ble_eq_true rfl) (Nat.le_of_ble_eq_true rfl) (Nat.le_of_ble_eq_true rfl) (Nat.le_of_ble_eq_true rfl) (fun hq3 qq3 => ?_)
    have s3 : Same (fun c => c = 2) (fun a i => a = 1 ∧ i = 1) h hq3 := s2.tr qq3.1
    have c3_0 := (s3.2.1 0).trans hC.K0
    have c3_1 := (s3.2.1 1).trans hC.K1
    have c3_2 := (s3.2.1 2).trans hC.K2
    have c3_3 := (s3.2.2.1 1 0 (by omega)).trans hC.R1_0
    have c3_4 := (s3.2.2.1 0 0 (by omega)).trans hC.R0_0
    refine ww_aload_n dX10_feed_36 rfl rfl ?_
    refine ww_get 0 dX10_feed_37 c3_0 rfl (by decide) inX10 wg_264 c3_4 ?_
    refine ww_iload dX10_feed_40 rfl ?_
    refine ww_cVq0 (M := m_X10_feed) (pc := 42) (st := []) (bc := 0) (bs := 0) (c_Rd_put hst (h := hq3) c3_1 c3_2 c3_3 (xs := (xsF a b c d e)) (tf := tf) (tp := tp) (j := 3) qq3.2.1 qq3.2.2 (by omega)) vv_X5_put dX10_feed_42 wg_330 c3_1 rfl rfl rfl rfl (Nat.le_of_ble_eq_true rfl) (Nat.le_of_ble_eq_true rfl) (Nat.le_of_ble_eq_true rfl) (Nat.le_of_ble_eq_true rfl) (fun hq4 qq4 => ?_)
    have s4 : Same (fun c => c = 2) (fun a i => a = 1 ∧ i = 1) h hq4 := s3.tr qq4.1
    have c4_0 := (s4.2.1 0).trans hC.K0
    have c4_1 := (s4.2.1 1).trans hC.K1
    have c4_2 := (s4.2.1 2).trans hC.K2
    have c4_3 := (s4.2.2.1 1 0 (by omega)).trans hC.R1_0
    have c4_4 := (s4.2.2.1 0 0 (by omega)).trans hC.R0_0
    refine ww_aload_n dX10_feed_45 rfl rfl ?_
    refine ww_get 0 dX10_feed_46 c4_0 rfl (by decide) inX10 wg_264 c4_4 ?_
    refine ww_iload dX10_feed_49 rfl ?_
    refine ww_cVq0 (M := m_X10_feed) (pc := 51) (st := []) (bc := 0) (bs := 0) (c_Rd_put hst (h := hq4) c4_1 c4_2 c4_3 (xs := (xsF a b c d e)) (tf := tf) (tp := tp) (j := 4) qq4.2.1 qq4.2.2 (by omega)) vv_X5_put dX10_feed_51 wg_330 c4_1 rfl rfl rfl rfl (Nat.le_of_ble_eq_true rfl) (Nat.le_of_ble_eq_true rfl) (Nat.le_of_ble_eq_true rfl) (Nat.le_of_ble_eq_true rfl) (fun hq5 qq5 => ?_)
    have s5 : Same (fun c => c = 2) (fun a i => a = 1 ∧ i = 1) h hq5 := s4.tr qq5.1
    have c5_0 := (s5.2.1 0).trans hC.K0
    have c5_1 := (s5.2.1 1).trans hC.K1
    have c5_2 := (s5.2.1 2).trans hC.K2
    have c5_3 := (s5.2.2.1 1 0 (by omega)).trans hC.R1_0
    have c5_4 := (s5.2.2.1 0 0 (by omega)).trans hC.R0_0
    refine ww_aload_n dX10_feed_54 rfl rfl ?_
    refine ww_get 0 dX10_feed_55 c5_0 rfl (by decide) inX10 wg_264 c5_4 ?_
    refine ww_getN 1 dX10_feed_58 c5_1 rfl (by decide) inX5 wn_40 qq5.2.1 ?_
    exact ww_iret dX10_feed_61 rfl ⟨rfl, s5, qq5.2.1, qq5.2.2⟩
  · exact absurd c7 (by simp; omega)
set_option maxHeartbeats 4000000 in
set_option maxRecDepth 100000 in
theorem c_K_feed_no {l : Launch} {Z : EE} (hst : l.stackTraces = false) {h : PH} {la lw bk : Nat} (hC : CL h la lw bk) {tf : Nat → Int32} {tp : Nat} (hsz : hp_F h 1 1 = .int (nI tp)) (htf : hp_I h 2 = tf) (ht : ¬ tp + 20 ≤ 600) (h6 : tp ≤ 600) (a b c d e : Int32) : CC l Z m_X10_feed 2 0 0 [.ref 0, .int a, .int b, .int c, .int d, .int e] h (RQ (some (.int (-1))) (fun h9 => h9 = h)) := by
  refine ee_entry hst (by decide +kernel) rfl rfl (by simp [Value.category]) (Nat.le_of_ble_eq_true rfl) ?_
  refine ww_lv (lv2 := [.ref 0, .int a, .int b, .int c, .int d, .int e]) rfl ?_
  refine ww_aload_n dX10_feed_0 rfl rfl ?_
  refine ww_get 0 dX10_feed_1 (hC.K0) rfl (by decide) inX10 wg_264 (hC.R0_0) ?_
  refine ww_cVr (M := m_X10_feed) (pc := 4) (v := .int (bI (decide (tp + 20 ≤ 600)))) (h1 := h) (st := []) (bc := 0) (bs := 0) (c_Rd_hasRoom hst hC.K1 hsz (by omega)) vv_X5_hasRoom dX10_feed_4 wg_326 (hC.K1) rfl rfl rfl rfl (Nat.le_of_ble_eq_true rfl) (Nat.le_of_ble_eq_true rfl) (Nat.le_of_ble_eq_true rfl) (Nat.le_of_ble_eq_true rfl) ?_
  refine ww_if_neB (tgt := 12) dX10_feed_7 (by decide) (fun c7 => ?_) (fun c7 => ?_)
  · exact absurd c7 (by simp; omega)
  · refine ww_iconst (v := -1) dX10_feed_10 (by decide) ?_
    exact ww_iret dX10_feed_11 rfl ⟨rfl, rfl⟩
set_option maxHeartbeats 4000000 in
set_option maxRecDepth 100000 in
theorem l_M_feed {l : Launch} {Z : EE} (hst : l.stackTraces = false) {h0 : PH} {m : Nat} {tf : Nat → Int32} {tp : Nat} (ht : tp + 20 ≤ 600) (a b c d e : Int32) : ∀ (j k : Nat) (hq : PH), ModS hq m → k + j = 20 → Same (fun c => c = m + 2) (fun a i => a = m ∧ i = 2) h0 hq → hp_F hq m 0 = .int (nI 0) → hp_F hq m 2 = .int (nI (tp + k)) → hp_I hq (m + 2) = fdF tf tp (xsF a b c d e) k → WW l Z m_X11_feed 0 0 0 23 [.ref m, .int a, .int b, .int c, .int d, .int e, .int (nI k), UU] [] hq (RQ (some (.int (nI (tp + 20)))) (fun h9 => Same (fun c => c = m + 2) (fun a i => a = m ∧ i = 2) h0 h9 ∧ hp_F h9 m 0 = .int (nI 0) ∧ hp_F h9 m 2 = .int (nI (tp + 20)) ∧ hp_I h9 (m + 2) = fdF tf tp (xsF a b c d e) 20)) := by
  intro j
  induction j with
  | zero =>
    intro k hq hMq hk hS0 hq0 hq1 hq2
    have hk0 : k = 20 := by omega
    subst hk0
    refine ww_iload dX11_feed_23 rfl ?_
    refine ww_bipush (v := nI 20) dX11_feed_25 (by decide) ?_
    refine ww_icmp_geN (tgt := 120) dX11_feed_27 (by decide) (by omega) (by omega) (fun c27 => ?_) (fun c27 => ?_)
    · refine ww_aload_n dX11_feed_120 rfl rfl ?_
      refine ww_get 2 dX11_feed_121 hMq.K0 rfl (by decide) inX11 wg_1242 hq1 ?_
      exact ww_iret dX11_feed_124 rfl ⟨rfl, hS0, hq0, hq1, hq2⟩
    · exfalso; omega
  | succ j ih =>
    intro k hq hMq hk hS0 hq0 hq1 hq2
    have hm4 := Nat.mod_lt k (show 0 < 4 by omega)
    refine ww_iload dX11_feed_23 rfl ?_
    refine ww_bipush (v := nI 20) dX11_feed_25 (by decide) ?_
    refine ww_icmp_geN (tgt := 120) dX11_feed_27 (by decide) (by omega) (by omega) (fun c27 => ?_) (fun c27 => ?_)
    · exfalso; omega
    · refine ww_iload dX11_feed_30 rfl ?_
      refine ww_iconst (v := nI 4) dX11_feed_32 (by decide) ?_
      refine ww_icmp_geN (tgt := 40) dX11_feed_33 (by decide) (by omega) (by omega) (fun c33 => ?_) (fun c33 => ?_)
      · refine ww_iload dX11_feed_40 rfl ?_
        refine ww_bipush (v := nI 8) dX11_feed_42 (by decide) ?_
        refine ww_icmp_geN (tgt := 51) dX11_feed_44 (by decide) (by omega) (by omega) (fun c44 => ?_) (fun c44 => ?_)
        · refine ww_iload dX11_feed_51 rfl ?_
          refine ww_bipush (v := nI 12) dX11_feed_53 (by decide) ?_
          refine ww_icmp_geN (tgt := 62) dX11_feed_55 (by decide) (by omega) (by omega) (fun c55 => ?_) (fun c55 => ?_)
          · refine ww_iload dX11_feed_62 rfl ?_
            refine ww_bipush (v := nI 16) dX11_feed_64 (by decide) ?_
            refine ww_icmp_geN (tgt := 74) dX11_feed_66 (by decide) (by omega) (by omega) (fun c66 => ?_) (fun c66 => ?_)
            · refine ww_iload dX11_feed_74 rfl ?_
              refine ww_sti (lv2 := [.ref m, .int a, .int b, .int c, .int d, .int e, .int (nI k), .int e]) dX11_feed_76 rfl (by decide) rfl ?_
              refine ww_aload_n dX11_feed_78 rfl rfl ?_
              refine ww_get 9 dX11_feed_79 hMq.K0 rfl (by decide) inX11 wg_1249 hMq.F2 ?_
              refine ww_aload_n dX11_feed_82 rfl rfl ?_
              refine ww_get 2 dX11_feed_83 hMq.K0 rfl (by decide) inX11 wg_1242 hq1 ?_
              refine ww_iload dX11_feed_86 rfl ?_
              refine ww_bipush (v := nI 24) dX11_feed_88 (by decide) ?_
              refine ww_bipush (v := nI 8) dX11_feed_90 (by decide) ?_
              refine ww_iload dX11_feed_92 rfl ?_
              refine ww_iconst (v := nI 4) dX11_feed_94 (by decide) ?_
              refine ww_iremN dX11_feed_95 (by omega) (by omega) (by omega) ?_
              refine ww_imulN dX11_feed_96 ?_
              refine ww_isubN dX11_feed_97 (by omega) ?_
              refine ww_ishr dX11_feed_98 ?_
              refine ww_sipush (v := nI 255) dX11_feed_99 (by decide) ?_
              refine ww_iand dX11_feed_102 ?_
              have hx9 : (xsF a b c d e) (k / 4) = e := by unfold xsF; rw [if_neg (by omega), if_neg (by omega), if_neg (by omega), if_neg (by omega)]
              refine ww_sk (st2 := [.int (byF ((xsF a b c d e) (k / 4)) (k % 4)), .int (nI (tp + k)), .ref (m + 2)]) (by rw [hx9, by_s _ _ (24 - 8 * (k % 4)) (sh_ok k) (by omega)]; rfl) ?_
              refine ww_iastF dX11_feed_103 hMq.K2 hq2 (by omega) (by omega) ?_
              refine ww_aload_n dX11_feed_104 rfl rfl ?_
              refine ww_dup dX11_feed_105 rfl ?_
              refine ww_get 2 dX11_feed_106 hMq.K0 rfl (by decide) inX11 wg_1242 hq1 ?_
              refine ww_iconst (v := nI 1) dX11_feed_109 (by decide) ?_
              refine ww_iaddN dX11_feed_110 ?_
              refine ww_pfI tyX11 2 dX11_feed_111 hMq.K0 rfl (by decide) inX11 tyX11_ok nmX11 wg_1242 rfl rfl ?_
              refine ww_incN (c := 1) (lv2 := [.ref m, .int a, .int b, .int c, .int d, .int e, .int (nI (k + 1)), .int e]) dX11_feed_114 rfl rfl rfl (by decide) rfl ?_
              refine ww_goto (tgt := 23) dX11_feed_117 (by decide) ?_
              refine ww_fg (lv2 := [.ref m, .int a, .int b, .int c, .int d, .int e, .int (nI (k + 1)), UU]) ⟨Or.inr rfl, Or.inr rfl, Or.inr rfl, Or.inr rfl, Or.inr rfl, Or.inr rfl, Or.inr rfl, Or.inl rfl, trivial⟩ ?_
              refine ih (k + 1) _ ((hMq.sI).sF (by decide)) (by omega) ((hS0.sI rfl).sF ⟨rfl, rfl⟩) (by first | exact hp_F_nj (by decide) hq0 | exact hp_F_nj (by decide) (by exact hq0)) (hp_F_eq _ _ _ _) ?_
              exact (hp_I_eq _ _ _).trans (fdF_s tf tp (xsF a b c d e) k)
            · refine ww_iload dX11_feed_69 rfl ?_
              refine ww_goto (tgt := 76) dX11_feed_71 (by decide) ?_
              refine ww_sti (lv2 := [.ref m, .int a, .int b, .int c, .int d, .int e, .int (nI k), .int d]) dX11_feed_76 rfl (by decide) rfl ?_
              refine ww_aload_n dX11_feed_78 rfl rfl ?_
              refine ww_get 9 dX11_feed_79 hMq.K0 rfl (by decide) inX11 wg_1249 hMq.F2 ?_
              refine ww_aload_n dX11_feed_82 rfl rfl ?_
              refine ww_get 2 dX11_feed_83 hMq.K0 rfl (by decide) inX11 wg_1242 hq1 ?_
              refine ww_iload dX11_feed_86 rfl ?_
              refine ww_bipush (v := nI 24) dX11_feed_88 (by decide) ?_
              refine ww_bipush (v := nI 8) dX11_feed_90 (by decide) ?_
              refine ww_iload dX11_feed_92 rfl ?_
              refine ww_iconst (v := nI 4) dX11_feed_94 (by decide) ?_
              refine ww_iremN dX11_feed_95 (by omega) (by omega) (by omega) ?_
              refine ww_imulN dX11_feed_96 ?_
              refine ww_isubN dX11_feed_97 (by omega) ?_
              refine ww_ishr dX11_feed_98 ?_
              refine ww_sipush (v := nI 255) dX11_feed_99 (by decide) ?_
              refine ww_iand dX11_feed_102 ?_
              have hx9 : (xsF a b c d e) (k / 4) = d := by unfold xsF; rw [if_neg (by omega), if_neg (by omega), if_neg (by omega), if_pos (by omega)]
              refine ww_sk (st2 := [.int (byF ((xsF a b c d e) (k / 4)) (k % 4)), .int (nI (tp + k)), .ref (m + 2)]) (by rw [hx9, by_s _ _ (24 - 8 * (k % 4)) (sh_ok k) (by omega)]; rfl) ?_
              refine ww_iastF dX11_feed_103 hMq.K2 hq2 (by omega) (by omega) ?_
              refine ww_aload_n dX11_feed_104 rfl rfl ?_
              refine ww_dup dX11_feed_105 rfl ?_
              refine ww_get 2 dX11_feed_106 hMq.K0 rfl (by decide) inX11 wg_1242 hq1 ?_
              refine ww_iconst (v := nI 1) dX11_feed_109 (by decide) ?_
              refine ww_iaddN dX11_feed_110 ?_
              refine ww_pfI tyX11 2 dX11_feed_111 hMq.K0 rfl (by decide) inX11 tyX11_ok nmX11 wg_1242 rfl rfl ?_
              refine ww_incN (c := 1) (lv2 := [.ref m, .int a, .int b, .int c, .int d, .int e, .int (nI (k + 1)), .int d]) dX11_feed_114 rfl rfl rfl (by decide) rfl ?_
              refine ww_goto (tgt := 23) dX11_feed_117 (by decide) ?_
              refine ww_fg (lv2 := [.ref m, .int a, .int b, .int c, .int d, .int e, .int (nI (k + 1)), UU]) ⟨Or.inr rfl, Or.inr rfl, Or.inr rfl, Or.inr rfl, Or.inr rfl, Or.inr rfl, Or.inr rfl, Or.inl rfl, trivial⟩ ?_
              refine ih (k + 1) _ ((hMq.sI).sF (by decide)) (by omega) ((hS0.sI rfl).sF ⟨rfl, rfl⟩) (by first | exact hp_F_nj (by decide) hq0 | exact hp_F_nj (by decide) (by exact hq0)) (hp_F_eq _ _ _ _) ?_
              exact (hp_I_eq _ _ _).trans (fdF_s tf tp (xsF a b c d e) k)
          · refine ww_iload_n dX11_feed_58 rfl rfl ?_
            refine ww_goto (tgt := 76) dX11_feed_59 (by decide) ?_
            refine ww_sti (lv2 := [.ref m, .int a, .int b, .int c, .int d, .int e, .int (nI k), .int c]) dX11_feed_76 rfl (by decide) rfl ?_
            refine ww_aload_n dX11_feed_78 rfl rfl ?_
            refine ww_get 9 dX11_feed_79 hMq.K0 rfl (by decide) inX11 wg_1249 hMq.F2 ?_
            refine ww_aload_n dX11_feed_82 rfl rfl ?_
            refine ww_get 2 dX11_feed_83 hMq.K0 rfl (by decide) inX11 wg_1242 hq1 ?_
            refine ww_iload dX11_feed_86 rfl ?_
            refine ww_bipush (v := nI 24) dX11_feed_88 (by decide) ?_
            refine ww_bipush (v := nI 8) dX11_feed_90 (by decide) ?_
            refine ww_iload dX11_feed_92 rfl ?_
            refine ww_iconst (v := nI 4) dX11_feed_94 (by decide) ?_
            refine ww_iremN dX11_feed_95 (by omega) (by omega) (by omega) ?_
            refine ww_imulN dX11_feed_96 ?_
            refine ww_isubN dX11_feed_97 (by omega) ?_
            refine ww_ishr dX11_feed_98 ?_
            refine ww_sipush (v := nI 255) dX11_feed_99 (by decide) ?_
            refine ww_iand dX11_feed_102 ?_
            have hx9 : (xsF a b c d e) (k / 4) = c := by unfold xsF; rw [if_neg (by omega), if_neg (by omega), if_pos (by omega)]
            refine ww_sk (st2 := [.int (byF ((xsF a b c d e) (k / 4)) (k % 4)), .int (nI (tp + k)), .ref (m + 2)]) (by rw [hx9, by_s _ _ (24 - 8 * (k % 4)) (sh_ok k) (by omega)]; rfl) ?_
            refine ww_iastF dX11_feed_103 hMq.K2 hq2 (by omega) (by omega) ?_
            refine ww_aload_n dX11_feed_104 rfl rfl ?_
            refine ww_dup dX11_feed_105 rfl ?_
            refine ww_get 2 dX11_feed_106 hMq.K0 rfl (by decide) inX11 wg_1242 hq1 ?_
            refine ww_iconst (v := nI 1) dX11_feed_109 (by decide) ?_
            refine ww_iaddN dX11_feed_110 ?_
            refine ww_pfI tyX11 2 dX11_feed_111 hMq.K0 rfl (by decide) inX11 tyX11_ok nmX11 wg_1242 rfl rfl ?_
            refine ww_incN (c := 1) (lv2 := [.ref m, .int a, .int b, .int c, .int d, .int e, .int (nI (k + 1)), .int c]) dX11_feed_114 rfl rfl rfl (by decide) rfl ?_
            refine ww_goto (tgt := 23) dX11_feed_117 (by decide) ?_
            refine ww_fg (lv2 := [.ref m, .int a, .int b, .int c, .int d, .int e, .int (nI (k + 1)), UU]) ⟨Or.inr rfl, Or.inr rfl, Or.inr rfl, Or.inr rfl, Or.inr rfl, Or.inr rfl, Or.inr rfl, Or.inl rfl, trivial⟩ ?_
            refine ih (k + 1) _ ((hMq.sI).sF (by decide)) (by omega) ((hS0.sI rfl).sF ⟨rfl, rfl⟩) (by first | exact hp_F_nj (by decide) hq0 | exact hp_F_nj (by decide) (by exact hq0)) (hp_F_eq _ _ _ _) ?_
            exact (hp_I_eq _ _ _).trans (fdF_s tf tp (xsF a b c d e) k)
        · refine ww_iload_n dX11_feed_47 rfl rfl ?_
          refine ww_goto (tgt := 76) dX11_feed_48 (by decide) ?_
          refine ww_sti (lv2 := [.ref m, .int a, .int b, .int c, .int d, .int e, .int (nI k), .int b]) dX11_feed_76 rfl (by decide) rfl ?_
          refine ww_aload_n dX11_feed_78 rfl rfl ?_
          refine ww_get 9 dX11_feed_79 hMq.K0 rfl (by decide) inX11 wg_1249 hMq.F2 ?_
          refine ww_aload_n dX11_feed_82 rfl rfl ?_
          refine ww_get 2 dX11_feed_83 hMq.K0 rfl (by decide) inX11 wg_1242 hq1 ?_
          refine ww_iload dX11_feed_86 rfl ?_
          refine ww_bipush (v := nI 24) dX11_feed_88 (by decide) ?_
          refine ww_bipush (v := nI 8) dX11_feed_90 (by decide) ?_
          refine ww_iload dX11_feed_92 rfl ?_
          refine ww_iconst (v := nI 4) dX11_feed_94 (by decide) ?_
          refine ww_iremN dX11_feed_95 (by omega) (by omega) (by omega) ?_
          refine ww_imulN dX11_feed_96 ?_
          refine ww_isubN dX11_feed_97 (by omega) ?_
          refine ww_ishr dX11_feed_98 ?_
          refine ww_sipush (v := nI 255) dX11_feed_99 (by decide) ?_
          refine ww_iand dX11_feed_102 ?_
          have hx9 : (xsF a b c d e) (k / 4) = b := by unfold xsF; rw [if_neg (by omega), if_pos (by omega)]
          refine ww_sk (st2 := [.int (byF ((xsF a b c d e) (k / 4)) (k % 4)), .int (nI (tp + k)), .ref (m + 2)]) (by rw [hx9, by_s _ _ (24 - 8 * (k % 4)) (sh_ok k) (by omega)]; rfl) ?_
          refine ww_iastF dX11_feed_103 hMq.K2 hq2 (by omega) (by omega) ?_
          refine ww_aload_n dX11_feed_104 rfl rfl ?_
          refine ww_dup dX11_feed_105 rfl ?_
          refine ww_get 2 dX11_feed_106 hMq.K0 rfl (by decide) inX11 wg_1242 hq1 ?_
          refine ww_iconst (v := nI 1) dX11_feed_109 (by decide) ?_
          refine ww_iaddN dX11_feed_110 ?_
          refine ww_pfI tyX11 2 dX11_feed_111 hMq.K0 rfl (by decide) inX11 tyX11_ok nmX11 wg_1242 rfl rfl ?_
          refine ww_incN (c := 1) (lv2 := [.ref m, .int a, .int b, .int c, .int d, .int e, .int (nI (k + 1)), .int b]) dX11_feed_114 rfl rfl rfl (by decide) rfl ?_
          refine ww_goto (tgt := 23) dX11_feed_117 (by decide) ?_
          refine ww_fg (lv2 := [.ref m, .int a, .int b, .int c, .int d, .int e, .int (nI (k + 1)), UU]) ⟨Or.inr rfl, Or.inr rfl, Or.inr rfl, Or.inr rfl, Or.inr rfl, Or.inr rfl, Or.inr rfl, Or.inl rfl, trivial⟩ ?_
          refine ih (k + 1) _ ((hMq.sI).sF (by decide)) (by omega) ((hS0.sI rfl).sF ⟨rfl, rfl⟩) (by first | exact hp_F_nj (by decide) hq0 | exact hp_F_nj (by decide) (by exact hq0)) (hp_F_eq _ _ _ _) ?_
          exact (hp_I_eq _ _ _).trans (fdF_s tf tp (xsF a b c d e) k)
      · refine ww_iload_n dX11_feed_36 rfl rfl ?_
        refine ww_goto (tgt := 76) dX11_feed_37 (by decide) ?_
        refine ww_sti (lv2 := [.ref m, .int a, .int b, .int c, .int d, .int e, .int (nI k), .int a]) dX11_feed_76 rfl (by decide) rfl ?_
        refine ww_aload_n dX11_feed_78 rfl rfl ?_
        refine ww_get 9 dX11_feed_79 hMq.K0 rfl (by decide) inX11 wg_1249 hMq.F2 ?_
        refine ww_aload_n dX11_feed_82 rfl rfl ?_
        refine ww_get 2 dX11_feed_83 hMq.K0 rfl (by decide) inX11 wg_1242 hq1 ?_
        refine ww_iload dX11_feed_86 rfl ?_
        refine ww_bipush (v := nI 24) dX11_feed_88 (by decide) ?_
        refine ww_bipush (v := nI 8) dX11_feed_90 (by decide) ?_
        refine ww_iload dX11_feed_92 rfl ?_
        refine ww_iconst (v := nI 4) dX11_feed_94 (by decide) ?_
        refine ww_iremN dX11_feed_95 (by omega) (by omega) (by omega) ?_
        refine ww_imulN dX11_feed_96 ?_
        refine ww_isubN dX11_feed_97 (by omega) ?_
        refine ww_ishr dX11_feed_98 ?_
        refine ww_sipush (v := nI 255) dX11_feed_99 (by decide) ?_
        refine ww_iand dX11_feed_102 ?_
        have hx9 : (xsF a b c d e) (k / 4) = a := by unfold xsF; rw [if_pos (by omega)]
        refine ww_sk (st2 := [.int (byF ((xsF a b c d e) (k / 4)) (k % 4)), .int (nI (tp + k)), .ref (m + 2)]) (by rw [hx9, by_s _ _ (24 - 8 * (k % 4)) (sh_ok k) (by omega)]; rfl) ?_
        refine ww_iastF dX11_feed_103 hMq.K2 hq2 (by omega) (by omega) ?_
        refine ww_aload_n dX11_feed_104 rfl rfl ?_
        refine ww_dup dX11_feed_105 rfl ?_
        refine ww_get 2 dX11_feed_106 hMq.K0 rfl (by decide) inX11 wg_1242 hq1 ?_
        refine ww_iconst (v := nI 1) dX11_feed_109 (by decide) ?_
        refine ww_iaddN dX11_feed_110 ?_
        refine ww_pfI tyX11 2 dX11_feed_111 hMq.K0 rfl (by decide) inX11 tyX11_ok nmX11 wg_1242 rfl rfl ?_
        refine ww_incN (c := 1) (lv2 := [.ref m, .int a, .int b, .int c, .int d, .int e, .int (nI (k + 1)), .int a]) dX11_feed_114 rfl rfl rfl (by decide) rfl ?_
        refine ww_goto (tgt := 23) dX11_feed_117 (by decide) ?_
        refine ww_fg (lv2 := [.ref m, .int a, .int b, .int c, .int d, .int e, .int (nI (k + 1)), UU]) ⟨Or.inr rfl, Or.inr rfl, Or.inr rfl, Or.inr rfl, Or.inr rfl, Or.inr rfl, Or.inr rfl, Or.inl rfl, trivial⟩ ?_
        refine ih (k + 1) _ ((hMq.sI).sF (by decide)) (by omega) ((hS0.sI rfl).sF ⟨rfl, rfl⟩) (by first | exact hp_F_nj (by decide) hq0 | exact hp_F_nj (by decide) (by exact hq0)) (hp_F_eq _ _ _ _) ?_
        exact (hp_I_eq _ _ _).trans (fdF_s tf tp (xsF a b c d e) k)
set_option maxHeartbeats 4000000 in
set_option maxRecDepth 100000 in
theorem c_M_feed {l : Launch} {Z : EE} (hst : l.stackTraces = false) {h : PH} {m : Nat} (hM : ModS h m) {tf : Nat → Int32} {tp : Nat} (htp : hp_F h m 2 = .int (nI tp)) (htf : hp_I h (m + 2) = tf) (ht : tp + 20 ≤ 600) (a b c d e : Int32) : CC l Z m_X11_feed 0 0 0 [.ref m, .int a, .int b, .int c, .int d, .int e] h (RQ (some (.int (nI (tp + 20)))) (fun h9 => Same (fun c => c = m + 2) (fun a i => a = m ∧ (i = 0 ∨ i = 2)) h h9 ∧ hp_F h9 m 0 = .int (nI 0) ∧ hp_F h9 m 2 = .int (nI (tp + 20)) ∧ hp_I h9 (m + 2) = fdF tf tp (xsF a b c d e) 20)) := by
  refine ee_entry hst (by decide +kernel) rfl rfl (by simp [Value.category]) (Nat.le_of_ble_eq_true rfl) ?_
  refine ww_lv (lv2 := [.ref m, .int a, .int b, .int c, .int d, .int e, UU, UU]) rfl ?_
  refine ww_aload_n dX11_feed_0 rfl rfl ?_
  refine ww_iconst (v := nI 0) dX11_feed_1 (by decide) ?_
  refine ww_pfI tyX11 0 dX11_feed_2 hM.K0 rfl (by decide) inX11 tyX11_ok nmX11 wg_1240 rfl rfl ?_
  refine ww_aload_n dX11_feed_5 rfl rfl ?_
  refine ww_get 2 dX11_feed_6 hM.K0 rfl (by decide) inX11 wg_1242 (hp_F_nj (by decide) htp) ?_
  refine ww_bipush (v := nI 20) dX11_feed_9 (by decide) ?_
  refine ww_iaddN dX11_feed_11 ?_
  refine ww_sipush (v := nI 600) dX11_feed_12 (by decide) ?_
  refine ww_icmp_leN (tgt := 20) dX11_feed_15 (by decide) (by omega) (by omega) (fun c15 => ?_) (fun c15 => ?_)
  · refine ww_iconst (v := nI 0) dX11_feed_20 (by decide) ?_
    refine ww_sti (lv2 := [.ref m, .int a, .int b, .int c, .int d, .int e, .int (nI 0), UU]) dX11_feed_21 rfl (by decide) rfl ?_
    refine ww_post (fun r h9 hp => ⟨hp.1, (Same.sF Same.rf ⟨rfl, Or.inl rfl⟩).tr (hp.2.1.mono (fun _ e => e) (fun _ _ e => ⟨e.1, Or.inr e.2⟩)), hp.2.2⟩) (l_M_feed (tf := tf) hst ht a b c d e 20 0 (hp_sF h m 0 (.int (nI 0))) (hM.sF (by decide)) rfl Same.rf (hp_F_eq _ _ _ _) (hp_F_nj (by decide) htp) (by rw [fdF_0]; exact htf))
  · exfalso; omega
set_option maxHeartbeats 4000000 in
set_option maxRecDepth 100000 in
theorem c_M_feed_no {l : Launch} {Z : EE} (hst : l.stackTraces = false) {h : PH} {m : Nat} (hM : ModS h m) {tf : Nat → Int32} {tp : Nat} (htp : hp_F h m 2 = .int (nI tp)) (htf : hp_I h (m + 2) = tf) (ht : ¬ tp + 20 ≤ 600) (h6 : tp ≤ 600) (a b c d e : Int32) : CC l Z m_X11_feed 0 0 0 [.ref m, .int a, .int b, .int c, .int d, .int e] h (RQ (some (.int (-1))) (fun h9 => h9 = hp_sF h m 0 (.int (nI 0)))) := by
  refine ee_entry hst (by decide +kernel) rfl rfl (by simp [Value.category]) (Nat.le_of_ble_eq_true rfl) ?_
  refine ww_lv (lv2 := [.ref m, .int a, .int b, .int c, .int d, .int e, UU, UU]) rfl ?_
  refine ww_aload_n dX11_feed_0 rfl rfl ?_
  refine ww_iconst (v := nI 0) dX11_feed_1 (by decide) ?_
  refine ww_pfI tyX11 0 dX11_feed_2 hM.K0 rfl (by decide) inX11 tyX11_ok nmX11 wg_1240 rfl rfl ?_
  refine ww_aload_n dX11_feed_5 rfl rfl ?_
  refine ww_get 2 dX11_feed_6 hM.K0 rfl (by decide) inX11 wg_1242 (hp_F_nj (by decide) htp) ?_
  refine ww_bipush (v := nI 20) dX11_feed_9 (by decide) ?_
  refine ww_iaddN dX11_feed_11 ?_
  refine ww_sipush (v := nI 600) dX11_feed_12 (by decide) ?_
  refine ww_icmp_leN (tgt := 20) dX11_feed_15 (by decide) (by omega) (by omega) (fun c15 => ?_) (fun c15 => ?_)
  · exfalso; omega
  · refine ww_iconst (v := -1) dX11_feed_18 (by decide) ?_
    exact ww_iret dX11_feed_19 rfl ⟨rfl, rfl⟩
