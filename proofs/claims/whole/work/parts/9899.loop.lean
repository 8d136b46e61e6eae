/-- what every step keeps: S j = ahead of a step, j steps may still come; G j = behind it -/
def OpsOK (l : Launch) (Z : EE) (d mc ms : Nat) (S G : Nat → PH → Prop) : Prop :=
  (∀ (j : Nat) (p1 p2 p3 p4 p5 : Int32) (h : PH), S (j + 1) h → StD l Z m_X10_feed m_X11_feed d mc ms [.int p1, .int p2, .int p3, .int p4, .int p5] (G j) h) ∧
  (∀ (j : Nat) (p1 : Int32) (h : PH), S (j + 1) h → StW l Z m_L_land m_X11_land d mc ms [.int p1] (G j) h) ∧
  (∀ (j : Nat) (p1 : Int32) (h : PH), S (j + 1) h → StW l Z m_L_law m_X11_law d mc ms [.int p1] (G j) h) ∧
  (∀ (j : Nat) (p1 : Int32) (h : PH), S (j + 1) h → StW l Z m_L_work m_X11_work d mc ms [.int p1] (G j) h) ∧
  (∀ (j : Nat) (p1 : Int32) (h : PH), S (j + 1) h → StW l Z m_L_book m_X11_book d mc ms [.int p1] (G j) h) ∧
  (∀ (j : Nat) (h : PH), S (j + 1) h → StD l Z m_X10_fault m_X11_fault d mc ms [] (G j) h) ∧
  (∀ (j : Nat) (h : PH), S (j + 1) h → StD l Z m_X10_undo m_X11_undo d mc ms [] (G j) h) ∧
  (∀ (j : Nat) (p1 : Int32) (h : PH), S (j + 1) h → StW l Z m_L_told m_X11_told d mc ms [.int p1] (G j) h) ∧
  (∀ (j : Nat) (p1 p2 : Int32) (h : PH), S (j + 1) h → StW l Z m_L_person m_X11_person d mc ms [.int p1, .int p2] (G j) h) ∧
  (∀ (j : Nat) (p1 p2 : Int32) (h : PH), S (j + 1) h → StW l Z m_L_number m_X11_number d mc ms [.int p1, .int p2] (G j) h) ∧
  (∀ (j : Nat) (p1 p2 : Int32) (h : PH), S (j + 1) h → StW l Z m_L_fare m_X11_fare d mc ms [.int p1, .int p2] (G j) h) ∧
  (∀ (j : Nat) (p1 p2 p3 p4 p5 p6 : Int32) (h : PH), S (j + 1) h → StW l Z m_L_would m_X11_would d mc ms [.int p1, .int p2, .int p3, .int p4, .int p5, .int p6] (G j) h) ∧
  (∀ (j : Nat) (p1 : Int32) (h : PH), S (j + 1) h → StW l Z m_L_cost m_X11_cost d mc ms [.int p1] (G j) h) ∧
  (∀ (j : Nat) (p1 p2 : Int32) (h : PH), S (j + 1) h → StW l Z m_L_saying m_X11_saying d mc ms [.int p1, .int p2] (G j) h) ∧
  (∀ (j : Nat) (p1 : Int32) (h : PH), S (j + 1) h → StW l Z m_L_leaves m_X11_leaves d mc ms [.int p1] (G j) h) ∧
  (∀ (j : Nat) (p1 : Int32) (h : PH), S (j + 1) h → StW l Z m_L_out m_X11_out d mc ms [.int p1] (G j) h) ∧
  (∀ (j : Nat) (p1 p2 p3 : Int32) (h : PH), S (j + 1) h → StW l Z m_L_round m_X11_round d mc ms [.int p1, .int p2, .int p3] (G j) h) ∧
  (∀ (j : Nat) (p1 p2 : Int32) (h : PH), S (j + 1) h → StW l Z m_L_buy m_X11_buy d mc ms [.int p1, .int p2] (G j) h) ∧
  (∀ (j : Nat) (p1 p2 p3 : Int32) (h : PH), S (j + 1) h → StW l Z m_L_meant m_X11_meant d mc ms [.int p1, .int p2, .int p3] (G j) h) ∧
  (∀ (j : Nat) (p1 p2 p3 : Int32) (h : PH), S (j + 1) h → StW l Z m_L_look m_X11_look d mc ms [.int p1, .int p2, .int p3] (G j) h) ∧
  (∀ (j : Nat) (p1 p2 : Int32) (h : PH), S (j + 1) h → StW l Z m_L_dice m_X11_dice d mc ms [.int p1, .int p2] (G j) h) ∧
  (∀ (j : Nat) (p1 p2 : Int32) (h : PH), S (j + 1) h → StW l Z m_L_lets m_X11_lets d mc ms [.int p1, .int p2] (G j) h) ∧
  (∀ (j : Nat) (p1 p2 : Int32) (h : PH), S (j + 1) h → StW l Z m_L_tax m_X11_tax d mc ms [.int p1, .int p2] (G j) h) ∧
  (∀ (j : Nat) (p1 p2 p3 : Int32) (h : PH), S (j + 1) h → StW l Z m_L_dearest m_X11_dearest d mc ms [.int p1, .int p2, .int p3] (G j) h) ∧
  (∀ (j : Nat) (p1 : Int32) (h : PH), S (j + 1) h → StW l Z m_L_landlord m_X11_landlord d mc ms [.int p1] (G j) h) ∧
  (∀ (j : Nat) (p1 : Int32) (h : PH), S (j + 1) h → StW l Z m_L_common m_X11_common d mc ms [.int p1] (G j) h) ∧
  (∀ (j : Nat) (p1 p2 p3 : Int32) (h : PH), S (j + 1) h → StW l Z m_L_affords m_X11_affords d mc ms [.int p1, .int p2, .int p3] (G j) h) ∧
  (∀ (j : Nat) (p1 : Int32) (h : PH), S (j + 1) h → StW l Z m_L_worth m_X11_worth d mc ms [.int p1] (G j) h) ∧
  (∀ (j : Nat) (p1 p2 : Int32) (h : PH), S (j + 1) h → StW l Z m_L_run m_X11_run d mc ms [.int p1, .int p2] (G j) h) ∧
  (∀ (j : Nat) (p1 p2 : Int32) (h : PH), S (j + 1) h → StW l Z m_L_cheapest m_X11_cheapest d mc ms [.int p1, .int p2] (G j) h) ∧
  (∀ (j : Nat) (p1 : Int32) (h : PH), S (j + 1) h → StW l Z m_L_primes m_X11_primes d mc ms [.int p1] (G j) h) ∧
  (∀ (j : Nat) (p1 : Int32) (h : PH), S (j + 1) h → StW l Z m_L_poorest m_X11_poorest d mc ms [.int p1] (G j) h) ∧
  (∀ (j : Nat) (p1 p2 : Int32) (h : PH), S (j + 1) h → StW l Z m_L_sayable m_X11_sayable d mc ms [.int p1, .int p2] (G j) h) ∧
  (∀ (j : Nat) (p1 p2 p3 : Int32) (h : PH), S (j + 1) h → StW l Z m_L_year m_X11_year d mc ms [.int p1, .int p2, .int p3] (G j) h) ∧
  (∀ (j : Nat) (p1 p2 p3 p4 : Int32) (h : PH), S (j + 1) h → StW l Z m_L_span m_X11_span d mc ms [.int p1, .int p2, .int p3, .int p4] (G j) h) ∧
  (∀ (j : Nat) (h : PH), S (j + 1) h → StD l Z m_X10_image m_X11_image d mc ms [] (G j) h) ∧
  (∀ (j : Nat) (h : PH), S (j + 1) h → StD l Z m_X10_restore m_X11_restore d mc ms [] (G j) h) ∧
  (∀ (j : Nat) (p1 : Int32) (h : PH), S (j + 1) h → StD l Z m_X10_status m_X11_status d mc ms [.int p1] (G j) h) ∧
  (∀ (j : Nat) (p1 : Int32) (h : PH), S (j + 1) h → StD l Z m_X10_count m_X11_count d mc ms [.int p1] (G j) h)
theorem sc_and (x : Int32) : ∃ k : Nat, k < 64 ∧ x &&& nI 63 = nI k := by
  refine ⟨(x &&& nI 63).toBitVec.toNat, ?_, ?_⟩
  · have e : (x &&& nI 63).toBitVec = x.toBitVec &&& 63#32 := rfl
    rw [e, BitVec.toNat_and]
    exact Nat.lt_of_le_of_lt Nat.and_le_right (by decide)
  · apply Int32.toBitVec_inj.mp
    show _ = BitVec.ofNat 32 _
    rw [BitVec.ofNat_toNat]
    simp
theorem sc_lt {L i : Nat} (hL : L ≤ 3584) (hi : 7 * i ≤ L + 7) : (nI L - nI 7 < nI (7 * i)) ↔ L < 7 * i + 7 := by
  rw [Int32.lt_iff_toInt_lt, Int32.toInt_sub, nI_toInt (by omega), nI_toInt (by omega), nI_toInt (by omega)]
  simp only [Int.bmod]
  split <;> omega
set_option maxHeartbeats 4000000 in
set_option maxRecDepth 100000 in
theorem lw_loop {l : Launch} {Z : EE} (hst : l.stackTraces = false) {nm : String} (hL : Z.2.2 301 ≤ 3584) {S G : Nat → PH → Prop} {d mc ms D : Nat} (hD : d + 1 ≤ D) (hG0 : ∀ j h, S j h → hp_K h 0 = (10, 19)) (hGm : ∀ j h, S (j + 1) h → S j h) (hGS : ∀ j h, G j h → ∃ h3, hqE h h3 ∧ S j h3) (hO : OpsOK l Z d mc ms S G) : ∀ (j i : Nat) (h : PH), 7 * i ≤ Z.2.2 301 + 7 → Z.2.2 301 < 7 * (i + j) + 7 → S j h → WW l Z (mLaw nm) D (mc * j) (ms * j) 23 [.ref (1000000 + 300), .ref 0, .ref 46, .ref 72, .int (nI (7 * i)), UU, UU] [] h (fun r _ => r = .inl (some (.int (nI 1)))) := by
  intro j
  induction j with
  | zero =>
    intro i h hi hj hg
    refine ww_iload dL_law__23 rfl ?_
    refine ww_aload_n dL_law__25 rfl rfl ?_
    refine ww_slen dL_law__26 ?_
    refine ww_bipush (v := nI 7) dL_law__27 (by decide) ?_
    refine ww_isub dL_law__29 ?_
    refine ww_icmp_gt (tgt := 2559) dL_law__30 (by decide) (fun _ => ?_) (fun q => absurd ((sc_lt hL hi).mpr (by omega)) q)
    refine ww_iconst (v := nI 1) dL_law__2559 (by decide) ?_
    exact ww_zret dL_law__2560 rfl (by decide) rfl
  | succ j ih =>
    intro i h hi hj hg
    refine ww_iload dL_law__23 rfl ?_
    refine ww_aload_n dL_law__25 rfl rfl ?_
    refine ww_slen dL_law__26 ?_
    refine ww_bipush (v := nI 7) dL_law__27 (by decide) ?_
    refine ww_isub dL_law__29 ?_
    refine ww_icmp_gt (tgt := 2559) dL_law__30 (by decide) (fun _ => ?_) (fun q => ?_)
    · refine ww_iconst (v := nI 1) dL_law__2559 (by decide) ?_
      exact ww_zret dL_law__2560 rfl (by decide) rfl
    · have hi7 : 7 * i + 7 ≤ Z.2.2 301 := by
        rcases Nat.lt_or_ge (Z.2.2 301) (7 * i + 7) with w | w
        · exact absurd ((sc_lt hL hi).mpr w) q
        · exact w
      have kk0 : ∀ h2, S j h2 → WW l Z (mLaw nm) D (mc * j) (ms * j) 2553 [.ref (1000000 + 300), .ref 0, .ref 46, .ref 72, .int (nI (7 * i)), UU, UU] [] h2 (fun r _ => r = .inl (some (.int (nI 1)))) := by
        intro h2 g2
        refine ww_incN (c := 7) (lv2 := [.ref (1000000 + 300), .ref 0, .ref 46, .ref 72, .int (nI (7 * (i + 1))), UU, UU]) dL_law__2553 rfl rfl rfl (Nat.le_of_ble_eq_true rfl) rfl ?_
        refine ww_goto (tgt := 23) dL_law__2556 (by decide) ?_
        exact ih (i + 1) h2 (by omega) (by omega) g2
      have kk : ∀ h2, G j h2 → WW l Z (mLaw nm) D (mc * j) (ms * j) 2553 [.ref (1000000 + 300), .ref 0, .ref 46, .ref 72, .int (nI (7 * i)), UU, UU] [] h2 (fun r _ => r = .inl (some (.int (nI 1)))) := by
        intro h2 g2
        obtain ⟨h3, e3, g3⟩ := hGS j h2 g2
        exact ww_heq e3 (kk0 h3 g3)
      refine ww_aload_n dL_law__33 rfl rfl ?_
      refine ww_iload dL_law__34 rfl ?_
      refine ww_sald dL_law__36 (by omega) (by omega) (by omega) ?_
      refine ww_bipush (v := nI 63) dL_law__37 (by decide) ?_
      refine ww_iand dL_law__39 ?_
      obtain ⟨k, hk, ek⟩ := sc_and (scI Z (7 * i))
      rw [ek]
      have h0 := hG0 _ h hg
      obtain ⟨o0, o1, o2, o3, o4, o5, o6, o7, o8, o9, o10, o11, o12, o13, o14, o15, o16, o17, o18, o19, o20, o21, o22, o23, o24, o25, o26, o27, o28, o29, o30, o31, o32, o33, o34, o35, o36, o37, o38⟩ := hO
      by_cases hk38 : k ≤ 38
      · have hc : k = 0 ∨ k = 1 ∨ k = 2 ∨ k = 3 ∨ k = 4 ∨ k = 5 ∨ k = 6 ∨ k = 7 ∨ k = 8 ∨ k = 9 ∨ k = 10 ∨ k = 11 ∨ k = 12 ∨ k = 13 ∨ k = 14 ∨ k = 15 ∨ k = 16 ∨ k = 17 ∨ k = 18 ∨ k = 19 ∨ k = 20 ∨ k = 21 ∨ k = 22 ∨ k = 23 ∨ k = 24 ∨ k = 25 ∨ k = 26 ∨ k = 27 ∨ k = 28 ∨ k = 29 ∨ k = 30 ∨ k = 31 ∨ k = 32 ∨ k = 33 ∨ k = 34 ∨ k = 35 ∨ k = 36 ∨ k = 37 ∨ k = 38 := by omega
        clear hk hk38 ek
        rcases hc with rfl | rfl | rfl | rfl | rfl | rfl | rfl | rfl | rfl | rfl | rfl | rfl | rfl | rfl | rfl | rfl | rfl | rfl | rfl | rfl | rfl | rfl | rfl | rfl | rfl | rfl | rfl | rfl | rfl | rfl | rfl | rfl | rfl | rfl | rfl | rfl | rfl | rfl | rfl
        · refine ww_tableIn (off := 172) (tgt := 212) dL_law__40 (by decide) (by decide) (by decide) (by decide) ?_
          exact s_0 hst hi7 hL h0 hD (o0 j (scI Z (7 * i + 1)) (scI Z (7 * i + 2)) (scI Z (7 * i + 3)) (scI Z (7 * i + 4)) (scI Z (7 * i + 5)) h hg) kk
        · refine ww_tableIn (off := 245) (tgt := 285) dL_law__40 (by decide) (by decide) (by decide) (by decide) ?_
          exact s_1 hst hi7 hL h0 hD (o1 j (scI Z (7 * i + 1)) h hg) kk
        · refine ww_tableIn (off := 301) (tgt := 341) dL_law__40 (by decide) (by decide) (by decide) (by decide) ?_
          exact s_2 hst hi7 hL h0 hD (o2 j (scI Z (7 * i + 1)) h hg) kk
        · refine ww_tableIn (off := 357) (tgt := 397) dL_law__40 (by decide) (by decide) (by decide) (by decide) ?_
          exact s_3 hst hi7 hL h0 hD (o3 j (scI Z (7 * i + 1)) h hg) kk
        · refine ww_tableIn (off := 413) (tgt := 453) dL_law__40 (by decide) (by decide) (by decide) (by decide) ?_
          exact s_4 hst hi7 hL h0 hD (o4 j (scI Z (7 * i + 1)) h hg) kk
        · refine ww_tableIn (off := 469) (tgt := 509) dL_law__40 (by decide) (by decide) (by decide) (by decide) ?_
          exact s_5 hst hi7 hL h0 hD (o5 j h hg) kk
        · refine ww_tableIn (off := 482) (tgt := 522) dL_law__40 (by decide) (by decide) (by decide) (by decide) ?_
          exact s_6 hst hi7 hL h0 hD (o6 j h hg) kk
        · refine ww_tableIn (off := 495) (tgt := 535) dL_law__40 (by decide) (by decide) (by decide) (by decide) ?_
          exact s_7 hst hi7 hL h0 hD (o7 j (scI Z (7 * i + 1)) h hg) kk
        · refine ww_tableIn (off := 551) (tgt := 591) dL_law__40 (by decide) (by decide) (by decide) (by decide) ?_
          exact s_8 hst hi7 hL h0 hD (o8 j (scI Z (7 * i + 1)) (scI Z (7 * i + 2)) h hg) kk
        · refine ww_tableIn (off := 619) (tgt := 659) dL_law__40 (by decide) (by decide) (by decide) (by decide) ?_
          exact s_9 hst hi7 hL h0 hD (o9 j (scI Z (7 * i + 1)) (scI Z (7 * i + 2)) h hg) kk
        · refine ww_tableIn (off := 687) (tgt := 727) dL_law__40 (by decide) (by decide) (by decide) (by decide) ?_
          exact s_10 hst hi7 hL h0 hD (o10 j (scI Z (7 * i + 1)) (scI Z (7 * i + 2)) h hg) kk
        · refine ww_tableIn (off := 755) (tgt := 795) dL_law__40 (by decide) (by decide) (by decide) (by decide) ?_
          exact s_11 hst hi7 hL h0 hD (o11 j (scI Z (7 * i + 1)) (scI Z (7 * i + 2)) (scI Z (7 * i + 3)) (scI Z (7 * i + 4)) (scI Z (7 * i + 5)) (scI Z (7 * i + 6)) h hg) kk
        · refine ww_tableIn (off := 873) (tgt := 913) dL_law__40 (by decide) (by decide) (by decide) (by decide) ?_
          exact s_12 hst hi7 hL h0 hD (o12 j (scI Z (7 * i + 1)) h hg) kk
        · refine ww_tableIn (off := 929) (tgt := 969) dL_law__40 (by decide) (by decide) (by decide) (by decide) ?_
          exact s_13 hst hi7 hL h0 hD (o13 j (scI Z (7 * i + 1)) (scI Z (7 * i + 2)) h hg) kk
        · refine ww_tableIn (off := 997) (tgt := 1037) dL_law__40 (by decide) (by decide) (by decide) (by decide) ?_
          exact s_14 hst hi7 hL h0 hD (o14 j (scI Z (7 * i + 1)) h hg) kk
        · refine ww_tableIn (off := 1053) (tgt := 1093) dL_law__40 (by decide) (by decide) (by decide) (by decide) ?_
          exact s_15 hst hi7 hL h0 hD (o15 j (scI Z (7 * i + 1)) h hg) kk
        · refine ww_tableIn (off := 1109) (tgt := 1149) dL_law__40 (by decide) (by decide) (by decide) (by decide) ?_
          exact s_16 hst hi7 hL h0 hD (o16 j (scI Z (7 * i + 1)) (scI Z (7 * i + 2)) (scI Z (7 * i + 3)) h hg) kk
        · refine ww_tableIn (off := 1189) (tgt := 1229) dL_law__40 (by decide) (by decide) (by decide) (by decide) ?_
          exact s_17 hst hi7 hL h0 hD (o17 j (scI Z (7 * i + 1)) (scI Z (7 * i + 2)) h hg) kk
        · refine ww_tableIn (off := 1257) (tgt := 1297) dL_law__40 (by decide) (by decide) (by decide) (by decide) ?_
          exact s_18 hst hi7 hL h0 hD (o18 j (scI Z (7 * i + 1)) (scI Z (7 * i + 2)) (scI Z (7 * i + 3)) h hg) kk
        · refine ww_tableIn (off := 1337) (tgt := 1377) dL_law__40 (by decide) (by decide) (by decide) (by decide) ?_
          exact s_19 hst hi7 hL h0 hD (o19 j (scI Z (7 * i + 1)) (scI Z (7 * i + 2)) (scI Z (7 * i + 3)) h hg) kk
        · refine ww_tableIn (off := 1417) (tgt := 1457) dL_law__40 (by decide) (by decide) (by decide) (by decide) ?_
          exact s_20 hst hi7 hL h0 hD (o20 j (scI Z (7 * i + 1)) (scI Z (7 * i + 2)) h hg) kk
        · refine ww_tableIn (off := 1485) (tgt := 1525) dL_law__40 (by decide) (by decide) (by decide) (by decide) ?_
          exact s_21 hst hi7 hL h0 hD (o21 j (scI Z (7 * i + 1)) (scI Z (7 * i + 2)) h hg) kk
        · refine ww_tableIn (off := 1553) (tgt := 1593) dL_law__40 (by decide) (by decide) (by decide) (by decide) ?_
          exact s_22 hst hi7 hL h0 hD (o22 j (scI Z (7 * i + 1)) (scI Z (7 * i + 2)) h hg) kk
        · refine ww_tableIn (off := 1621) (tgt := 1661) dL_law__40 (by decide) (by decide) (by decide) (by decide) ?_
          exact s_23 hst hi7 hL h0 hD (o23 j (scI Z (7 * i + 1)) (scI Z (7 * i + 2)) (scI Z (7 * i + 3)) h hg) kk
        · refine ww_tableIn (off := 1701) (tgt := 1741) dL_law__40 (by decide) (by decide) (by decide) (by decide) ?_
          exact s_24 hst hi7 hL h0 hD (o24 j (scI Z (7 * i + 1)) h hg) kk
        · refine ww_tableIn (off := 1757) (tgt := 1797) dL_law__40 (by decide) (by decide) (by decide) (by decide) ?_
          exact s_25 hst hi7 hL h0 hD (o25 j (scI Z (7 * i + 1)) h hg) kk
        · refine ww_tableIn (off := 1813) (tgt := 1853) dL_law__40 (by decide) (by decide) (by decide) (by decide) ?_
          exact s_26 hst hi7 hL h0 hD (o26 j (scI Z (7 * i + 1)) (scI Z (7 * i + 2)) (scI Z (7 * i + 3)) h hg) kk
        · refine ww_tableIn (off := 1893) (tgt := 1933) dL_law__40 (by decide) (by decide) (by decide) (by decide) ?_
          exact s_27 hst hi7 hL h0 hD (o27 j (scI Z (7 * i + 1)) h hg) kk
        · refine ww_tableIn (off := 1949) (tgt := 1989) dL_law__40 (by decide) (by decide) (by decide) (by decide) ?_
          exact s_28 hst hi7 hL h0 hD (o28 j (scI Z (7 * i + 1)) (scI Z (7 * i + 2)) h hg) kk
        · refine ww_tableIn (off := 2017) (tgt := 2057) dL_law__40 (by decide) (by decide) (by decide) (by decide) ?_
          exact s_29 hst hi7 hL h0 hD (o29 j (scI Z (7 * i + 1)) (scI Z (7 * i + 2)) h hg) kk
        · refine ww_tableIn (off := 2085) (tgt := 2125) dL_law__40 (by decide) (by decide) (by decide) (by decide) ?_
          exact s_30 hst hi7 hL h0 hD (o30 j (scI Z (7 * i + 1)) h hg) kk
        · refine ww_tableIn (off := 2141) (tgt := 2181) dL_law__40 (by decide) (by decide) (by decide) (by decide) ?_
          exact s_31 hst hi7 hL h0 hD (o31 j (scI Z (7 * i + 1)) h hg) kk
        · refine ww_tableIn (off := 2197) (tgt := 2237) dL_law__40 (by decide) (by decide) (by decide) (by decide) ?_
          exact s_32 hst hi7 hL h0 hD (o32 j (scI Z (7 * i + 1)) (scI Z (7 * i + 2)) h hg) kk
        · refine ww_tableIn (off := 2265) (tgt := 2305) dL_law__40 (by decide) (by decide) (by decide) (by decide) ?_
          exact s_33 hst hi7 hL h0 hD (o33 j (scI Z (7 * i + 1)) (scI Z (7 * i + 2)) (scI Z (7 * i + 3)) h hg) kk
        · refine ww_tableIn (off := 2345) (tgt := 2385) dL_law__40 (by decide) (by decide) (by decide) (by decide) ?_
          exact s_34 hst hi7 hL h0 hD (o34 j (scI Z (7 * i + 1)) (scI Z (7 * i + 2)) (scI Z (7 * i + 3)) (scI Z (7 * i + 4)) h hg) kk
        · refine ww_tableIn (off := 2437) (tgt := 2477) dL_law__40 (by decide) (by decide) (by decide) (by decide) ?_
          exact s_35 hst hi7 hL h0 hD (o35 j h hg) kk
        · refine ww_tableIn (off := 2450) (tgt := 2490) dL_law__40 (by decide) (by decide) (by decide) (by decide) ?_
          exact s_36 hst hi7 hL h0 hD (o36 j h hg) kk
        · refine ww_tableIn (off := 2463) (tgt := 2503) dL_law__40 (by decide) (by decide) (by decide) (by decide) ?_
          exact s_37 hst hi7 hL h0 hD (o37 j (scI Z (7 * i + 1)) h hg) kk
        · refine ww_tableIn (off := 2488) (tgt := 2528) dL_law__40 (by decide) (by decide) (by decide) (by decide) ?_
          exact s_38 hst hi7 hL h0 hD (o38 j (scI Z (7 * i + 1)) h hg) kk
      · refine ww_tableOut (tgt := 2553) dL_law__40 (Or.inr (by rw [nI_toInt (by omega)]; omega)) (by decide) ?_
        exact ww_mono (Nat.le_add_right _ _) (Nat.le_add_right _ _) (kk0 h (hGm _ _ hg))
