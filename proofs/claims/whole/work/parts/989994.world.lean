/-! ===== what the Statement gives of the start: classes, constants, texts, the script ===== -/
theorem sr_0 : Cond.stringRef "WidowSeven" 358 "outside what can be asked" ∈ lw_tbl := List.mem_of_getElem? (i := 549) (by decide +kernel)
theorem sr_1 : Cond.stringRef "WidowSeven$Land" 42 "person own duty" ∈ lw_tbl := List.mem_of_getElem? (i := 592) (by decide +kernel)
theorem sr_2 : Cond.stringRef "WidowSeven$Law" 67 "number rent way owner parts used day least most" ∈ lw_tbl := List.mem_of_getElem? (i := 726) (by decide +kernel)
theorem sr_3 : Cond.stringRef "WidowSeven$Affairs" 52 "use sell rent day again" ∈ lw_tbl := List.mem_of_getElem? (i := 753) (by decide +kernel)
theorem sr_4 : Cond.stringRef "WidowSeven" 349 "no such person" ∈ lw_tbl := List.mem_of_getElem? (i := 911) (by decide +kernel)
theorem sr_5 : Cond.stringRef "WidowSeven" 354 "no such number" ∈ lw_tbl := List.mem_of_getElem? (i := 946) (by decide +kernel)
theorem sr_6 : Cond.stringRef "WidowSevenModel" 173 "person" ∈ lw_tbl := List.mem_of_getElem? (i := 1535) (by decide +kernel)
theorem sr_7 : Cond.stringRef "WidowSevenModel" 183 "own" ∈ lw_tbl := List.mem_of_getElem? (i := 1541) (by decide +kernel)
theorem sr_8 : Cond.stringRef "WidowSevenModel" 199 "duty" ∈ lw_tbl := List.mem_of_getElem? (i := 1542) (by decide +kernel)
theorem sr_9 : Cond.stringRef "WidowSevenModel" 245 "least" ∈ lw_tbl := List.mem_of_getElem? (i := 1594) (by decide +kernel)
theorem sr_10 : Cond.stringRef "WidowSevenModel" 250 "most" ∈ lw_tbl := List.mem_of_getElem? (i := 1599) (by decide +kernel)
theorem sr_11 : Cond.stringRef "WidowSevenModel" 231 "number" ∈ lw_tbl := List.mem_of_getElem? (i := 1604) (by decide +kernel)
theorem sr_12 : Cond.stringRef "WidowSevenModel" 233 "rent" ∈ lw_tbl := List.mem_of_getElem? (i := 1605) (by decide +kernel)
theorem sr_13 : Cond.stringRef "WidowSevenModel" 235 "way" ∈ lw_tbl := List.mem_of_getElem? (i := 1606) (by decide +kernel)
theorem sr_14 : Cond.stringRef "WidowSevenModel" 237 "owner" ∈ lw_tbl := List.mem_of_getElem? (i := 1607) (by decide +kernel)
theorem sr_15 : Cond.stringRef "WidowSevenModel" 239 "parts" ∈ lw_tbl := List.mem_of_getElem? (i := 1608) (by decide +kernel)
theorem sr_16 : Cond.stringRef "WidowSevenModel" 241 "used" ∈ lw_tbl := List.mem_of_getElem? (i := 1609) (by decide +kernel)
theorem sr_17 : Cond.stringRef "WidowSevenModel" 243 "day" ∈ lw_tbl := List.mem_of_getElem? (i := 1610) (by decide +kernel)
theorem sr_18 : Cond.stringRef "WidowSevenModel" 273 "use" ∈ lw_tbl := List.mem_of_getElem? (i := 1627) (by decide +kernel)
theorem sr_19 : Cond.stringRef "WidowSevenModel" 278 "sell" ∈ lw_tbl := List.mem_of_getElem? (i := 1632) (by decide +kernel)
theorem sr_20 : Cond.stringRef "WidowSevenModel" 280 "again" ∈ lw_tbl := List.mem_of_getElem? (i := 1633) (by decide +kernel)
theorem ls_U : Cond.laysStatic "java/lang/Throwable" "UNASSIGNED_STACK" "[Ljava/lang/StackTraceElement;" ∈ lw_tbl := List.mem_of_getElem? (i := 536) (by decide +kernel)
theorem ls_S : Cond.laysStatic "java/lang/Throwable" "SUPPRESSED_SENTINEL" "Ljava/util/List;" ∈ lw_tbl := List.mem_of_getElem? (i := 538) (by decide +kernel)
theorem ls_C : Cond.laysStatic "java/lang/String" "COMPACT_STRINGS" "Z" ∈ lw_tbl := List.mem_of_getElem? (i := 611) (by decide +kernel)
theorem ls_F : Cond.laysStatic "jdk/internal/util/Preconditions" "SIOOBE_FORMATTER" "Ljava/util/function/BiFunction;" ∈ lw_tbl := List.mem_of_getElem? (i := 627) (by decide +kernel)
theorem ls_P : Cond.laysStatic "WidowSeven" "PARTS" "[I" ∈ lw_tbl := List.mem_of_getElem? (i := 808) (by decide +kernel)
theorem ao_P : Cond.arrayOver (.object "WidowSeven$Past") ∈ lw_tbl := List.mem_of_getElem? (i := 256) (by decide +kernel)
def st_tm (i : Nat) : Term := .string (js_own.getD i ("", 0, "")).1 (js_own.getD i ("", 0, "")).2.1
def st_vl (i : Nat) : Term := .field (st_tm i) "java/lang/String" "value" "[B"
def st_one (i : Nat) : List Cond := [.exactly (st_tm i) "java/lang/String", .eq (.field (st_tm i) "java/lang/String" "coder" "B") (.int 0), .arrayOf (st_vl i) .byte, .eq (.length (st_vl i)) (.int (Int32.ofNat (js_len.getD i 0)))] ++ ((List.range (js_len.getD i 0)).map (fun j => Cond.eq (.elem (st_vl i) (.int (Int32.ofNat j))) (.int ((js_byt.getD i []).getD j 0))) ++ (List.range i).map (fun j => Cond.not (.eq (st_tm j) (st_tm i))))
def st_pt : List Cond := [.arrayOf (.static "WidowSeven" "PARTS" "[I") .int, .eq (.length (.static "WidowSeven" "PARTS" "[I")) (.int (Int32.ofNat 61))] ++ (List.range 61).map (fun j => Cond.eq (.elem (.static "WidowSeven" "PARTS" "[I") (.int (Int32.ofNat j))) (.int (js_parts.getD j 0)))
theorem st_eq : ((flatC (Jvm.Cond.and given_1 narrow_1)).drop 101).take 496 = (List.range 21).flatMap st_one := by decide +kernel
theorem st_eqP : ((flatC (Jvm.Cond.and given_1 narrow_1)).drop 12).take 63 = st_pt := by decide +kernel
theorem st_in {i : Nat} (hi : i < 21) {w : Cond} (hw : w ∈ st_one i) : w ∈ flatC (Jvm.Cond.and given_1 narrow_1) := by
  have h1 : w ∈ (List.range 21).flatMap st_one := List.mem_flatMap.mpr ⟨i, List.mem_range.mpr hi, hw⟩
  rw [← st_eq] at h1
  exact List.mem_of_mem_drop (List.mem_of_mem_take h1)
theorem st_inP {w : Cond} (hw : w ∈ st_pt) : w ∈ flatC (Jvm.Cond.and given_1 narrow_1) := by
  rw [← st_eqP] at hw
  exact List.mem_of_mem_drop (List.mem_of_mem_take hw)
theorem st_U : Cond.isRef (.static Bundle.tN "UNASSIGNED_STACK" Bundle.steD) ∈ flatC (Jvm.Cond.and given_1 narrow_1) := List.mem_of_getElem? (i := 4) (by decide +kernel)
theorem st_S : Cond.isRef (.static Bundle.tN "SUPPRESSED_SENTINEL" Bundle.listD) ∈ flatC (Jvm.Cond.and given_1 narrow_1) := List.mem_of_getElem? (i := 5) (by decide +kernel)
theorem st_C : Cond.eq (.static "java/lang/String" "COMPACT_STRINGS" "Z") (.int 1) ∈ flatC (Jvm.Cond.and given_1 narrow_1) := List.mem_of_getElem? (i := 6) (by decide +kernel)
theorem st_F : Cond.isRef (.static "jdk/internal/util/Preconditions" "SIOOBE_FORMATTER" "Ljava/util/function/BiFunction;") ∈ flatC (Jvm.Cond.and given_1 narrow_1) := List.mem_of_getElem? (i := 7) (by decide +kernel)
theorem st_N : Cond.not (.castable "java/lang/IllegalArgumentException" "java/util/NoSuchElementException") ∈ flatC (Jvm.Cond.and given_1 narrow_1) := List.mem_of_getElem? (i := 99) (by decide +kernel)
theorem i32_nat (x : Int32) : Int32.ofNat x.toBitVec.toNat = x := by
  apply Int32.toBitVec_inj.mp
  show BitVec.ofNat 32 _ = _
  rw [BitVec.ofNat_toNat]
  simp
/-- the constants' addresses -/
def st_z (aP : Nat) (adK adV : Nat → Nat) (aF f1 b L : Nat) (xs : Nat → Int32) : Nat → Nat := fun k => if k = 0 then aP else if k < 101 then adK (k - 1) else if k < 200 then adV (k - 101) else if k = 200 then aF else if k = 201 then f1 else if k = 300 then b else if k = 301 then L else (xs (k - 302)).toBitVec.toNat
theorem st_z0 (aP : Nat) (adK adV : Nat → Nat) (aF f1 b L : Nat) (xs : Nat → Int32) : st_z aP adK adV aF f1 b L xs 0 = aP := rfl
theorem st_zK (aP : Nat) (adK adV : Nat → Nat) (aF f1 b L : Nat) (xs : Nat → Int32) (i : Nat) (hi : i < 21) : st_z aP adK adV aF f1 b L xs (1 + i) = adK i := by
  unfold st_z
  rw [if_neg (by omega), if_pos (by omega), Nat.add_sub_cancel_left]
theorem st_zV (aP : Nat) (adK adV : Nat → Nat) (aF f1 b L : Nat) (xs : Nat → Int32) (i : Nat) (hi : i < 21) : st_z aP adK adV aF f1 b L xs (101 + i) = adV i := by
  unfold st_z
  rw [if_neg (by omega), if_neg (by omega), if_pos (by omega), Nat.add_sub_cancel_left]
theorem st_zX (aP : Nat) (adK adV : Nat → Nat) (aF f1 b L : Nat) (xs : Nat → Int32) (j : Nat) : Int32.ofNat (st_z aP adK adV aF f1 b L xs (302 + j)) = xs j := by
  unfold st_z
  rw [if_neg (by omega), if_neg (by omega), if_neg (by omega), if_neg (by omega), if_neg (by omega), if_neg (by omega), if_neg (by omega), Nat.add_sub_cancel_left]
  exact i32_nat _
theorem st_Kc {s : State} {args : Array Value} (hT : ∀ w ∈ TG, w.before args s = true) : ∃ (dC : Nat → ClassId) (dI : Nat → Nat → Nat), ∀ (k : Nat) (q : vw_C), vwCl[k]? = some q → u_Kn s q.1 q.2.1 q.2.2 (dC k) (dI k) := by
  obtain ⟨c0, iS0, hK0⟩ := u_known (C := RX0) (T := TX0) (N := 8) (n := 8) hT inX0 (hT _ wg_128)
  obtain ⟨c1, iS1, hK1⟩ := u_known (C := RX1) (T := TX1) (N := 3) (n := 3) hT inX1 (hT _ wg_111)
  obtain ⟨c2, iS2, hK2⟩ := u_known (C := RX2) (T := TX2) (N := 3) (n := 3) hT inX2 (hT _ wg_65)
  obtain ⟨c3, iS3, hK3⟩ := u_known (C := RX3) (T := TX3) (N := 5) (n := 5) hT inX3 (hT _ wg_89)
  obtain ⟨c4, iS4, hK4⟩ := u_known (C := RX4) (T := TX4) (N := 3) (n := 3) hT inX4 (hT _ wg_357)
  obtain ⟨c5, iS5, hK5⟩ := u_known (C := RX5) (T := TX5) (N := 6) (n := 6) hT inX5 (hT _ wg_33)
  obtain ⟨c6, iS6, hK6⟩ := u_known (C := RX6) (T := TX6) (N := 4) (n := 4) hT inX6 (hT _ wg_217)
  obtain ⟨c7, iS7, hK7⟩ := u_known (C := RX7) (T := TX7) (N := 9) (n := 9) hT inX7 (hT _ wg_163)
  obtain ⟨c8, iS8, hK8⟩ := u_known (C := RX8) (T := TX8) (N := 2) (n := 2) hT inX8 (hT _ wg_204)
  obtain ⟨c9, iS9, hK9⟩ := u_known (C := RX9) (T := TX9) (N := 5) (n := 5) hT inX9 (hT _ wg_238)
  obtain ⟨c10, iS10, hK10⟩ := u_known (C := RX10) (T := TX10) (N := 19) (n := 19) hT inX10 (hT _ wg_25)
  obtain ⟨c11, iS11, hK11⟩ := u_known (C := RX11) (T := TX11) (N := 53) (n := 53) hT inX11 (hT _ wg_1227)
  refine ⟨fun k => [c0, c1, c2, c3, c4, c5, c6, c7, c8, c9, c10, c11].getD k c0, fun k => [iS0, iS1, iS2, iS3, iS4, iS5, iS6, iS7, iS8, iS9, iS10, iS11].getD k iS0, ?_⟩
  intro k q hq
  match k, hq with
  | 0, hq => cases hq; exact hK0
  | 1, hq => cases hq; exact hK1
  | 2, hq => cases hq; exact hK2
  | 3, hq => cases hq; exact hK3
  | 4, hq => cases hq; exact hK4
  | 5, hq => cases hq; exact hK5
  | 6, hq => cases hq; exact hK6
  | 7, hq => cases hq; exact hK7
  | 8, hq => cases hq; exact hK8
  | 9, hq => cases hq; exact hK9
  | 10, hq => cases hq; exact hK10
  | 11, hq => cases hq; exact hK11
  | k + 12, hq => simp [vwCl] at hq
theorem st_Ka {s : State} {args : Array Value} {ty : FieldType} (h : (Cond.arrayClass ty).before args s = true) : ∃ c : ClassId, ArrOfT s c ty ∧ s.vm.findClass ("[" ++ ty.toString) = some c := by
  obtain ⟨c, k, comp, h1, h2, h3⟩ := Cond.arrayClass_spec h
  exact ⟨c, fun n z => ⟨fun k h => (by cases h), k, h2, comp, h3⟩, h1⟩
theorem st_Ko {s : State} {args : Array Value} {C : String} (h : (Cond.arrayOver (.object C)).before args s = true) : ∃ c : ClassId, ArrOfT s c (.object C) ∧ va_RA s c (.object C) := by
  obtain ⟨comp, c, k, h1, h2, h3, h4, h5⟩ := Cond.arrayOver_spec h
  exact ⟨c, fun n z => ⟨fun k h => (by cases h), k, h3, comp, h4⟩, k, comp, h3, h4, h1, h5⟩
set_option maxHeartbeats 4000000 in
theorem st_ZZ {s : State} {b L : Nat} {xs : Nat → Int32} (hL : L ≤ 3584) (hts : ∀ w ∈ lw_tbl, w.before #[Value.ref b] s = true) (hX : va_X b L xs s s.heap) (hbl : b < s.heap.size) (hgv : (Jvm.Cond.and given_1 narrow_1).before #[Value.ref b] s = true) : ∃ Z : EE, va_K Z.1 vwCl (ee_tys Z) s ∧ ZZ Z (va_A [] s.heap.size) s s.heap ∧ Z.2.2 300 = b ∧ Z.2.2 301 = L := by
  have hs := flat_of_before _ hgv
  have hT : ∀ w ∈ TG, w.before #[Value.ref b] s = true := fun w hw => hts w (List.mem_filter.mp hw).1
  have hA : ∀ a : Nat, a < s.heap.size → ¬ va_A [] s.heap.size a := fun a ha e => by
    rcases e with ⟨k, e, h1⟩ | h1
    · simp at h1
    · omega
  obtain ⟨dC, dI, hKc⟩ := st_Kc hT
  obtain ⟨a0, aa0, ar0⟩ := st_Ka (hT _ wg_63)
  obtain ⟨a1, aa1, ar1⟩ := st_Ka (hT _ wg_1400)
  obtain ⟨a2, aa2, ar2⟩ := st_Ka (hT _ wg_202)
  obtain ⟨a3, aa3, ar3⟩ := st_Ko (hts _ ao_P)
  obtain ⟨aP, hPe, hPT⟩ := va_Tof (tm := .static "WidowSeven" "PARTS" "[I") (ty := .int) (N := 61) (f := fun j => .int (js_parts.getD j 0)) (A := va_A [] s.heap.size) (by decide) (hs _ (st_inP (List.mem_append_left _ (List.mem_cons_self ..)))) (va_eqt (hs _ (st_inP (List.mem_append_left _ (List.mem_cons_of_mem _ (List.mem_cons_self ..)))))) (fun j hj => va_eqt (hs _ (st_inP (List.mem_append_right _ (List.mem_map.mpr ⟨j, List.mem_range.mpr hj, rfl⟩))))) hA
  have hPZ : va_Z "WidowSeven" "PARTS" "[I" (.ref aP) (va_A [] s.heap.size) s s.heap := va_Zof (hts _ ls_P) (hT _ wg_1) hPe hA
  have hCS := va_Zof (A := va_A [] s.heap.size) (hts _ ls_C) (hT _ wg_16) (va_eqi (hs _ st_C)) hA
  have hFq := va_Zqof (A := va_A [] s.heap.size) (hts _ ls_F) (hT _ wg_18) (hs _ st_F) hA
  have hU := vx_Zqof (A := va_A [] s.heap.size) (hts _ ls_U) (hT _ wg_12) (hs _ st_U) hA
  have hS := vx_Zqof (A := va_A [] s.heap.size) (hts _ ls_S) (hT _ wg_12) (hs _ st_S) hA
  obtain ⟨adK, adV, hV, hVe⟩ := vk_Sof (N := 21) (tm := st_tm) (len := js_len) (byt := js_byt) (A := va_A [] s.heap.size) (by decide) (fun i hi => hs _ (st_in hi (List.mem_append_left _ (List.mem_cons_self ..)))) (fun i hi => hs _ (st_in hi (List.mem_append_left _ (List.mem_cons_of_mem _ (List.mem_cons_self ..))))) (fun i hi => hs _ (st_in hi (List.mem_append_left _ (List.mem_cons_of_mem _ (List.mem_cons_of_mem _ (List.mem_cons_self ..)))))) (fun i hi => hs _ (st_in hi (List.mem_append_left _ (List.mem_cons_of_mem _ (List.mem_cons_of_mem _ (List.mem_cons_of_mem _ (List.mem_cons_self ..))))))) (fun i hi j hj => hs _ (st_in hi (List.mem_append_right _ (List.mem_append_left _ (List.mem_map.mpr ⟨j, List.mem_range.mpr hj, rfl⟩))))) (fun i j hi hj hij => by
    rcases Nat.lt_or_gt_of_ne hij with h1 | h1
    · exact Or.inl (hs _ (st_in hj (List.mem_append_right _ (List.mem_append_right _ (List.mem_map.mpr ⟨i, List.mem_range.mpr h1, rfl⟩)))))
    · exact Or.inr (hs _ (st_in hi (List.mem_append_right _ (List.mem_append_right _ (List.mem_map.mpr ⟨j, List.mem_range.mpr h1, rfl⟩)))))) hA
  have hF : ∃ aF f1 : Nat, va_Z "jdk/internal/util/Preconditions" "SIOOBE_FORMATTER" "Ljava/util/function/BiFunction;" (if f1 = 0 then .null else .ref aF) (va_A [] s.heap.size) s s.heap := by
    rcases hFq with h | ⟨t, h⟩
    · exact ⟨0, 0, h⟩
    · exact ⟨t, 1, h⟩
  obtain ⟨aF, f1, hF⟩ := hF
  have hR : ∀ i q, js_own[i]? = some q → i < 21 ∧ Cond.stringRef q.1 q.2.1 q.2.2 ∈ lw_tbl ∧ (st_tm i) = .string q.1 q.2.1 := by
    intro i q hq
    match i, hq with
    | 0, hq => cases hq; exact ⟨by decide, sr_0, rfl⟩
    | 1, hq => cases hq; exact ⟨by decide, sr_1, rfl⟩
    | 2, hq => cases hq; exact ⟨by decide, sr_2, rfl⟩
    | 3, hq => cases hq; exact ⟨by decide, sr_3, rfl⟩
    | 4, hq => cases hq; exact ⟨by decide, sr_4, rfl⟩
    | 5, hq => cases hq; exact ⟨by decide, sr_5, rfl⟩
    | 6, hq => cases hq; exact ⟨by decide, sr_6, rfl⟩
    | 7, hq => cases hq; exact ⟨by decide, sr_7, rfl⟩
    | 8, hq => cases hq; exact ⟨by decide, sr_8, rfl⟩
    | 9, hq => cases hq; exact ⟨by decide, sr_9, rfl⟩
    | 10, hq => cases hq; exact ⟨by decide, sr_10, rfl⟩
    | 11, hq => cases hq; exact ⟨by decide, sr_11, rfl⟩
    | 12, hq => cases hq; exact ⟨by decide, sr_12, rfl⟩
    | 13, hq => cases hq; exact ⟨by decide, sr_13, rfl⟩
    | 14, hq => cases hq; exact ⟨by decide, sr_14, rfl⟩
    | 15, hq => cases hq; exact ⟨by decide, sr_15, rfl⟩
    | 16, hq => cases hq; exact ⟨by decide, sr_16, rfl⟩
    | 17, hq => cases hq; exact ⟨by decide, sr_17, rfl⟩
    | 18, hq => cases hq; exact ⟨by decide, sr_18, rfl⟩
    | 19, hq => cases hq; exact ⟨by decide, sr_19, rfl⟩
    | 20, hq => cases hq; exact ⟨by decide, sr_20, rfl⟩
    | k + 21, hq => simp [js_own] at hq
  refine ⟨((dC, dI), fun k => [a0, a1, a2, a3].getD k a0, st_z aP adK adV aF f1 b L xs), ⟨hKc, ?_⟩, ⟨hPZ, ⟨hPT, ?_⟩, ?_, ?_, ⟨hCS, hF⟩, hU, hS, fun w hw => va_Nw.of (tn_tab hw) (hts w (List.mem_filter.mp hw).1), va_Nc.of (hs _ st_N), va_AO.of (hts _ ao_P)⟩, rfl, rfl⟩
  · intro k q hq
    match k, hq with
    | 0, hq => cases hq; exact ⟨aa0, ar0⟩
    | 1, hq => cases hq; exact ⟨aa1, ar1⟩
    | 2, hq => cases hq; exact ⟨aa2, ar2⟩
    | 3, hq => cases hq; exact ⟨aa3, ar3⟩
    | k + 4, hq => simp [ee_tys] at hq
  · obtain ⟨scr, h1, h2, h3, h4, h5⟩ := hX
    refine ⟨scr, h1, h2, h3, Nat.le_of_eq h4.symm, by rw [h4]; rfl, fun j hj => ?_, hA b hbl⟩
    rw [h5 j hj]
    show some (Value.int (xs j)) = some (Value.int (Int32.ofNat (st_z aP adK adV aF f1 b L xs (302 + j))))
    rw [st_zX]
  · refine ⟨fun i hi => ?_, fun i j hi hj e => hV.2 i j hi hj ?_⟩
    · have h9 := hV.1 i hi
      rw [← st_zK aP adK adV aF f1 b L xs i hi, ← st_zV aP adK adV aF f1 b L xs i hi] at h9
      exact h9
    · have e2 : st_z aP adK adV aF f1 b L xs (1 + i) = st_z aP adK adV aF f1 b L xs (1 + j) := e
      rw [st_zK aP adK adV aF f1 b L xs i hi, st_zK aP adK adV aF f1 b L xs j hj] at e2
      exact e2
  · intro i q hq
    obtain ⟨h1, h2, h3⟩ := hR i q hq
    have h4 := hVe i h1
    rw [h3] at h4
    show vk_R q.1 q.2.1 q.2.2 (st_z aP adK adV aF f1 b L xs (1 + i)) s
    rw [st_zK aP adK adV aF f1 b L xs i h1]
    exact vk_R.of (hts _ h2) h4
theorem st_room {s : State} {pl : Platform} {R R2 : Room} (h : s.hasRoom pl R = true) (h1 : R2.frames ≤ R.frames) (h2 : R2.cells ≤ R.cells) (h3 : R2.slots ≤ R.slots) (h4 : R2.locals ≤ R.locals) : s.hasRoom pl R2 = true := by
  simp only [State.hasRoom, Bool.and_eq_true, decide_eq_true_eq] at h ⊢
  obtain ⟨⟨⟨⟨a1, b1, b2, b3, b4, b5⟩, a3⟩, a4⟩, a5⟩ := h
  exact ⟨⟨⟨⟨by omega, by omega, by omega, by omega, by omega, b5⟩, by omega⟩, by omega⟩, a5⟩
theorem st_forget {s t : State} {L : List Loc} {k n : Nat} (h : s.sameButNew t L k n) (hf : ∀ q ∈ L, s.heap.size ≤ q.base) : s.sameButNew t [] k n := by
  obtain ⟨h1, h2, h3, h4, h5, h6⟩ := h
  refine ⟨h1, h2, h3, h4, h5, fun a c hc => ?_⟩
  obtain ⟨c', g1, g2, g3, g4⟩ := h6 a c hc
  refine ⟨c', g1, g2, g3, fun i _ => g4 i (fun hm => ?_)⟩
  have h7 : s.heap.size ≤ a := hf _ hm
  exact absurd (Array.getElem?_eq_some_iff.mp hc).1 (Nat.not_lt.mpr h7)
