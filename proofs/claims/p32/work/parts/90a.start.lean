/-! the law's start: what the statement gives of the tables and the constants -/
def NL : List Cond := flatC (Jvm.Cond.and given_1 narrow_1)
theorem NL_of {A : Array Value} {s : State} (h : (Jvm.Cond.and given_1 narrow_1).before A s = true) {w : Cond} {i : Nat} (hi : NL[i]? = some w) : w.before A s = true := flat_of_before _ h w (List.mem_of_getElem? hi)
section Start
variable {A : Array Value} {s : State}
theorem arr_int (h : (Cond.arrayClass .int).before A s = true) : ∃ c, ArrOfT s c .int ∧ va_RA s c .int := by
  obtain ⟨c, k, comp, h1, h2, h3⟩ := Cond.arrayClass_spec h
  exact ⟨c, fun n z => ⟨(fun k h => by cases h), k, h2, comp, h3⟩, h1⟩
theorem arr_bool (h : (Cond.arrayClass .boolean).before A s = true) : ∃ c, ArrOfT s c .boolean ∧ va_RA s c .boolean := by
  obtain ⟨c, k, comp, h1, h2, h3⟩ := Cond.arrayClass_spec h
  exact ⟨c, fun n z => ⟨(fun k h => by cases h), k, h2, comp, h3⟩, h1⟩
theorem arr_byte (h : (Cond.arrayClass .byte).before A s = true) : ∃ c, ArrOfT s c .byte ∧ va_RA s c .byte := by
  obtain ⟨c, k, comp, h1, h2, h3⟩ := Cond.arrayClass_spec h
  exact ⟨c, fun n z => ⟨(fun k h => by cases h), k, h2, comp, h3⟩, h1⟩
theorem arr_obj (h : (Cond.arrayOver (.object "java/lang/Object")).before A s = true) : ∃ c, ArrOfT s c (.object "java/lang/Object") ∧ va_RA s c (.object "java/lang/Object") := by
  obtain ⟨comp, c, k, h1, h2, h3, h4, h5⟩ := Cond.arrayOver_spec h
  exact ⟨c, fun n z => ⟨(fun k h => by cases h), k, h3, comp, h4⟩, k, comp, h3, h4, h1, h5⟩
theorem arr_arr (h : va_AOA .int s) : ∃ c, ArrOfT s c (.array .int) ∧ va_RA s c (.array .int) := by
  obtain ⟨comp, c, k, h1, h2, h3, h4, h5⟩ := AOA_spec h
  exact ⟨c, fun n z => ⟨(fun k h => by cases h), k, h3, comp, h4⟩, h5⟩
theorem tb_start (hts : ∀ w ∈ lw_tbl, w.before A s = true) : ∀ w ∈ TB, w.before A s = true := by
  intro w hw
  rcases List.mem_append.mp (List.mem_filter.mp hw).1 with h | h
  · unfold xsel at h
    simp only [List.mem_cons, List.not_mem_nil, or_false] at h
    have hz : (Cond.selects RJ4 yJ5_isLatin1_aae02 yJ5_isLatin1_aae02).before A s = true := hts _ (List.mem_of_getElem? (i := 786) (by decide +kernel))
    rcases h with rfl | rfl | rfl | rfl
    · exact sel_priv (z := yJ5_isLatin1_aae02) rfl ⟨by decide, by decide⟩ hz (hts _ (List.mem_of_getElem? (i := 764) (by decide +kernel))) (hts _ (List.mem_of_getElem? (i := 765) (by decide +kernel)))
    · exact sel_priv (z := yJ5_isLatin1_aae02) rfl ⟨by decide, by decide⟩ hz (hts _ (List.mem_of_getElem? (i := 768) (by decide +kernel))) (hts _ (List.mem_of_getElem? (i := 769) (by decide +kernel)))
    · exact sel_priv (z := yJ5_isLatin1_aae02) rfl ⟨by decide, by decide⟩ hz (hts _ (List.mem_of_getElem? (i := 824) (by decide +kernel))) (hts _ (List.mem_of_getElem? (i := 825) (by decide +kernel)))
    · exact sel_priv (z := yJ5_isLatin1_aae02) rfl ⟨by decide, by decide⟩ hz (hts _ (List.mem_of_getElem? (i := 828) (by decide +kernel))) (hts _ (List.mem_of_getElem? (i := 829) (by decide +kernel)))
  · exact hts w h
theorem k_start (hts : ∀ w ∈ lw_tbl, w.before A s = true) : ∃ D : va_G, ∀ (c : Nat) (q : vw_C), vwCl[c]? = some q → u_Kn s q.1 q.2.1 q.2.2 (D.1 c) (D.2 c) := by
  have hTB := tb_start hts
  obtain ⟨c0, i0, k0⟩ := u_known (C := RJ4) (T := TJ4) (N := 4) (n := 4) hTB in_J4 (hts _ (List.mem_of_getElem? (i := 722) (by decide +kernel)))
  obtain ⟨c1, i1, k1⟩ := u_known (C := RJx4a65c) (T := TJx4a65c) (N := 3) (n := 3) hTB in_Jx4a65c (hts _ (List.mem_of_getElem? (i := 56) (by decide +kernel)))
  obtain ⟨c2, i2, k2⟩ := u_known (C := RX0) (T := TX0) (N := 7) (n := 7) hTB in_X0 (hts _ (List.mem_of_getElem? (i := 561) (by decide +kernel)))
  obtain ⟨c3, i3, k3⟩ := u_known (C := RX1) (T := TX1) (N := 1) (n := 1) hTB in_X1 (hts _ (List.mem_of_getElem? (i := 82) (by decide +kernel)))
  obtain ⟨c4, i4, k4⟩ := u_known (C := RX2) (T := TX2) (N := 6) (n := 6) hTB in_X2 (hts _ (List.mem_of_getElem? (i := 271) (by decide +kernel)))
  obtain ⟨c5, i5, k5⟩ := u_known (C := RX3) (T := TX3) (N := 8) (n := 8) hTB in_X3 (hts _ (List.mem_of_getElem? (i := 461) (by decide +kernel)))
  obtain ⟨c6, i6, k6⟩ := u_known (C := RX4) (T := TX4) (N := 8) (n := 8) hTB in_X4 (hts _ (List.mem_of_getElem? (i := 48) (by decide +kernel)))
  have hex : ∀ k : Nat, ∃ (c : ClassId) (iS : Nat → Nat), ∀ q : vw_C, vwCl[k]? = some q → u_Kn s q.1 q.2.1 q.2.2 c iS := by
    intro k
    match k with
    | 0 => exact ⟨c0, i0, fun q hq => by cases hq; exact k0⟩
    | 1 => exact ⟨c1, i1, fun q hq => by cases hq; exact k1⟩
    | 2 => exact ⟨c2, i2, fun q hq => by cases hq; exact k2⟩
    | 3 => exact ⟨c3, i3, fun q hq => by cases hq; exact k3⟩
    | 4 => exact ⟨c4, i4, fun q hq => by cases hq; exact k4⟩
    | 5 => exact ⟨c5, i5, fun q hq => by cases hq; exact k5⟩
    | 6 => exact ⟨c6, i6, fun q hq => by cases hq; exact k6⟩
    | k + 7 => exact ⟨c0, i0, fun q hq => by simp [vwCl] at hq⟩
  exact ⟨(fun k => Classical.choose (hex k), fun k => Classical.choose (Classical.choose_spec (hex k))), fun c q hq => Classical.choose_spec (Classical.choose_spec (hex c)) q hq⟩
theorem nl_ones : ∀ j, j < 100 → NL[18 + j]? = some (Cond.eq (.elem (.static "java/lang/Integer" "DigitOnes" "[B") (.int (Int32.ofNat j))) (.int (nI (48 + j % 10)))) := by decide +kernel
theorem nl_tens : ∀ j, j < 100 → NL[121 + j]? = some (Cond.eq (.elem (.static "java/lang/Integer" "DigitTens" "[B") (.int (Int32.ofNat j))) (.int (nI (48 + j / 10)))) := by decide +kernel
theorem nl_t0 : ∀ j, j < 4 → NL[370 + j]? = some (Cond.eq (.elem (.field (.string "VowCourt" 290) "java/lang/String" "value" "[B") (.int (Int32.ofNat j))) (.int ((litB.getD 0 []).getD j 0))) := by decide +kernel
theorem nl_t1 : ∀ j, j < 9 → NL[381 + j]? = some (Cond.eq (.elem (.field (.string "VowCourt" 296) "java/lang/String" "value" "[B") (.int (Int32.ofNat j))) (.int ((litB.getD 1 []).getD j 0))) := by decide +kernel
theorem nl_t2 : ∀ j, j < 4 → NL[398 + j]? = some (Cond.eq (.elem (.field (.string "VowCourt" 301) "java/lang/String" "value" "[B") (.int (Int32.ofNat j))) (.int ((litB.getD 2 []).getD j 0))) := by decide +kernel
def litTm (i : Nat) : Term := .string "VowCourt" (litP.getD i 0)
theorem s_start (hgv : (Jvm.Cond.and given_1 narrow_1).before A s = true) {B : Nat → Prop} (hA : ∀ a : Nat, a < s.heap.size → ¬ B a) : ∃ adK adV : Nat → Nat, vk_S 3 litL litB adK adV B s s.heap ∧ ∀ i : Nat, i < 3 → (litTm i).eval A s none [] s = some (.ref (adK i)) := by
  refine vk_Sof (tm := litTm) (fun i hi => by match i, hi with | 0, _ => decide | 1, _ => decide | 2, _ => decide) (fun i hi => by
    match i, hi with
    | 0, _ => exact (NL_of hgv (i := 366) (by decide +kernel))
    | 1, _ => exact (NL_of hgv (i := 377) (by decide +kernel))
    | 2, _ => exact (NL_of hgv (i := 394) (by decide +kernel))) (fun i hi => by
    match i, hi with
    | 0, _ => exact (NL_of hgv (i := 367) (by decide +kernel))
    | 1, _ => exact (NL_of hgv (i := 378) (by decide +kernel))
    | 2, _ => exact (NL_of hgv (i := 395) (by decide +kernel))) (fun i hi => by
    match i, hi with
    | 0, _ => exact (NL_of hgv (i := 368) (by decide +kernel))
    | 1, _ => exact (NL_of hgv (i := 379) (by decide +kernel))
    | 2, _ => exact (NL_of hgv (i := 396) (by decide +kernel))) (fun i hi => by
    match i, hi with
    | 0, _ => exact (NL_of hgv (i := 369) (by decide +kernel))
    | 1, _ => exact (NL_of hgv (i := 380) (by decide +kernel))
    | 2, _ => exact (NL_of hgv (i := 397) (by decide +kernel))) (fun i hi j hj => by
    match i, hi, hj with
    | 0, _, hj => exact NL_of hgv (nl_t0 j hj)
    | 1, _, hj => exact NL_of hgv (nl_t1 j hj)
    | 2, _, hj => exact NL_of hgv (nl_t2 j hj)) (fun i j hi hj hne => by
    match i, hi, j, hj, hne with
    | 0, _, 0, _, hne => exact absurd rfl hne
    | 0, _, 1, _, _ => exact Or.inl (NL_of hgv (i := 393) (by decide +kernel))
    | 0, _, 2, _, _ => exact Or.inl (NL_of hgv (i := 405) (by decide +kernel))
    | 1, _, 0, _, _ => exact Or.inr (NL_of hgv (i := 393) (by decide +kernel))
    | 1, _, 1, _, hne => exact absurd rfl hne
    | 1, _, 2, _, _ => exact Or.inl (NL_of hgv (i := 406) (by decide +kernel))
    | 2, _, 0, _, _ => exact Or.inr (NL_of hgv (i := 405) (by decide +kernel))
    | 2, _, 1, _, _ => exact Or.inr (NL_of hgv (i := 406) (by decide +kernel))
    | 2, _, 2, _, hne => exact absurd rfl hne) hA
theorem gn_start (hgv : (Jvm.Cond.and given_1 narrow_1).before A s = true) : GN s := by
  intro x y hx1 hx3 hy1 hy3 hxy
  have hx : x = 1 ∨ x = 2 ∨ x = 3 := by omega
  have hy : y = 1 ∨ y = 2 ∨ y = 3 := by omega
  rcases hx with rfl | rfl | rfl <;> rcases hy with rfl | rfl | rfl
  · exact absurd rfl hxy
  · exact va_Nc.of (NL_of hgv (i := 233) (by decide +kernel))
  · exact va_Nc.of (NL_of hgv (i := 242) (by decide +kernel))
  · exact va_Nc.of (NL_of hgv (i := 224) (by decide +kernel))
  · exact absurd rfl hxy
  · exact va_Nc.of (NL_of hgv (i := 243) (by decide +kernel))
  · exact va_Nc.of (NL_of hgv (i := 225) (by decide +kernel))
  · exact va_Nc.of (NL_of hgv (i := 234) (by decide +kernel))
  · exact absurd rfl hxy
def cstF (c0 c1 c2 c3 c5 e mi t0 t1 b L : Nat) (xs : Nat → Int32) (adK adV : Nat → Nat) (n : Nat) : Nat :=
  if n = 0 then c0 else if n = 1 then c1 else if n = 2 then c2 else if n = 3 then c3 else if n = 5 then c5 else if n = 73000 then e else if n = 73002 then mi else if n = 72000 then t0 else if n = 72001 then t1 else if n = 74000 then b else if n = 75000 then L else if 76000 ≤ n then (xs (n - 76000)).toBitVec.toNat else if n < 71000 then adK (n - 70000) else adV (n - 71000)
theorem i32_bn (x : Int32) : Int32.ofNat x.toBitVec.toNat = x := by
  show Int32.ofBitVec (BitVec.ofNat 32 x.toBitVec.toNat) = x
  rw [BitVec.ofNat_toNat, BitVec.setWidth_eq]
  rfl
theorem gs_start {b L : Nat} {xs : Nat → Int32} (hX : va_X b L xs s s.heap) (hbl : b < s.heap.size) (hL : L < 2 ^ 31) (hts : ∀ w ∈ lw_tbl, w.before A s = true) (hgv : (Jvm.Cond.and given_1 narrow_1).before A s = true) : ∃ g : GPm, g.2.2 = s.heap.size ∧ g.2.1 74000 = b ∧ GS g s := by
  obtain ⟨D, hD⟩ := k_start hts
  have hB : ∀ a : Nat, a < s.heap.size → ¬ (fun q : Nat => s.heap.size ≤ q) a := fun a h => Nat.not_le.mpr h
  have hAO : va_AO "java/lang/Object" s := va_AO.of (hts _ (List.mem_of_getElem? (i := 348) (by decide +kernel)))
  have hAA : va_AOA .int s := (hts (.arrayOver (.array .int)) (List.mem_of_getElem? (i := 88) (by decide +kernel)))
  obtain ⟨c0, a0⟩ := arr_int (hts _ (List.mem_of_getElem? (i := 96) (by decide +kernel)))
  obtain ⟨c1, a1⟩ := arr_bool (hts _ (List.mem_of_getElem? (i := 123) (by decide +kernel)))
  obtain ⟨c2, a2⟩ := arr_obj (va_AO.use (A := A) hAO)
  obtain ⟨c3, a3⟩ := arr_arr hAA
  obtain ⟨c5, a5⟩ := arr_byte (hts _ (List.mem_of_getElem? (i := 216) (by decide +kernel)))
  obtain ⟨e, he, hTe⟩ := va_Tof (A := fun q : Nat => s.heap.size ≤ q) (tm := .static "java/util/ArrayList" "DEFAULTCAPACITY_EMPTY_ELEMENTDATA" "[Ljava/lang/Object;") (ty := .object "java/lang/Object") (N := 0) (f := fun _ => Value.null) (by decide) (NL_of hgv (i := 5) (by decide +kernel)) (va_eqt (NL_of hgv (i := 7) (by decide +kernel))) (fun j hj => absurd hj (Nat.not_lt_zero j)) hB
  obtain ⟨t0, ht0, hT0⟩ := va_Tof (A := fun q : Nat => s.heap.size ≤ q) (ty := .byte) (N := 100) (f := fun j => Value.int (nI (48 + j / 10))) (by decide) (NL_of hgv (i := 119) (by decide +kernel)) (va_eqt (NL_of hgv (i := 120) (by decide +kernel))) (fun j hj => va_eqt (NL_of hgv (nl_tens j hj))) hB
  obtain ⟨t1, ht1, hT1⟩ := va_Tof (A := fun q : Nat => s.heap.size ≤ q) (ty := .byte) (N := 100) (f := fun j => Value.int (nI (48 + j % 10))) (by decide) (NL_of hgv (i := 16) (by decide +kernel)) (va_eqt (NL_of hgv (i := 17) (by decide +kernel))) (fun j hj => va_eqt (NL_of hgv (nl_ones j hj))) hB
  obtain ⟨mi, hMi⟩ := va_Mi.of (C := "[Ljava/lang/Object;") (NL_of hgv (i := 248) (by decide +kernel))
  obtain ⟨adK, adV, hS, hSe⟩ := s_start hgv hB
  have eK : ∀ i, i < 3 → cstF c0 c1 c2 c3 c5 e mi t0 t1 b L xs adK adV (70000 + i) = adK i := by
    intro i hi
    unfold cstF
    rw [if_neg (by omega), if_neg (by omega), if_neg (by omega), if_neg (by omega), if_neg (by omega), if_neg (by omega), if_neg (by omega), if_neg (by omega), if_neg (by omega), if_neg (by omega), if_neg (by omega), if_neg (by omega), if_pos (by omega), show 70000 + i - 70000 = i by omega]
  have eV : ∀ i, i < 3 → cstF c0 c1 c2 c3 c5 e mi t0 t1 b L xs adK adV (71000 + i) = adV i := by
    intro i hi
    unfold cstF
    rw [if_neg (by omega), if_neg (by omega), if_neg (by omega), if_neg (by omega), if_neg (by omega), if_neg (by omega), if_neg (by omega), if_neg (by omega), if_neg (by omega), if_neg (by omega), if_neg (by omega), if_neg (by omega), if_neg (by omega), show 71000 + i - 71000 = i by omega]
  have eX : ∀ j, cstF c0 c1 c2 c3 c5 e mi t0 t1 b L xs adK adV (76000 + j) = (xs j).toBitVec.toNat := by
    intro j
    unfold cstF
    rw [if_neg (by omega), if_neg (by omega), if_neg (by omega), if_neg (by omega), if_neg (by omega), if_neg (by omega), if_neg (by omega), if_neg (by omega), if_neg (by omega), if_neg (by omega), if_neg (by omega), if_pos (by omega), show 76000 + j - 76000 = j by omega]
  have eS : (fun j => Int32.ofNat (cstF c0 c1 c2 c3 c5 e mi t0 t1 b L xs adK adV (76000 + j))) = xs := by
    funext j
    rw [eX, i32_bn]
  refine ⟨(D, cstF c0 c1 c2 c3 c5 e mi t0 t1 b L xs adK adV, s.heap.size), rfl, rfl, ⟨⟨hD, fun k q hq => ?_⟩, vx_Zqof (hts _ (List.mem_of_getElem? (i := 176) (by decide +kernel))) (hts _ (List.mem_of_getElem? (i := 26) (by decide +kernel))) (NL_of hgv (i := 8) (by decide +kernel)) hB, vx_Zqof (hts _ (List.mem_of_getElem? (i := 178) (by decide +kernel))) (hts _ (List.mem_of_getElem? (i := 26) (by decide +kernel))) (NL_of hgv (i := 9) (by decide +kernel)) hB, ⟨fun q hq => ?_, gn_start hgv, ?_, Nat.not_le.mpr hbl, hL⟩, fun w hw => va_Nw.of (XW_tab hw) (hts w (List.mem_filter.mp hw).1), ?_⟩⟩
  · match k, hq with
    | 0, hq => cases hq; exact a0
    | 1, hq => cases hq; exact a1
    | 2, hq => cases hq; exact a2
    | 3, hq => cases hq; exact a3
    | 4, hq => cases hq; exact a0
    | 5, hq => cases hq; exact a5
    | k + 6, hq => simp [gtys] at hq
  · unfold txts at hq
    simp only [List.mem_cons, List.not_mem_nil, or_false] at hq
    rcases hq with rfl | rfl | rfl | rfl | rfl | rfl
    · obtain ⟨a, -, -, -, ha, -⟩ := Cond.exactly_spec (t := .string "VowCourt" 237) (cls := "java/lang/String") (NL_of hgv (i := 249) (by decide +kernel))
      exact ⟨a, vk_R.of (A := A) (hts _ (List.mem_of_getElem? (i := 190) (by decide +kernel))) ha⟩
    · obtain ⟨a, -, -, -, ha, -⟩ := Cond.exactly_spec (t := .string "VowCourt" 244) (cls := "java/lang/String") (NL_of hgv (i := 304) (by decide +kernel))
      exact ⟨a, vk_R.of (A := A) (hts _ (List.mem_of_getElem? (i := 229) (by decide +kernel))) ha⟩
    · obtain ⟨a, -, -, -, ha, -⟩ := Cond.exactly_spec (t := .string "VowCourt" 249) (cls := "java/lang/String") (NL_of hgv (i := 336) (by decide +kernel))
      exact ⟨a, vk_R.of (A := A) (hts _ (List.mem_of_getElem? (i := 252) (by decide +kernel))) ha⟩
    · obtain ⟨a, -, -, -, ha, -⟩ := Cond.exactly_spec (t := .string "VowCourt" 290) (cls := "java/lang/String") (NL_of hgv (i := 366) (by decide +kernel))
      exact ⟨a, vk_R.of (A := A) (hts _ (List.mem_of_getElem? (i := 751) (by decide +kernel))) ha⟩
    · obtain ⟨a, -, -, -, ha, -⟩ := Cond.exactly_spec (t := .string "VowCourt" 296) (cls := "java/lang/String") (NL_of hgv (i := 377) (by decide +kernel))
      exact ⟨a, vk_R.of (A := A) (hts _ (List.mem_of_getElem? (i := 857) (by decide +kernel))) ha⟩
    · obtain ⟨a, -, -, -, ha, -⟩ := Cond.exactly_spec (t := .string "VowCourt" 301) (cls := "java/lang/String") (NL_of hgv (i := 394) (by decide +kernel))
      exact ⟨a, vk_R.of (A := A) (hts _ (List.mem_of_getElem? (i := 883) (by decide +kernel))) ha⟩
  · show va_X b L (fun j => Int32.ofNat (cstF c0 c1 c2 c3 c5 e mi t0 t1 b L xs adK adV (76000 + j))) s s.heap
    rw [eS]
    exact hX
  · refine ⟨va_Zof (hts _ (List.mem_of_getElem? (i := 68) (by decide +kernel))) (hts _ (List.mem_of_getElem? (i := 23) (by decide +kernel))) he hB, hTe, va_Zof (hts _ (List.mem_of_getElem? (i := 731) (by decide +kernel))) (hts _ (List.mem_of_getElem? (i := 42) (by decide +kernel))) (va_eqt (NL_of hgv (i := 10) (by decide +kernel))) hB, va_Zqof (hts _ (List.mem_of_getElem? (i := 801) (by decide +kernel))) (hts _ (List.mem_of_getElem? (i := 37) (by decide +kernel))) (NL_of hgv (i := 11) (by decide +kernel)) hB, ⟨fun i hi => ?_, fun i j hi hj hij => ?_⟩, fun i hi => ?_, ⟨va_Zof (hts _ (List.mem_of_getElem? (i := 874) (by decide +kernel))) (hts _ (List.mem_of_getElem? (i := 46) (by decide +kernel))) ht0 hB, hT0⟩, va_Zof (hts _ (List.mem_of_getElem? (i := 872) (by decide +kernel))) (hts _ (List.mem_of_getElem? (i := 46) (by decide +kernel))) ht1 hB, hT1, hAO, hAA, hMi⟩
    · have h9 := hS.1 i hi
      rw [← eK i hi, ← eV i hi] at h9
      exact h9
    · refine hS.2 i j hi hj ?_
      rw [← eK i hi, ← eK j hj]
      exact hij
    · have h9 := hSe i hi
      rw [← eK i hi] at h9
      refine vk_R.of (A := A) ?_ h9
      match i, hi with
      | 0, _ => exact (hts _ (List.mem_of_getElem? (i := 751) (by decide +kernel)))
      | 1, _ => exact (hts _ (List.mem_of_getElem? (i := 857) (by decide +kernel)))
      | 2, _ => exact (hts _ (List.mem_of_getElem? (i := 883) (by decide +kernel)))
end Start

