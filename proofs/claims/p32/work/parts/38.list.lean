/-! lists -/
theorem w_23 : (.initialized "java/util/ArrayList" : Cond) ∈ TB := TB_mem (List.mem_of_getElem? (i := 23) (by decide +kernel)) rfl
theorem w_35 : (.initialized "java/lang/System" : Cond) ∈ TB := TB_mem (List.mem_of_getElem? (i := 35) (by decide +kernel)) rfl
theorem w_36 : (.initialized "java/util/Objects" : Cond) ∈ TB := TB_mem (List.mem_of_getElem? (i := 36) (by decide +kernel)) rfl
theorem w_37 : (.initialized "jdk/internal/util/Preconditions" : Cond) ∈ TB := TB_mem (List.mem_of_getElem? (i := 37) (by decide +kernel)) rfl
theorem w_69 : (.fieldLink "java/util/ArrayList" 9 "java/util/ArrayList" "elementData" "[Ljava/lang/Object;" : Cond) ∈ TB := TB_mem (List.mem_of_getElem? (i := 69) (by decide +kernel)) rfl
theorem w_70 : (.fieldLink "java/util/ArrayList" 48 "java/util/ArrayList" "size" "I" : Cond) ∈ TB := TB_mem (List.mem_of_getElem? (i := 70) (by decide +kernel)) rfl
theorem w_331 : (.instanceMethod ⟨"java/lang/Object", "getClass", "()Ljava/lang/Class;"⟩ : Cond) ∈ TB := TB_mem (List.mem_of_getElem? (i := 331) (by decide +kernel)) rfl
theorem w_343 : (.native ⟨"java/lang/Object", "getClass", "()Ljava/lang/Class;"⟩ : Cond) ∈ TB := TB_mem (List.mem_of_getElem? (i := 343) (by decide +kernel)) rfl
theorem w_352 : (.static ⟨"java/lang/System", "arraycopy", "(Ljava/lang/Object;ILjava/lang/Object;II)V"⟩ : Cond) ∈ TB := TB_mem (List.mem_of_getElem? (i := 352) (by decide +kernel)) rfl
theorem w_353 : (.native ⟨"java/lang/System", "arraycopy", "(Ljava/lang/Object;ILjava/lang/Object;II)V"⟩ : Cond) ∈ TB := TB_mem (List.mem_of_getElem? (i := 353) (by decide +kernel)) rfl
theorem w_368 : (.methodLink "java/util/ArrayList" 118 ⟨"java/util/Objects", "checkIndex", "(II)I"⟩ : Cond) ∈ TB := TB_mem (List.mem_of_getElem? (i := 368) (by decide +kernel)) rfl
theorem w_369 : (.static ⟨"java/util/Objects", "checkIndex", "(II)I"⟩ : Cond) ∈ TB := TB_mem (List.mem_of_getElem? (i := 369) (by decide +kernel)) rfl
theorem w_370 : (.code yJ15_checkIndex_7cf53 cJ15_checkIndex_7cf53 2 (some .int) : Cond) ∈ TB := TB_mem (List.mem_of_getElem? (i := 370) (by decide +kernel)) rfl
theorem w_371 : (.methodLink "java/util/Objects" 105 ⟨"jdk/internal/util/Preconditions", "checkIndex", "(IILjava/util/function/BiFunction;)I"⟩ : Cond) ∈ TB := TB_mem (List.mem_of_getElem? (i := 371) (by decide +kernel)) rfl
theorem w_372 : (.static ⟨"jdk/internal/util/Preconditions", "checkIndex", "(IILjava/util/function/BiFunction;)I"⟩ : Cond) ∈ TB := TB_mem (List.mem_of_getElem? (i := 372) (by decide +kernel)) rfl
theorem w_373 : (.code yJ3_checkIndex_8e157 cJ3_checkIndex_8e157 3 (some .int) : Cond) ∈ TB := TB_mem (List.mem_of_getElem? (i := 373) (by decide +kernel)) rfl
theorem w_374 : (.methodLink "java/util/ArrayList" 123 ⟨"java/util/ArrayList", "elementData", "(I)Ljava/lang/Object;"⟩ : Cond) ∈ TB := TB_mem (List.mem_of_getElem? (i := 374) (by decide +kernel)) rfl
theorem w_375 : (.instanceMethod ⟨"java/util/ArrayList", "elementData", "(I)Ljava/lang/Object;"⟩ : Cond) ∈ TB := TB_mem (List.mem_of_getElem? (i := 375) (by decide +kernel)) rfl
theorem w_376 : (.selects "java/util/ArrayList" ⟨"java/util/ArrayList", "elementData", "(I)Ljava/lang/Object;"⟩ ⟨"java/util/ArrayList", "elementData", "(I)Ljava/lang/Object;"⟩ : Cond) ∈ TB := TB_mem (List.mem_of_getElem? (i := 376) (by decide +kernel)) rfl
theorem w_377 : (.code yJx4a65c_elementData_915e3 cJx4a65c_elementData_915e3 2 (some (.object "java/lang/Object")) : Cond) ∈ TB := TB_mem (List.mem_of_getElem? (i := 377) (by decide +kernel)) rfl
theorem w_971 : (.selects "[Ljava/lang/Object;" ⟨"java/lang/Object", "getClass", "()Ljava/lang/Class;"⟩ ⟨"java/lang/Object", "getClass", "()Ljava/lang/Class;"⟩ : Cond) ∈ TB := TB_mem (List.mem_of_getElem? (i := 971) (by decide +kernel)) rfl
/-- a body walked from given arguments (some of them not looked at) -/
theorem vals_mk {y : MethodName} {own : String} {cc : ByteArray} {nL d U : Nat} {ret : Option FieldType} {T : List (Nat × Sem)} (hy : plainName y.cls = true) (hcls : y.cls = own) (hT : ∀ q ∈ T, Snd own cc nL d U ret q.1 q.2) (F : Nat)
    {l : Launch} (hl : l.stackTraces = false) {g : GPm} {ad : Nat → Nat → Nat} {K : List (Nat × Nat)} {s0 : Sg} {N : Nt} {X : Xt} (vs : List Value) (L : LC) (hlen : (lg_sl vs).length ≤ nL)
    (hsub : ∀ ls, lv_has ls nL (lv_args 0 vs) → lv_has ls nL (L.map (fun q => (q.1, cL ad q.2)))) (h : wp (lk T) (fun _ => none) U N X F 0 0 L [] s0) :
    vx_Met l y (wsM y cc nL ret) (rmD d U) (va_Pc vs (fun U => GS g U ∧ GP g ad K s0 U.heap)) (aQ g ad K N) (aX g ad K X) (U * cU) (U * sU) (gA g) := by
  subst hcls
  refine vx_ofW hy rfl ?_
  intro p e s m args below meth c s₁ B hml htab hv
  obtain ⟨rfl, hGS, hGP⟩ := hv
  have hC : CX g p l (headSpec (wsM y cc nL ret) (rmD d U)).room s m vs.toArray meth c y.cls cc nL d U ret (.code y cc nL ret) :=
    ⟨⟨B.exec, B.bytes, hml, findClass_of_methodNamed B.named, atoms_spec (ws := wsM y cc nL ret) B.pre⟩, hGS, B.notSynchronized, B.returns, rfl, hl, htab⟩
  have hQ : QX g s vs.toArray below ad K N X U (vx_MQ below (aQ g ad K N) (aX g ad K X) vs.toArray s (U * cU) (U * sU) (gA g)) := fun t q => q
  have key := wp_ok (e := e) hT hC hQ (C := fun _ => none) (fun pc P hP => nomatch hP) F 0 0 L [] s0 h
  rw [lg_entry_eq]
  have k2 := key s.heap [] _ hGP va_S.rf (hsub _ (lv_entry vs hlen))
  rw [Nat.zero_mul, Nat.zero_mul] at k2
  exact k2
theorem dJ3_checkIndex_8e157_0 : decode cJ3_checkIndex_8e157 0 = .ok (.iload_n 0, 1) := by decide +kernel
theorem dJ3_checkIndex_8e157_1 : decode cJ3_checkIndex_8e157 1 = .ok (.ifCond .lt 8, 3) := by decide +kernel
theorem dJ3_checkIndex_8e157_4 : decode cJ3_checkIndex_8e157 4 = .ok (.iload_n 0, 1) := by decide +kernel
theorem dJ3_checkIndex_8e157_5 : decode cJ3_checkIndex_8e157 5 = .ok (.iload_n 1, 1) := by decide +kernel
theorem dJ3_checkIndex_8e157_6 : decode cJ3_checkIndex_8e157 6 = .ok (.if_icmp .lt 10, 3) := by decide +kernel
theorem dJ3_checkIndex_8e157_9 : decode cJ3_checkIndex_8e157 9 = .ok (.aload_n 2, 1) := by decide +kernel
theorem dJ3_checkIndex_8e157_10 : decode cJ3_checkIndex_8e157 10 = .ok (.iload_n 0, 1) := by decide +kernel
theorem dJ3_checkIndex_8e157_11 : decode cJ3_checkIndex_8e157 11 = .ok (.iload_n 1, 1) := by decide +kernel
theorem dJ3_checkIndex_8e157_12 : decode cJ3_checkIndex_8e157 12 = .ok (.invokestatic 95, 3) := by decide +kernel
theorem dJ3_checkIndex_8e157_15 : decode cJ3_checkIndex_8e157 15 = .ok (.athrow, 1) := by decide +kernel
theorem dJ3_checkIndex_8e157_16 : decode cJ3_checkIndex_8e157 16 = .ok (.iload_n 0, 1) := by decide +kernel
theorem dJ3_checkIndex_8e157_17 : decode cJ3_checkIndex_8e157 17 = .ok (.ireturn, 1) := by decide +kernel
def tab_J3_checkIndex_8e157 : List (Nat × Sem) := [(0, op_il 0 1), (1, op_if (fun x => x < 0) 9 4), (4, op_il 0 5), (5, op_il 1 6), (6, op_cmp (fun x y => x < y) 16 9), (16, op_il 0 17), (17, op_iret)]
set_option maxRecDepth 20000 in
theorem tok_J3_checkIndex_8e157 : ∀ q ∈ tab_J3_checkIndex_8e157, Snd RJ3 cJ3_checkIndex_8e157 3 0 0 (some .int) q.1 q.2 := by
  unfold tab_J3_checkIndex_8e157
  refine tcons (ok_iload_n dJ3_checkIndex_8e157_0 rfl rfl) ?_
  refine tcons (ok_if_lt dJ3_checkIndex_8e157_1 rfl rfl) ?_
  refine tcons (ok_iload_n dJ3_checkIndex_8e157_4 rfl rfl) ?_
  refine tcons (ok_iload_n dJ3_checkIndex_8e157_5 rfl rfl) ?_
  refine tcons (ok_icmp_lt dJ3_checkIndex_8e157_6 rfl rfl) ?_
  refine tcons (ok_iload_n dJ3_checkIndex_8e157_16 rfl rfl) ?_
  refine tcons (ok_ireturn rfl dJ3_checkIndex_8e157_17) ?_
  exact fun _ h => nomatch h
set_option maxRecDepth 20000 in
theorem V_J3 {l : Launch} (hl : l.stackTraces = false) {g : GPm} {ad : Nat → Nat → Nat} {K : List (Nat × Nat)} {s0 : Sg} {N : Nt} {X : Xt} (i n : Int32) (h0 : ¬ i < 0) (hn : i < n) (h : N (some (aI i)) s0) :
    vx_Met l yJ3_checkIndex_8e157 (wsM yJ3_checkIndex_8e157 cJ3_checkIndex_8e157 3 (some .int)) (rmD 0 0) (va_Pc [.int i, .int n, .null] (fun U => GS g U ∧ GP g ad K s0 U.heap)) (aQ g ad K N) (aX g ad K X) (0 * cU) (0 * sU) (gA g) := by
  refine vals_mk (own := RJ3) (by decide) rfl tok_J3_checkIndex_8e157 20 hl [.int i, .int n, .null] [(0, .inl i), (1, .inl n)] (Nat.le_refl 3) (fun ls hl => lv_sub hl [0, 1] rfl) ?_
  repeat' (first | apply And.intro | (intro q; exact absurd q h0) | (intro q; exact absurd hn q) | intro _)
  all_goals first | (exact Nat.le_of_ble_eq_true rfl) | exact h
def op_chk (nx : Nat) : Sem := fun U k _ _ u L st s => match st with
  | .inl (.inl n) :: .inl (.inl i) :: st' => u ≤ U ∧ catS st' ≤ 8 ∧ 0 ≤ i ∧ i < n ∧ k nx u L (aI i :: st') s
  | _ => False
theorem ok_chk {own : String} {cc : ByteArray} {nL d U : Nat} {ret : Option FieldType} {pc nx idx : Nat} (h1 : Cond.methodLink own idx yJ3_checkIndex_8e157 ∈ TB) (h2 : Cond.static yJ3_checkIndex_8e157 ∈ TB) (h3 : Cond.initialized yJ3_checkIndex_8e157.cls ∈ TB) (h4 : Cond.code yJ3_checkIndex_8e157 cJ3_checkIndex_8e157 3 (some .int) ∈ TB)
    (hdd : 1 ≤ d) (hd0 : decode cc pc = .ok (.aconst_null, 1)) (hd : decode cc (pc + 1) = .ok (.invokestatic idx, 3)) (hn : pc + 4 = nx) : Snd own cc nL d U ret pc (op_chk nx) := by
  intro g p l e R s m args below meth c w0 hC ad K N X Q hQ k hk u L st s0 h
  subst hn
  intro H locs ls hP hS hl
  unfold op_chk at h
  split at h
  · rename_i n i st'
    obtain ⟨hu, hcat, hi0, hin, h⟩ := h
    have hC' := hC
    obtain ⟨hF, hGS, hlk, hret, hR, hl0, htab⟩ := hC'
    subst hR
    have hG : GoodIn (w0 :: TB) (va_wsS own idx yJ3_checkIndex_8e157 (wsM yJ3_checkIndex_8e157 cJ3_checkIndex_8e157 3 (some .int))) := TB_in (by
      intro w hw
      simp only [va_wsS, wsM, List.cons_append, List.nil_append, List.mem_cons] at hw
      rcases hw with rfl | rfl | rfl | rfl | hw
      · exact h1
      · exact h2
      · exact h3
      · exact h4
      · exact hw)
    refine lv_null hC.1.1 hC.1.2.1 hd0 ?_
    refine run_ok (w := 0) (pc := pc + 1) hC hQ hu (vx_runS (As := [.int i, .int n, .null]) (rest := st'.map (cv ad)) hF (V_J3 hl0 (N := fun r s' => r = some (aI i) ∧ s' = s0) i n (Int32.not_lt.mpr hi0) hin ⟨rfl, rfl⟩) (va_cwS 3 hF.2.2.2.2 hG rfl rfl rfl ⟨by decide, by decide, by decide +kernel⟩ (rm_fit hdd (by decide)))
      ⟨GP_blind, fun U9 hU hW => ⟨rfl, GS_moved hGS hW (locs := locs) (by rw [hU]; exact hS), by rw [hU]; exact hP⟩⟩ rfl rfl hl.1 rfl (lv_room (by rw [catS_ok]; exact hcat)) hd
      ⟨by show u * cU + 0 * cU ≤ U * cU; rw [← Nat.add_mul]; exact Nat.mul_le_mul_right _ hu, by show u * sU + 0 * sU ≤ U * sU; rw [← Nat.add_mul]; exact Nat.mul_le_mul_right _ hu⟩) hS ?_
    intro v s' H1 locs1 hN hP1 hS1
    obtain ⟨rfl, rfl⟩ := hN
    exact hk _ _ _ _ _ h H1 locs1 ls hP1 hS1 hl
  · exact h.elim
def sp_J15_checkIndex_7cf53 : Spc := fun av s N _ => match av with
  | [.inl (.inl i), .inl (.inl n)] => 0 ≤ i ∧ i < n ∧ N (some (aI i)) s
  | _ => False
theorem dJ15_checkIndex_7cf53_0 : decode cJ15_checkIndex_7cf53 0 = .ok (.iload_n 0, 1) := by decide +kernel
theorem dJ15_checkIndex_7cf53_1 : decode cJ15_checkIndex_7cf53 1 = .ok (.iload_n 1, 1) := by decide +kernel
theorem dJ15_checkIndex_7cf53_2 : decode cJ15_checkIndex_7cf53 2 = .ok (.aconst_null, 1) := by decide +kernel
theorem dJ15_checkIndex_7cf53_3 : decode cJ15_checkIndex_7cf53 3 = .ok (.invokestatic 105, 3) := by decide +kernel
theorem dJ15_checkIndex_7cf53_6 : decode cJ15_checkIndex_7cf53 6 = .ok (.ireturn, 1) := by decide +kernel
def tab_J15_checkIndex_7cf53 : List (Nat × Sem) := [(0, op_il 0 1), (1, op_il 1 2), (2, op_chk 6), (6, op_iret)]
set_option maxRecDepth 20000 in
theorem tok_J15_checkIndex_7cf53 : ∀ q ∈ tab_J15_checkIndex_7cf53, Snd RJ15 cJ15_checkIndex_7cf53 2 1 0 (some .int) q.1 q.2 := by
  unfold tab_J15_checkIndex_7cf53
  refine tcons (ok_iload_n dJ15_checkIndex_7cf53_0 rfl rfl) ?_
  refine tcons (ok_iload_n dJ15_checkIndex_7cf53_1 rfl rfl) ?_
  refine tcons (ok_chk w_371 w_372 w_37 w_373 (by decide) dJ15_checkIndex_7cf53_2 dJ15_checkIndex_7cf53_3 rfl) ?_
  refine tcons (ok_ireturn rfl dJ15_checkIndex_7cf53_6) ?_
  exact fun _ h => nomatch h
set_option maxRecDepth 20000 in
set_option maxHeartbeats 2000000 in
theorem M_J15_checkIndex_7cf53 : AMet yJ15_checkIndex_7cf53 cJ15_checkIndex_7cf53 2 (some .int) 1 0 sp_J15_checkIndex_7cf53 := by
  refine AMet.mk (own := RJ15) (by decide) rfl [0, 1] rfl tok_J15_checkIndex_7cf53 200 ?_
  intro av s0 N X h
  unfold sp_J15_checkIndex_7cf53 at h
  split at h
  rotate_left
  · exact h.elim
  refine ⟨fun _ => none, ?_, fun pc P hP => nomatch hP⟩
  repeat' (first | apply And.intro | (intro q; exact absurd q (by decide)) | intro _)
  all_goals first | decide | (exact (rfl : (0 : Nat) = 0)) | (exact Nat.le_of_ble_eq_true rfl) | (exact h.1) | (exact h.2.1) | exact h.2.2
theorem dJx4a65c_size_8abf5_0 : decode cJx4a65c_size_8abf5 0 = .ok (.aload_n 0, 1) := by decide +kernel
theorem dJx4a65c_size_8abf5_1 : decode cJx4a65c_size_8abf5 1 = .ok (.getfield 48, 3) := by decide +kernel
theorem dJx4a65c_size_8abf5_4 : decode cJx4a65c_size_8abf5 4 = .ok (.ireturn, 1) := by decide +kernel
def tab_Jx4a65c_size_8abf5 : List (Nat × Sem) := [(0, op_al 0 1), (1, op_gf 1 2 4), (4, op_iret)]
set_option maxRecDepth 20000 in
theorem tok_Jx4a65c_size_8abf5 : ∀ q ∈ tab_Jx4a65c_size_8abf5, Snd RJx4a65c cJx4a65c_size_8abf5 1 0 0 (some .int) q.1 q.2 := by
  unfold tab_Jx4a65c_size_8abf5
  refine tcons (ok_aload_n dJx4a65c_size_8abf5_0 rfl rfl) ?_
  refine tcons (ok_getfield (C := RJx4a65c) (T := TJx4a65c) (n := 3) rfl in_Jx4a65c (by decide) w_70 dJx4a65c_size_8abf5_1 rfl) ?_
  refine tcons (ok_ireturn rfl dJx4a65c_size_8abf5_4) ?_
  exact fun _ h => nomatch h
def sp_Jx4a65c_size_8abf5 : Spc := fun av s N _ => match av with
  | [.inl (.inr (2, a))] => a < 3 ∧ N (some (aI (nI (s.1 a)))) s
  | _ => False
set_option maxRecDepth 20000 in
set_option maxHeartbeats 2000000 in
theorem M_Jx4a65c_size_8abf5 : AMet yJx4a65c_size_8abf5 cJx4a65c_size_8abf5 1 (some .int) 0 0 sp_Jx4a65c_size_8abf5 := by
  refine AMet.mk (own := RJx4a65c) (by decide) rfl [0] rfl tok_Jx4a65c_size_8abf5 200 ?_
  intro av s0 N X h
  unfold sp_Jx4a65c_size_8abf5 at h
  split at h
  rotate_left
  · exact h.elim
  refine ⟨fun _ => none, ?_, fun pc P hP => nomatch hP⟩
  repeat' (first | apply And.intro | (intro q; exact absurd q (by decide)) | intro _)
  all_goals first | decide | (exact (rfl : (0 : Nat) = 0)) | (exact Nat.le_of_ble_eq_true rfl) | (exact h.1) | exact h.2
/-- a list keeps within its row -/
def Gd (s : Sg) (a : Nat) : Prop := (s.1 a ≤ s.1 (3 + a) ∧ s.1 (3 + a) < 100) = True
theorem inC_nI {j : Int32} {n : Nat} (h0 : 0 ≤ j) (h : j < nI n) (hn : n < 2 ^ 31) : ∃ i, i < n ∧ j = nI i := by
  have a := Int32.le_iff_toInt_le.mp h0
  have b := Int32.lt_iff_toInt_lt.mp h
  rw [nI_toInt hn] at b
  rw [show (0 : Int32).toInt = 0 from rfl] at a
  refine ⟨j.toInt.toNat, by omega, Int32.toInt_inj.mp ?_⟩
  rw [nI_toInt (by omega)]
  omega
theorem inC_cl {j : Int32} {n : Nat} (h0 : 0 ≤ j) (h : j < nI n) (hn : n < 2 ^ 31) : cl j < n := by
  obtain ⟨i, hi, rfl⟩ := inC_nI h0 h hn
  rw [show cl (nI i) = i from nI_clamp (by omega)]
  exact hi
theorem dJx4a65c_elementData_915e3_0 : decode cJx4a65c_elementData_915e3 0 = .ok (.aload_n 0, 1) := by decide +kernel
theorem dJx4a65c_elementData_915e3_1 : decode cJx4a65c_elementData_915e3 1 = .ok (.getfield 9, 3) := by decide +kernel
theorem dJx4a65c_elementData_915e3_4 : decode cJx4a65c_elementData_915e3 4 = .ok (.iload_n 1, 1) := by decide +kernel
theorem dJx4a65c_elementData_915e3_5 : decode cJx4a65c_elementData_915e3 5 = .ok (.aaload, 1) := by decide +kernel
theorem dJx4a65c_elementData_915e3_6 : decode cJx4a65c_elementData_915e3 6 = .ok (.areturn, 1) := by decide +kernel
def tab_Jx4a65c_elementData_915e3 : List (Nat × Sem) := [(0, op_al 0 1), (1, op_gf 1 1 4), (4, op_il 1 5), (5, op_aald 6), (6, op_aret)]
set_option maxRecDepth 20000 in
theorem tok_Jx4a65c_elementData_915e3 : ∀ q ∈ tab_Jx4a65c_elementData_915e3, Snd RJx4a65c cJx4a65c_elementData_915e3 2 0 0 (some (.object "java/lang/Object")) q.1 q.2 := by
  unfold tab_Jx4a65c_elementData_915e3
  refine tcons (ok_aload_n dJx4a65c_elementData_915e3_0 rfl rfl) ?_
  refine tcons (ok_getfield (C := RJx4a65c) (T := TJx4a65c) (n := 3) rfl in_Jx4a65c (by decide) w_69 dJx4a65c_elementData_915e3_1 rfl) ?_
  refine tcons (ok_iload_n dJx4a65c_elementData_915e3_4 rfl rfl) ?_
  refine tcons (ok_aaload dJx4a65c_elementData_915e3_5 rfl) ?_
  refine tcons (ok_areturn rfl dJx4a65c_elementData_915e3_6) ?_
  exact fun _ h => nomatch h
def sp_Jx4a65c_elementData_915e3 : Spc := fun av s N _ => match av with
  | [.inl (.inr (2, a)), .inl (.inl j)] => a < 3 ∧ Gd s a ∧ 0 ≤ j ∧ j < nI (s.1 a) ∧ N (some (aR (12 + a) (cl j))) s
  | _ => False
set_option maxRecDepth 20000 in
set_option maxHeartbeats 2000000 in
theorem M_Jx4a65c_elementData_915e3 : AMet yJx4a65c_elementData_915e3 cJx4a65c_elementData_915e3 2 (some (.object "java/lang/Object")) 0 0 sp_Jx4a65c_elementData_915e3 := by
  refine AMet.mc (own := RJx4a65c) (by decide) rfl [0, 1] rfl tok_Jx4a65c_elementData_915e3 200 ?_
  intro av s0 N X h
  unfold sp_Jx4a65c_elementData_915e3 at h
  split at h
  rotate_left
  · exact h.elim
  rename_i a j
  obtain ⟨ha, hg, h0, h1, h⟩ := h
  obtain ⟨hle, hlt⟩ := of_eq_true hg
  obtain ⟨i, hi, rfl⟩ := inC_nI h0 h1 (by omega)
  have ci : (nI i).toNatClampNeg = i := nI_clamp (by omega)
  have hb : Ib (nI i) (s0.1 (3 + a)) := nIb (by omega) (by omega)
  refine ⟨[], ?_, an⟩
  repeat' (first | apply And.intro | (intro q; exact absurd q (by decide)) | intro _)
  all_goals first | (with_reducible exact hb) | decide | (exact Nat.le_of_ble_eq_true rfl) | (exact ha) | (rw [ci]; exact Nat.lt_of_lt_of_le hi (Nat.le_add_right _ _)) | (show 0 < s0.1 (3 + a); omega) | exact h
theorem dJx4a65c_get_915e3_0 : decode cJx4a65c_get_915e3 0 = .ok (.iload_n 1, 1) := by decide +kernel
theorem dJx4a65c_get_915e3_1 : decode cJx4a65c_get_915e3 1 = .ok (.aload_n 0, 1) := by decide +kernel
theorem dJx4a65c_get_915e3_2 : decode cJx4a65c_get_915e3 2 = .ok (.getfield 48, 3) := by decide +kernel
theorem dJx4a65c_get_915e3_5 : decode cJx4a65c_get_915e3 5 = .ok (.invokestatic 118, 3) := by decide +kernel
theorem dJx4a65c_get_915e3_8 : decode cJx4a65c_get_915e3 8 = .ok (.pop, 1) := by decide +kernel
theorem dJx4a65c_get_915e3_9 : decode cJx4a65c_get_915e3 9 = .ok (.aload_n 0, 1) := by decide +kernel
theorem dJx4a65c_get_915e3_10 : decode cJx4a65c_get_915e3 10 = .ok (.iload_n 1, 1) := by decide +kernel
theorem dJx4a65c_get_915e3_11 : decode cJx4a65c_get_915e3 11 = .ok (.invokevirtual 123, 3) := by decide +kernel
theorem dJx4a65c_get_915e3_14 : decode cJx4a65c_get_915e3 14 = .ok (.areturn, 1) := by decide +kernel
def tab_Jx4a65c_get_915e3 : List (Nat × Sem) := [(0, op_il 1 1), (1, op_al 0 2), (2, op_gf 1 2 5), (5, op_call sp_J15_checkIndex_7cf53 2 0 8), (8, op_pop 9), (9, op_al 0 10), (10, op_il 1 11), (11, op_callV 1 sp_Jx4a65c_elementData_915e3 2 0 14), (14, op_aret)]
set_option maxRecDepth 20000 in
theorem tok_Jx4a65c_get_915e3 : ∀ q ∈ tab_Jx4a65c_get_915e3, Snd RJx4a65c cJx4a65c_get_915e3 2 2 0 (some (.object "java/lang/Object")) q.1 q.2 := by
  unfold tab_Jx4a65c_get_915e3
  refine tcons (ok_iload_n dJx4a65c_get_915e3_0 rfl rfl) ?_
  refine tcons (ok_aload_n dJx4a65c_get_915e3_1 rfl rfl) ?_
  refine tcons (ok_getfield (C := RJx4a65c) (T := TJx4a65c) (n := 3) rfl in_Jx4a65c (by decide) w_70 dJx4a65c_get_915e3_2 rfl) ?_
  refine tcons (ok_invokestatic M_J15_checkIndex_7cf53 w_368 w_369 w_36 w_370 ⟨by decide, by decide, by decide +kernel⟩ (by decide) (by decide) dJx4a65c_get_915e3_5 rfl) ?_
  refine tcons (ok_pop dJx4a65c_get_915e3_8 rfl) ?_
  refine tcons (ok_aload_n dJx4a65c_get_915e3_9 rfl rfl) ?_
  refine tcons (ok_iload_n dJx4a65c_get_915e3_10 rfl rfl) ?_
  refine tcons (ok_invokevirtual M_Jx4a65c_elementData_915e3 (C := RJx4a65c) (T := TJx4a65c) (nf := 3) rfl w_374 w_375 w_376 w_23 w_377 ⟨rfl, by decide, by decide, by decide +kernel⟩ (by decide) (by decide) dJx4a65c_get_915e3_11 rfl) ?_
  refine tcons (ok_areturn rfl dJx4a65c_get_915e3_14) ?_
  exact fun _ h => nomatch h
def sp_Jx4a65c_get_915e3 : Spc := fun av s N _ => match av with
  | [.inl (.inr (2, a)), .inl (.inl j)] => a < 3 ∧ Gd s a ∧ 0 ≤ j ∧ j < nI (s.1 a) ∧ N (some (aR (12 + a) (cl j))) s
  | _ => False
set_option maxRecDepth 20000 in
set_option maxHeartbeats 2000000 in
theorem M_Jx4a65c_get_915e3 : AMet yJx4a65c_get_915e3 cJx4a65c_get_915e3 2 (some (.object "java/lang/Object")) 2 0 sp_Jx4a65c_get_915e3 := by
  refine AMet.mk (own := RJx4a65c) (by decide) rfl [0, 1] rfl tok_Jx4a65c_get_915e3 200 ?_
  intro av s0 N X h
  unfold sp_Jx4a65c_get_915e3 at h
  split at h
  rotate_left
  · exact h.elim
  refine ⟨fun _ => none, ?_, fun pc P hP => nomatch hP⟩
  repeat' (first | apply And.intro | (intro q; exact absurd q (by decide)) | intro _)
  all_goals first | decide | (exact (rfl : (0 : Nat) = 0)) | (exact Nat.le_of_ble_eq_true rfl) | (exact h.1) | (exact h.2.1) | (exact h.2.2.1) | (exact h.2.2.2.1) | exact h.2.2.2.2

