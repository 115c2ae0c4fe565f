/-! builders of text: methods -/
theorem w_40 : (.initialized "java/lang/AbstractStringBuilder" : Cond) ∈ TB := TB_mem (List.mem_of_getElem? (i := 40) (by decide +kernel)) rfl
theorem w_42 : (.initialized "java/lang/String" : Cond) ∈ TB := TB_mem (List.mem_of_getElem? (i := 42) (by decide +kernel)) rfl
theorem w_730 : (.fieldLink "java/lang/AbstractStringBuilder" 18 "java/lang/String" "COMPACT_STRINGS" "Z" : Cond) ∈ TB := TB_mem (List.mem_of_getElem? (i := 730) (by decide +kernel)) rfl
theorem w_739 : (.fieldLink "java/lang/AbstractStringBuilder" 15 "java/lang/AbstractStringBuilder" "value" "[B" : Cond) ∈ TB := TB_mem (List.mem_of_getElem? (i := 739) (by decide +kernel)) rfl
theorem w_740 : (.fieldLink "java/lang/AbstractStringBuilder" 22 "java/lang/AbstractStringBuilder" "coder" "B" : Cond) ∈ TB := TB_mem (List.mem_of_getElem? (i := 740) (by decide +kernel)) rfl
theorem w_818 : (.methodLink "java/lang/String" 335 ⟨"java/lang/String", "coder", "()B"⟩ : Cond) ∈ TB := TB_mem (List.mem_of_getElem? (i := 818) (by decide +kernel)) rfl
theorem w_819 : (.instanceMethod ⟨"java/lang/String", "coder", "()B"⟩ : Cond) ∈ TB := TB_mem (List.mem_of_getElem? (i := 819) (by decide +kernel)) rfl
theorem w_820 : (.selects "java/lang/String" ⟨"java/lang/String", "coder", "()B"⟩ ⟨"java/lang/String", "coder", "()B"⟩ : Cond) ∈ TB := TB_mem (List.mem_of_getElem? (i := 820) (by decide +kernel)) rfl
theorem w_821 : (.code yJ0_coder_7d493 cJ0_coder_7d493 1 (some .byte) : Cond) ∈ TB := TB_mem (List.mem_of_getElem? (i := 821) (by decide +kernel)) rfl
theorem w_822 : (.fieldLink "java/lang/String" 38 "java/lang/String" "COMPACT_STRINGS" "Z" : Cond) ∈ TB := TB_mem (List.mem_of_getElem? (i := 822) (by decide +kernel)) rfl
theorem w_827 : (.methodLink "java/lang/AbstractStringBuilder" 397 ⟨"java/lang/AbstractStringBuilder", "inflateIfNeededFor", "(Ljava/lang/String;)V"⟩ : Cond) ∈ TB := TB_mem (List.mem_of_getElem? (i := 827) (by decide +kernel)) rfl
theorem w_829 : (.instanceMethod ⟨"java/lang/AbstractStringBuilder", "inflateIfNeededFor", "(Ljava/lang/String;)V"⟩ : Cond) ∈ TB := TB_mem (List.mem_of_getElem? (i := 829) (by decide +kernel)) rfl
theorem w_830 : (.code yJ5_inflateIfNeededFor_a7421 cJ5_inflateIfNeededFor_a7421 2 none : Cond) ∈ TB := TB_mem (List.mem_of_getElem? (i := 830) (by decide +kernel)) rfl
theorem w_831 : (.methodLink "java/lang/AbstractStringBuilder" 40 ⟨"java/lang/String", "coder", "()B"⟩ : Cond) ∈ TB := TB_mem (List.mem_of_getElem? (i := 831) (by decide +kernel)) rfl
theorem w_851 : (.methodLink "java/lang/AbstractStringBuilder" 399 ⟨"java/lang/String", "getBytes", "([BIB)V"⟩ : Cond) ∈ TB := TB_mem (List.mem_of_getElem? (i := 851) (by decide +kernel)) rfl
theorem w_852 : (.instanceMethod ⟨"java/lang/String", "getBytes", "([BIB)V"⟩ : Cond) ∈ TB := TB_mem (List.mem_of_getElem? (i := 852) (by decide +kernel)) rfl
theorem w_853 : (.selects "java/lang/String" ⟨"java/lang/String", "getBytes", "([BIB)V"⟩ ⟨"java/lang/String", "getBytes", "([BIB)V"⟩ : Cond) ∈ TB := TB_mem (List.mem_of_getElem? (i := 853) (by decide +kernel)) rfl
theorem w_854 : (.code yJ0_getBytes_840e7 cJ0_getBytes_840e7 4 none : Cond) ∈ TB := TB_mem (List.mem_of_getElem? (i := 854) (by decide +kernel)) rfl
theorem w_855 : (.methodLink "java/lang/String" 212 ⟨"java/lang/System", "arraycopy", "(Ljava/lang/Object;ILjava/lang/Object;II)V"⟩ : Cond) ∈ TB := TB_mem (List.mem_of_getElem? (i := 855) (by decide +kernel)) rfl
theorem w_953 : (.sameMethod "java/lang/AbstractStringBuilder" "java/lang/AbstractStringBuilder" "inflateIfNeededFor" "(Ljava/lang/String;)V" : Cond) ∈ TB := TB_mem (List.mem_of_getElem? (i := 953) (by decide +kernel)) rfl
theorem w_978 : (.fieldLink "java/lang/String" 9 "java/lang/String" "value" "[B" : Cond) ∈ TB := TB_mem (List.mem_of_getElem? (i := 978) (by decide +kernel)) rfl
theorem w_979 : (.fieldLink "java/lang/String" 15 "java/lang/String" "coder" "B" : Cond) ∈ TB := TB_mem (List.mem_of_getElem? (i := 979) (by decide +kernel)) rfl
def SBS (s : Sg) (c : Nat) : Prop := (s.1 12 = 1 ∧ s.1 17 = 0 ∧ s.1 14 = 0 ∧ (s.1 13 = 16 ∨ s.1 13 = 34) ∧ c ≤ s.1 13 ∧ s.2.1 18 0 1 = 0 ∧ s.2.1 18 0 3 = nI c ∧ ∀ j, fits .byte (.int (s.2.1 19 0 j)) = true) = True
/-- all else is as it was, so are the builder's first c bytes -/
def eqB (s s' : Sg) (c : Nat) : Prop := (s'.2.2 = s.2.2 ∧ (∀ k, ¬ k = 13 → ¬ k = 17 → s'.1 k = s.1 k) ∧ (∀ t i j, ¬ t = 18 → ¬ t = 19 → ¬ t = 58 → s'.2.1 t i j = s.2.1 t i j) ∧ ∀ j, j < c → s'.2.1 19 0 j = s.2.1 19 0 j) = True
theorem eqB_rf {s : Sg} {c : Nat} : eqB s s c := eq_true ⟨rfl, fun _ _ _ => rfl, fun _ _ _ _ _ _ => rfl, fun _ _ => rfl⟩
theorem eqB_tr {s s1 s2 : Sg} {c c1 : Nat} (hc : c ≤ c1) (h1 : eqB s s1 c) (h2 : eqB s1 s2 c1) : eqB s s2 c := by
  have a := of_eq_true h1
  have b := of_eq_true h2
  exact eq_true ⟨b.1.trans a.1, fun k h h' => (b.2.1 k h h').trans (a.2.1 k h h'), fun t i j h h' h'' => (b.2.2.1 t i j h h' h'').trans (a.2.2.1 t i j h h' h''), fun j hj => (b.2.2.2 j (by omega)).trans (a.2.2.2 j hj)⟩
theorem SBS_L {s : Sg} {c : Nat} (h : SBS s c) : Lv s 18 0 := by show 0 < s.1 12; rw [(of_eq_true h).1]; decide
theorem SBS_L19 {s : Sg} {c : Nat} (h : SBS s c) : Lv s 19 0 := by show 0 < s.1 12; rw [(of_eq_true h).1]; decide
set_option maxRecDepth 20000 in
theorem V_J3v {l : Launch} (hl : l.stackTraces = false) {g : GPm} {ad : Nat → Nat → Nat} {K : List (Nat × Nat)} {s0 : Sg} {N : Nt} {X : Xt} (i n : Int32) {v : Value} (hv : v = .null ∨ ∃ t, v = .ref t) (h0 : ¬ i < 0) (hn : i < n) (h : N (some (aI i)) s0) :
    vx_Met l yJ3_checkIndex_8e157 (wsM yJ3_checkIndex_8e157 cJ3_checkIndex_8e157 3 (some .int)) (rmD 0 0) (va_Pc [.int i, .int n, v] (fun U => GS g U ∧ GP g ad K s0 U.heap)) (aQ g ad K N) (aX g ad K X) (0 * cU) (0 * sU) (gA g) := by
  rcases hv with rfl | ⟨t, rfl⟩
  · exact V_J3 hl i n h0 hn h
  · refine vals_mk (own := RJ3) (by decide) rfl tok_J3_checkIndex_8e157 20 hl [.int i, .int n, .ref t] [(0, .inl i), (1, .inl n)] (Nat.le_refl 3) (fun ls hl => lv_sub hl [0, 1] rfl) ?_
    repeat' (first | apply And.intro | (intro q; exact absurd q h0) | (intro q; exact absurd hn q) | intro _)
    all_goals first | (exact Nat.le_of_ble_eq_true rfl) | exact h
theorem ok_chkS {own cn nm ds : String} {cc : ByteArray} {nL d U : Nat} {ret : Option FieldType} {pc nx idx fi : Nat} (hZ : ∀ (g : GPm) (U : State), GS g U → va_Zq cn nm ds (gA g) U U.heap) (hf : Cond.fieldLink own fi cn nm ds ∈ TB) (h1 : Cond.methodLink own idx yJ3_checkIndex_8e157 ∈ TB) (h2 : Cond.static yJ3_checkIndex_8e157 ∈ TB) (h3 : Cond.initialized yJ3_checkIndex_8e157.cls ∈ TB) (h4 : Cond.code yJ3_checkIndex_8e157 cJ3_checkIndex_8e157 3 (some .int) ∈ TB)
    (hdd : 1 ≤ d) (hd0 : decode cc pc = .ok (.getstatic fi, 3)) (hd : decode cc (pc + 3) = .ok (.invokestatic idx, 3)) (hn : pc + 6 = nx) : Snd own cc nL d U ret pc (op_chk nx) := by
  intro g p l e R s m args below meth c w0 hC ad K N X Q hQ k hk u L st s0 h
  subst hn
  intro H locs ls hP hS hl
  unfold op_chk at h
  split at h
  · rename_i n i st'
    obtain ⟨hu, hcat, hi0, hin, h⟩ := h
    have hC' := hC
    obtain ⟨hF, hGS, hlk, hret, hR, hl0, htab⟩ := hC'
    subst hR
    have hG : GoodIn (w0 :: TB) (va_wsS own idx yJ3_checkIndex_8e157 (wsM yJ3_checkIndex_8e157 cJ3_checkIndex_8e157 3 (some .int))) := TB_in (by
      intro w hw
      simp only [va_wsS, wsM, List.cons_append, List.nil_append, List.mem_cons] at hw
      rcases hw with rfl | rfl | rfl | rfl | hw
      · exact h1
      · exact h2
      · exact h3
      · exact h4
      · exact hw)
    have go : ∀ v : Value, (v = .null ∨ ∃ t, v = .ref t) → W p l e (rmD d U) s m args below meth c H locs (u * cU) (u * sU) Q (F0 m (pc + 3) ls (v :: .int n :: .int i :: st'.map (cv ad))) := by
      intro v hv
      have hc : (lg_sl [.int i, .int n, v]).length = 3 := by rcases hv with rfl | ⟨t, rfl⟩ <;> rfl
      refine run_ok (w := 0) (pc := pc + 3) hC hQ hu (vx_runS (As := [.int i, .int n, v]) (rest := st'.map (cv ad)) hF (V_J3v hl0 (N := fun r s' => r = some (aI i) ∧ s' = s0) i n hv (Int32.not_lt.mpr hi0) hin ⟨rfl, rfl⟩) (va_cwS 3 hF.2.2.2.2 hG rfl rfl rfl ⟨by decide, by decide, by decide +kernel⟩ (rm_fit hdd (by decide)))
        ⟨GP_blind, fun U9 hU hW => ⟨rfl, GS_moved hGS hW (locs := locs) (by rw [hU]; exact hS), by rw [hU]; exact hP⟩⟩ rfl rfl hl.1 rfl (lv_room (by rw [catS_ok]; exact hcat)) hd
        ⟨by show u * cU + 0 * cU ≤ U * cU; rw [← Nat.add_mul]; exact Nat.mul_le_mul_right _ hu, by show u * sU + 0 * sU ≤ U * sU; rw [← Nat.add_mul]; exact Nat.mul_le_mul_right _ hu⟩) hS ?_
      intro v s' H1 locs1 hN hP1 hS1
      obtain ⟨rfl, rfl⟩ := hN
      exact hk _ _ _ _ _ h H1 locs1 ls hP1 hS1 hl
    rcases hZ g s hGS with hz | ⟨t, hz⟩
    · exact va_gets hF.1 hF.2.1 hz hS hF.2.2.2.1 (hF.2.2.2.2 _ (List.mem_cons_of_mem _ hf)) (fun _ q => q) hd0 (go _ (Or.inl rfl))
    · exact va_gets hF.1 hF.2.1 hz hS hF.2.2.2.1 (hF.2.2.2.2 _ (List.mem_cons_of_mem _ hf)) (fun _ q => q) hd0 (go _ (Or.inr ⟨t, rfl⟩))
  · exact h.elim
theorem dJ0_coder_7d493_0 : decode cJ0_coder_7d493 0 = .ok (.getstatic 38, 3) := by decide +kernel
theorem dJ0_coder_7d493_3 : decode cJ0_coder_7d493 3 = .ok (.ifCond .eq 10, 3) := by decide +kernel
theorem dJ0_coder_7d493_6 : decode cJ0_coder_7d493 6 = .ok (.aload_n 0, 1) := by decide +kernel
theorem dJ0_coder_7d493_7 : decode cJ0_coder_7d493 7 = .ok (.getfield 15, 3) := by decide +kernel
theorem dJ0_coder_7d493_10 : decode cJ0_coder_7d493 10 = .ok (.goto 4, 3) := by decide +kernel
theorem dJ0_coder_7d493_13 : decode cJ0_coder_7d493 13 = .ok (.iconst 1, 1) := by decide +kernel
theorem dJ0_coder_7d493_14 : decode cJ0_coder_7d493 14 = .ok (.ireturn, 1) := by decide +kernel
def tab_J0_coder_7d493 : List (Nat × Sem) := [(0, op_gsi 1 3), (3, op_if (fun x => x = 0) 13 6), (6, op_al 0 7), (7, op_gfTc 10), (10, op_go 14), (13, op_ic 1 14), (14, op_bret)]
set_option maxRecDepth 20000 in
theorem tok_J0_coder_7d493 : ∀ q ∈ tab_J0_coder_7d493, Snd RJ0 cJ0_coder_7d493 1 0 0 (some .byte) q.1 q.2 := by
  unfold tab_J0_coder_7d493
  refine tcons (ok_gsi (v := 1) (fun g U h => (gz h).2.2.1) w_822 dJ0_coder_7d493_0 rfl) ?_
  refine tcons (ok_if_eq dJ0_coder_7d493_3 rfl rfl) ?_
  refine tcons (ok_aload_n dJ0_coder_7d493_6 rfl rfl) ?_
  refine tcons (ok_gfTc w_979 dJ0_coder_7d493_7 rfl) ?_
  refine tcons (ok_goto dJ0_coder_7d493_10 rfl) ?_
  refine tcons (ok_iconst dJ0_coder_7d493_13 rfl rfl) ?_
  refine tcons (ok_breturn rfl dJ0_coder_7d493_14) ?_
  exact fun _ h => nomatch h
def sp_J0_coder_7d493 : Spc := fun av s N _ => match av with
  | [.inl (.inr (70, i))] => i < 3 ∧ N (some (aI 0)) s
  | _ => False
set_option maxRecDepth 20000 in
set_option maxHeartbeats 2000000 in
theorem M_J0_coder_7d493 : AMet yJ0_coder_7d493 cJ0_coder_7d493 1 (some .byte) 0 0 sp_J0_coder_7d493 := by
  refine AMet.mk (own := RJ0) (by decide) rfl [0] rfl tok_J0_coder_7d493 200 ?_
  intro av s0 N X h
  unfold sp_J0_coder_7d493 at h
  split at h
  rotate_left
  · exact h.elim
  refine ⟨fun _ => none, ?_, fun pc P hP => nomatch hP⟩
  repeat' (first | apply And.intro | (intro q; exact absurd q (by decide)) | intro _)
  all_goals first | decide | (exact (rfl : (0 : Nat) = 0)) | (exact Nat.le_of_ble_eq_true rfl) | (exact h.1) | (exact h.2)
theorem dJ0_length_8abf5_0 : decode cJ0_length_8abf5 0 = .ok (.aload_n 0, 1) := by decide +kernel
theorem dJ0_length_8abf5_1 : decode cJ0_length_8abf5 1 = .ok (.getfield 9, 3) := by decide +kernel
theorem dJ0_length_8abf5_4 : decode cJ0_length_8abf5 4 = .ok (.arraylength, 1) := by decide +kernel
theorem dJ0_length_8abf5_5 : decode cJ0_length_8abf5 5 = .ok (.aload_n 0, 1) := by decide +kernel
theorem dJ0_length_8abf5_6 : decode cJ0_length_8abf5 6 = .ok (.invokevirtual 335, 3) := by decide +kernel
theorem dJ0_length_8abf5_9 : decode cJ0_length_8abf5 9 = .ok (.ishr, 1) := by decide +kernel
theorem dJ0_length_8abf5_10 : decode cJ0_length_8abf5 10 = .ok (.ireturn, 1) := by decide +kernel
def tab_J0_length_8abf5 : List (Nat × Sem) := [(0, op_al 0 1), (1, op_gfTv 4), (4, op_alenB 5), (5, op_al 0 6), (6, op_callT sp_J0_coder_7d493 1 0 9), (9, op_bin (fun x y => x >>> (y &&& 31)) 10), (10, op_iret)]
set_option maxRecDepth 20000 in
theorem tok_J0_length_8abf5 : ∀ q ∈ tab_J0_length_8abf5, Snd RJ0 cJ0_length_8abf5 1 1 0 (some .int) q.1 q.2 := by
  unfold tab_J0_length_8abf5
  refine tcons (ok_aload_n dJ0_length_8abf5_0 rfl rfl) ?_
  refine tcons (ok_gfTv w_978 dJ0_length_8abf5_1 rfl) ?_
  refine tcons (ok_alenB dJ0_length_8abf5_4 rfl) ?_
  refine tcons (ok_aload_n dJ0_length_8abf5_5 rfl rfl) ?_
  refine tcons (ok_callT M_J0_coder_7d493 w_818 w_819 w_820 w_42 w_821 ⟨rfl, by decide, by decide, by decide +kernel⟩ (by decide) (by decide) dJ0_length_8abf5_6 rfl) ?_
  refine tcons (ok_ishr dJ0_length_8abf5_9 rfl) ?_
  refine tcons (ok_ireturn rfl dJ0_length_8abf5_10) ?_
  exact fun _ h => nomatch h
theorem lit_len : ∀ i, i < 3 → nI (litN i) >>> ((0 : Int32) &&& 31) = nI (litN i) := by decide
def sp_J0_length_8abf5 : Spc := fun av s N _ => match av with
  | [.inl (.inr (70, i))] => i < 3 ∧ N (some (aI (nI (litN i)))) s
  | _ => False
set_option maxRecDepth 20000 in
set_option maxHeartbeats 2000000 in
theorem M_J0_length_8abf5 : AMet yJ0_length_8abf5 cJ0_length_8abf5 1 (some .int) 1 0 sp_J0_length_8abf5 := by
  refine AMet.mk (own := RJ0) (by decide) rfl [0] rfl tok_J0_length_8abf5 200 ?_
  intro av s0 N X h
  unfold sp_J0_length_8abf5 at h
  split at h
  rotate_left
  · exact h.elim
  refine ⟨fun _ => none, ?_, fun pc P hP => nomatch hP⟩
  repeat' (first | apply And.intro | (intro q; exact absurd q (by decide)) | intro _)
  all_goals first | decide | (exact (rfl : (0 : Nat) = 0)) | (exact Nat.le_of_ble_eq_true rfl) | (exact h.1) | (dsimp only; rw [lit_len _ h.1]; exact h.2)
theorem dJ0_getBytes_840e7_0 : decode cJ0_getBytes_840e7 0 = .ok (.aload_n 0, 1) := by decide +kernel
theorem dJ0_getBytes_840e7_1 : decode cJ0_getBytes_840e7 1 = .ok (.invokevirtual 335, 3) := by decide +kernel
theorem dJ0_getBytes_840e7_4 : decode cJ0_getBytes_840e7 4 = .ok (.iload_n 3, 1) := by decide +kernel
theorem dJ0_getBytes_840e7_5 : decode cJ0_getBytes_840e7 5 = .ok (.if_icmp .ne 23, 3) := by decide +kernel
theorem dJ0_getBytes_840e7_8 : decode cJ0_getBytes_840e7 8 = .ok (.aload_n 0, 1) := by decide +kernel
theorem dJ0_getBytes_840e7_9 : decode cJ0_getBytes_840e7 9 = .ok (.getfield 9, 3) := by decide +kernel
theorem dJ0_getBytes_840e7_12 : decode cJ0_getBytes_840e7 12 = .ok (.iconst 0, 1) := by decide +kernel
theorem dJ0_getBytes_840e7_13 : decode cJ0_getBytes_840e7 13 = .ok (.aload_n 1, 1) := by decide +kernel
theorem dJ0_getBytes_840e7_14 : decode cJ0_getBytes_840e7 14 = .ok (.iload_n 2, 1) := by decide +kernel
theorem dJ0_getBytes_840e7_15 : decode cJ0_getBytes_840e7 15 = .ok (.iload_n 3, 1) := by decide +kernel
theorem dJ0_getBytes_840e7_16 : decode cJ0_getBytes_840e7 16 = .ok (.ishl, 1) := by decide +kernel
theorem dJ0_getBytes_840e7_17 : decode cJ0_getBytes_840e7 17 = .ok (.aload_n 0, 1) := by decide +kernel
theorem dJ0_getBytes_840e7_18 : decode cJ0_getBytes_840e7 18 = .ok (.getfield 9, 3) := by decide +kernel
theorem dJ0_getBytes_840e7_21 : decode cJ0_getBytes_840e7 21 = .ok (.arraylength, 1) := by decide +kernel
theorem dJ0_getBytes_840e7_22 : decode cJ0_getBytes_840e7 22 = .ok (.invokestatic 212, 3) := by decide +kernel
theorem dJ0_getBytes_840e7_25 : decode cJ0_getBytes_840e7 25 = .ok (.goto 18, 3) := by decide +kernel
theorem dJ0_getBytes_840e7_28 : decode cJ0_getBytes_840e7 28 = .ok (.aload_n 0, 1) := by decide +kernel
theorem dJ0_getBytes_840e7_29 : decode cJ0_getBytes_840e7 29 = .ok (.getfield 9, 3) := by decide +kernel
theorem dJ0_getBytes_840e7_32 : decode cJ0_getBytes_840e7 32 = .ok (.iconst 0, 1) := by decide +kernel
theorem dJ0_getBytes_840e7_33 : decode cJ0_getBytes_840e7 33 = .ok (.aload_n 1, 1) := by decide +kernel
theorem dJ0_getBytes_840e7_34 : decode cJ0_getBytes_840e7 34 = .ok (.iload_n 2, 1) := by decide +kernel
theorem dJ0_getBytes_840e7_35 : decode cJ0_getBytes_840e7 35 = .ok (.aload_n 0, 1) := by decide +kernel
theorem dJ0_getBytes_840e7_36 : decode cJ0_getBytes_840e7 36 = .ok (.getfield 9, 3) := by decide +kernel
theorem dJ0_getBytes_840e7_39 : decode cJ0_getBytes_840e7 39 = .ok (.arraylength, 1) := by decide +kernel
theorem dJ0_getBytes_840e7_40 : decode cJ0_getBytes_840e7 40 = .ok (.invokestatic 106, 3) := by decide +kernel
theorem dJ0_getBytes_840e7_43 : decode cJ0_getBytes_840e7 43 = .ok (.return_, 1) := by decide +kernel
def tab_J0_getBytes_840e7 : List (Nat × Sem) := [(0, op_al 0 1), (1, op_callT sp_J0_coder_7d493 1 0 4), (4, op_il 3 5), (5, op_cmp (fun x y => ¬ x = y) 28 8), (8, op_al 0 9), (9, op_gfTv 12), (12, op_ic 0 13), (13, op_al 1 14), (14, op_il 2 15), (15, op_il 3 16), (16, op_bin (fun x y => x <<< (y &&& 31)) 17), (17, op_al 0 18), (18, op_gfTv 21), (21, op_alenB 22), (22, op_tcopy 25), (25, op_go 43), (43, op_vret)]
set_option maxRecDepth 20000 in
theorem tok_J0_getBytes_840e7 : ∀ q ∈ tab_J0_getBytes_840e7, Snd RJ0 cJ0_getBytes_840e7 4 1 0 none q.1 q.2 := by
  unfold tab_J0_getBytes_840e7
  refine tcons (ok_aload_n dJ0_getBytes_840e7_0 rfl rfl) ?_
  refine tcons (ok_callT M_J0_coder_7d493 w_818 w_819 w_820 w_42 w_821 ⟨rfl, by decide, by decide, by decide +kernel⟩ (by decide) (by decide) dJ0_getBytes_840e7_1 rfl) ?_
  refine tcons (ok_iload_n dJ0_getBytes_840e7_4 rfl rfl) ?_
  refine tcons (ok_icmp_ne dJ0_getBytes_840e7_5 rfl rfl) ?_
  refine tcons (ok_aload_n dJ0_getBytes_840e7_8 rfl rfl) ?_
  refine tcons (ok_gfTv w_978 dJ0_getBytes_840e7_9 rfl) ?_
  refine tcons (ok_iconst dJ0_getBytes_840e7_12 rfl rfl) ?_
  refine tcons (ok_aload_n dJ0_getBytes_840e7_13 rfl rfl) ?_
  refine tcons (ok_iload_n dJ0_getBytes_840e7_14 rfl rfl) ?_
  refine tcons (ok_iload_n dJ0_getBytes_840e7_15 rfl rfl) ?_
  refine tcons (ok_ishl dJ0_getBytes_840e7_16 rfl) ?_
  refine tcons (ok_aload_n dJ0_getBytes_840e7_17 rfl rfl) ?_
  refine tcons (ok_gfTv w_978 dJ0_getBytes_840e7_18 rfl) ?_
  refine tcons (ok_alenB dJ0_getBytes_840e7_21 rfl) ?_
  refine tcons (ok_tcopy w_855 w_353 w_352 w_35 (by decide) dJ0_getBytes_840e7_22 rfl) ?_
  refine tcons (ok_goto dJ0_getBytes_840e7_25 rfl) ?_
  refine tcons (ok_vreturn rfl dJ0_getBytes_840e7_43) ?_
  exact fun _ h => nomatch h
def sp_J0_getBytes_840e7 : Spc := fun av s N _ => match av with
  | [.inl (.inr (70, i)), .inl (.inr (19, 0)), .inl (.inl dp), .inl (.inl z)] => ∃ c, i < 3 ∧ z = 0 ∧ dp = nI c ∧ c + litN i ≤ s.1 13 ∧ s.1 13 ≤ 34 ∧ Lv s 19 0 ∧ N none (cpT s i c (litN i))
  | _ => False
set_option maxRecDepth 20000 in
set_option maxHeartbeats 2000000 in
theorem M_J0_getBytes_840e7 : AMet yJ0_getBytes_840e7 cJ0_getBytes_840e7 4 none 1 0 sp_J0_getBytes_840e7 := by
  refine AMet.mc (own := RJ0) (by decide) rfl [0, 1, 2, 3] rfl tok_J0_getBytes_840e7 200 ?_
  intro av s0 N X h
  unfold sp_J0_getBytes_840e7 at h
  split at h
  rotate_left
  · exact h.elim
  rename_i i dp z
  obtain ⟨c, hi, rfl, rfl, hc, h34, hL, h⟩ := h
  have hll : litN i ≤ 9 := by
    have : i = 0 ∨ i = 1 ∨ i = 2 := by omega
    rcases this with rfl | rfl | rfl <;> decide
  have e0 : nI c <<< ((0 : Int32) &&& 31) = nI c := sb_shl0 _
  have e1 : (nI c).toNatClampNeg = c := nI_clamp (by omega)
  have e2 : (nI (litN i)).toNatClampNeg = litN i := nI_clamp (by omega)
  refine ⟨[], ?_, an⟩
  refine ⟨hi, by decide, Nat.le_of_ble_eq_true rfl, hi, fun q => absurd rfl q, fun _ => ⟨hi, hi, hi, ?_⟩⟩
  dsimp only
  rw [e0]
  exact ⟨hi, hL, rfl, nI_pos (by omega), nI_pos (by omega), by rw [e2]; exact Nat.le_refl _, by rw [e1, e2]; exact hc, by decide, by rw [e1, e2]; exact ⟨by decide, h⟩⟩
theorem dJ5_isLatin1_aae02_0 : decode cJ5_isLatin1_aae02 0 = .ok (.getstatic 18, 3) := by decide +kernel
theorem dJ5_isLatin1_aae02_3 : decode cJ5_isLatin1_aae02 3 = .ok (.ifCond .eq 14, 3) := by decide +kernel
theorem dJ5_isLatin1_aae02_6 : decode cJ5_isLatin1_aae02 6 = .ok (.aload_n 0, 1) := by decide +kernel
theorem dJ5_isLatin1_aae02_7 : decode cJ5_isLatin1_aae02 7 = .ok (.getfield 22, 3) := by decide +kernel
theorem dJ5_isLatin1_aae02_10 : decode cJ5_isLatin1_aae02 10 = .ok (.ifCond .ne 7, 3) := by decide +kernel
theorem dJ5_isLatin1_aae02_13 : decode cJ5_isLatin1_aae02 13 = .ok (.iconst 1, 1) := by decide +kernel
theorem dJ5_isLatin1_aae02_14 : decode cJ5_isLatin1_aae02 14 = .ok (.goto 4, 3) := by decide +kernel
theorem dJ5_isLatin1_aae02_17 : decode cJ5_isLatin1_aae02 17 = .ok (.iconst 0, 1) := by decide +kernel
theorem dJ5_isLatin1_aae02_18 : decode cJ5_isLatin1_aae02 18 = .ok (.ireturn, 1) := by decide +kernel
def tab_J5_isLatin1_aae02 : List (Nat × Sem) := [(0, op_gsi 1 3), (3, op_if (fun x => x = 0) 17 6), (6, op_al 0 7), (7, op_gf 0 1 10), (10, op_if (fun x => ¬ x = 0) 17 13), (13, op_ic 1 14), (14, op_go 18), (17, op_ic 0 18), (18, op_zret)]
set_option maxRecDepth 20000 in
theorem tok_J5_isLatin1_aae02 : ∀ q ∈ tab_J5_isLatin1_aae02, Snd RJ5 cJ5_isLatin1_aae02 1 0 0 (some .boolean) q.1 q.2 := by
  unfold tab_J5_isLatin1_aae02
  refine tcons (ok_gsi (v := 1) (fun g U h => (gz h).2.2.1) w_730 dJ5_isLatin1_aae02_0 rfl) ?_
  refine tcons (ok_if_eq dJ5_isLatin1_aae02_3 rfl rfl) ?_
  refine tcons (ok_aload_n dJ5_isLatin1_aae02_6 rfl rfl) ?_
  refine tcons (ok_getfield (C := RJ4) (T := TJ4) (n := 4) rfl in_J4 (by decide) w_740 dJ5_isLatin1_aae02_7 rfl) ?_
  refine tcons (ok_if_ne dJ5_isLatin1_aae02_10 rfl rfl) ?_
  refine tcons (ok_iconst dJ5_isLatin1_aae02_13 rfl rfl) ?_
  refine tcons (ok_goto dJ5_isLatin1_aae02_14 rfl) ?_
  refine tcons (ok_iconst dJ5_isLatin1_aae02_17 rfl rfl) ?_
  refine tcons (ok_zreturn rfl (Or.inl rfl) dJ5_isLatin1_aae02_18) ?_
  exact fun _ h => nomatch h
def sp_J5_isLatin1_aae02 : Spc := fun av s N _ => match av with
  | [.inl (.inr (18, 0))] => Lv s 18 0 ∧ s.2.1 18 0 1 = 0 ∧ N (some (aI 1)) s
  | _ => False
set_option maxRecDepth 20000 in
set_option maxHeartbeats 2000000 in
theorem M_J5_isLatin1_aae02 : AMet yJ5_isLatin1_aae02 cJ5_isLatin1_aae02 1 (some .boolean) 0 0 sp_J5_isLatin1_aae02 := by
  refine AMet.mk (own := RJ5) (by decide) rfl [0] rfl tok_J5_isLatin1_aae02 200 ?_
  intro av s0 N X h
  unfold sp_J5_isLatin1_aae02 at h
  split at h
  rotate_left
  · exact h.elim
  refine ⟨fun _ => none, ?_, fun pc P hP => nomatch hP⟩
  repeat' (first | apply And.intro | (intro q; exact absurd q (by decide)) | intro _)
  all_goals first | decide | (exact (rfl : (0 : Nat) = 0)) | (exact Nat.le_of_ble_eq_true rfl) | (exact h.1) | (exact absurd h.2.1 (by assumption)) | (exact h.2.2) | (simp_all [-Int32.not_lt, -Int32.not_le]; done) | (simp_all [-Int32.not_lt, -Int32.not_le, ← Int32.not_le]; done) | (simp_all []; done)
theorem dJ5_inflateIfNeededFor_a7421_0 : decode cJ5_inflateIfNeededFor_a7421 0 = .ok (.getstatic 18, 3) := by decide +kernel
theorem dJ5_inflateIfNeededFor_a7421_3 : decode cJ5_inflateIfNeededFor_a7421 3 = .ok (.ifCond .eq 18, 3) := by decide +kernel
theorem dJ5_inflateIfNeededFor_a7421_6 : decode cJ5_inflateIfNeededFor_a7421 6 = .ok (.aload_n 0, 1) := by decide +kernel
theorem dJ5_inflateIfNeededFor_a7421_7 : decode cJ5_inflateIfNeededFor_a7421 7 = .ok (.getfield 22, 3) := by decide +kernel
theorem dJ5_inflateIfNeededFor_a7421_10 : decode cJ5_inflateIfNeededFor_a7421 10 = .ok (.aload_n 1, 1) := by decide +kernel
theorem dJ5_inflateIfNeededFor_a7421_11 : decode cJ5_inflateIfNeededFor_a7421 11 = .ok (.invokevirtual 40, 3) := by decide +kernel
theorem dJ5_inflateIfNeededFor_a7421_14 : decode cJ5_inflateIfNeededFor_a7421 14 = .ok (.if_icmp .eq 7, 3) := by decide +kernel
theorem dJ5_inflateIfNeededFor_a7421_17 : decode cJ5_inflateIfNeededFor_a7421 17 = .ok (.aload_n 0, 1) := by decide +kernel
theorem dJ5_inflateIfNeededFor_a7421_18 : decode cJ5_inflateIfNeededFor_a7421 18 = .ok (.invokevirtual 195, 3) := by decide +kernel
theorem dJ5_inflateIfNeededFor_a7421_21 : decode cJ5_inflateIfNeededFor_a7421 21 = .ok (.return_, 1) := by decide +kernel
def tab_J5_inflateIfNeededFor_a7421 : List (Nat × Sem) := [(0, op_gsi 1 3), (3, op_if (fun x => x = 0) 21 6), (6, op_al 0 7), (7, op_gf 0 1 10), (10, op_al 1 11), (11, op_callT sp_J0_coder_7d493 1 0 14), (14, op_cmp (fun x y => x = y) 21 17), (21, op_vret)]
set_option maxRecDepth 20000 in
theorem tok_J5_inflateIfNeededFor_a7421 : ∀ q ∈ tab_J5_inflateIfNeededFor_a7421, Snd RJ5 cJ5_inflateIfNeededFor_a7421 2 1 0 none q.1 q.2 := by
  unfold tab_J5_inflateIfNeededFor_a7421
  refine tcons (ok_gsi (v := 1) (fun g U h => (gz h).2.2.1) w_730 dJ5_inflateIfNeededFor_a7421_0 rfl) ?_
  refine tcons (ok_if_eq dJ5_inflateIfNeededFor_a7421_3 rfl rfl) ?_
  refine tcons (ok_aload_n dJ5_inflateIfNeededFor_a7421_6 rfl rfl) ?_
  refine tcons (ok_getfield (C := RJ4) (T := TJ4) (n := 4) rfl in_J4 (by decide) w_740 dJ5_inflateIfNeededFor_a7421_7 rfl) ?_
  refine tcons (ok_aload_n dJ5_inflateIfNeededFor_a7421_10 rfl rfl) ?_
  refine tcons (ok_callT M_J0_coder_7d493 w_831 w_819 w_820 w_42 w_821 ⟨rfl, by decide, by decide, by decide +kernel⟩ (by decide) (by decide) dJ5_inflateIfNeededFor_a7421_11 rfl) ?_
  refine tcons (ok_icmp_eq dJ5_inflateIfNeededFor_a7421_14 rfl rfl) ?_
  refine tcons (ok_vreturn rfl dJ5_inflateIfNeededFor_a7421_21) ?_
  exact fun _ h => nomatch h
def sp_J5_inflateIfNeededFor_a7421 : Spc := fun av s N _ => match av with
  | [.inl (.inr (18, 0)), .inl (.inr (70, i))] => i < 3 ∧ Lv s 18 0 ∧ s.2.1 18 0 1 = 0 ∧ N none s
  | _ => False
set_option maxRecDepth 20000 in
set_option maxHeartbeats 2000000 in
theorem M_J5_inflateIfNeededFor_a7421 : AMet yJ5_inflateIfNeededFor_a7421 cJ5_inflateIfNeededFor_a7421 2 none 1 0 sp_J5_inflateIfNeededFor_a7421 := by
  refine AMet.mk (own := RJ5) (by decide) rfl [0, 1] rfl tok_J5_inflateIfNeededFor_a7421 200 ?_
  intro av s0 N X h
  unfold sp_J5_inflateIfNeededFor_a7421 at h
  split at h
  rotate_left
  · exact h.elim
  refine ⟨fun _ => none, ?_, fun pc P hP => nomatch hP⟩
  repeat' (first | apply And.intro | (intro q; exact absurd q (by decide)) | intro _)
  all_goals first | decide | (exact (rfl : (0 : Nat) = 0)) | (exact Nat.le_of_ble_eq_true rfl) | (exact h.1) | (exact h.2.1) | (exact absurd h.2.2.1 (by assumption)) | (exact h.2.2.2) | (simp_all [-Int32.not_lt, -Int32.not_le]; done) | (simp_all [-Int32.not_lt, -Int32.not_le, ← Int32.not_le]; done) | (simp_all []; done)
theorem dJ5_putStringAt_47b60_0 : decode cJ5_putStringAt_47b60 0 = .ok (.aload_n 0, 1) := by decide +kernel
theorem dJ5_putStringAt_47b60_1 : decode cJ5_putStringAt_47b60 1 = .ok (.aload_n 2, 1) := by decide +kernel
theorem dJ5_putStringAt_47b60_2 : decode cJ5_putStringAt_47b60 2 = .ok (.invokevirtual 397, 3) := by decide +kernel
theorem dJ5_putStringAt_47b60_5 : decode cJ5_putStringAt_47b60 5 = .ok (.aload_n 2, 1) := by decide +kernel
theorem dJ5_putStringAt_47b60_6 : decode cJ5_putStringAt_47b60 6 = .ok (.aload_n 0, 1) := by decide +kernel
theorem dJ5_putStringAt_47b60_7 : decode cJ5_putStringAt_47b60 7 = .ok (.getfield 15, 3) := by decide +kernel
theorem dJ5_putStringAt_47b60_10 : decode cJ5_putStringAt_47b60 10 = .ok (.iload_n 1, 1) := by decide +kernel
theorem dJ5_putStringAt_47b60_11 : decode cJ5_putStringAt_47b60 11 = .ok (.aload_n 0, 1) := by decide +kernel
theorem dJ5_putStringAt_47b60_12 : decode cJ5_putStringAt_47b60 12 = .ok (.getfield 22, 3) := by decide +kernel
theorem dJ5_putStringAt_47b60_15 : decode cJ5_putStringAt_47b60 15 = .ok (.invokevirtual 399, 3) := by decide +kernel
theorem dJ5_putStringAt_47b60_18 : decode cJ5_putStringAt_47b60 18 = .ok (.return_, 1) := by decide +kernel
def tab_J5_putStringAt_47b60 : List (Nat × Sem) := [(0, op_al 0 1), (1, op_al 2 2), (2, op_callU sp_J5_inflateIfNeededFor_a7421 2 0 5), (5, op_al 2 6), (6, op_al 0 7), (7, op_gf 0 0 10), (10, op_il 1 11), (11, op_al 0 12), (12, op_gf 0 1 15), (15, op_callT sp_J0_getBytes_840e7 4 0 18), (18, op_vret)]
set_option maxRecDepth 20000 in
theorem tok_J5_putStringAt_47b60 : ∀ q ∈ tab_J5_putStringAt_47b60, Snd RJ5 cJ5_putStringAt_47b60 3 2 0 none q.1 q.2 := by
  unfold tab_J5_putStringAt_47b60
  refine tcons (ok_aload_n dJ5_putStringAt_47b60_0 rfl rfl) ?_
  refine tcons (ok_aload_n dJ5_putStringAt_47b60_1 rfl rfl) ?_
  refine tcons (ok_callU M_J5_inflateIfNeededFor_a7421 w_827 w_953 (fun s a h => h _ xs_J5_inflateIfNeededFor_a7421) w_829 w_40 w_830 rfl (by decide +kernel) (by decide) (by decide) dJ5_putStringAt_47b60_2 rfl) ?_
  refine tcons (ok_aload_n dJ5_putStringAt_47b60_5 rfl rfl) ?_
  refine tcons (ok_aload_n dJ5_putStringAt_47b60_6 rfl rfl) ?_
  refine tcons (ok_getfield (C := RJ4) (T := TJ4) (n := 4) rfl in_J4 (by decide) w_739 dJ5_putStringAt_47b60_7 rfl) ?_
  refine tcons (ok_iload_n dJ5_putStringAt_47b60_10 rfl rfl) ?_
  refine tcons (ok_aload_n dJ5_putStringAt_47b60_11 rfl rfl) ?_
  refine tcons (ok_getfield (C := RJ4) (T := TJ4) (n := 4) rfl in_J4 (by decide) w_740 dJ5_putStringAt_47b60_12 rfl) ?_
  refine tcons (ok_callT M_J0_getBytes_840e7 w_851 w_852 w_853 w_42 w_854 ⟨rfl, by decide, by decide, by decide +kernel⟩ (by decide) (by decide) dJ5_putStringAt_47b60_15 rfl) ?_
  refine tcons (ok_vreturn rfl dJ5_putStringAt_47b60_18) ?_
  exact fun _ h => nomatch h
def sp_J5_putStringAt_47b60 : Spc := fun av s N _ => match av with
  | [.inl (.inr (18, 0)), .inl (.inl n), .inl (.inr (70, i))] => ∃ c, i < 3 ∧ Lv s 18 0 ∧ s.2.1 18 0 1 = 0 ∧ n = nI c ∧ c + litN i ≤ s.1 13 ∧ s.1 13 ≤ 34 ∧ Lv s 19 0 ∧ N none (cpT s i c (litN i))
  | _ => False
set_option maxRecDepth 20000 in
set_option maxHeartbeats 2000000 in
theorem M_J5_putStringAt_47b60 : AMet yJ5_putStringAt_47b60 cJ5_putStringAt_47b60 3 none 2 0 sp_J5_putStringAt_47b60 := by
  refine AMet.mc (own := RJ5) (by decide) rfl [0, 1, 2] rfl tok_J5_putStringAt_47b60 200 ?_
  intro av s0 N X h
  unfold sp_J5_putStringAt_47b60 at h
  split at h
  rotate_left
  · exact h.elim
  rename_i n i
  obtain ⟨c, hi, hL, hz, rfl, hc, h34, hL19, h⟩ := h
  refine ⟨[], ?_, an⟩
  exact ⟨hL, by decide, by decide, hi, hL, hz, hL, hL, hi, by decide, by decide, c, hi, hz, rfl, hc, h34, hL19, by decide, h⟩

