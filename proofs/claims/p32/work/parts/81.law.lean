/-! the law's methods: calls whose outcome is named -/
section LCalls
variable {own : String} {cc : ByteArray} {nL d U : Nat} {ret : Option FieldType} {pc nx : Nat}
def op_callN (sp : Spc) (n w nx : Nat) : Sem := fun U k _ X u L st s => popK n [] st (fun as st' => u + w ≤ U ∧ catS st' ≤ 8 ∧ ∃ N0 : Nt, sp as s N0 X ∧ ∀ r s', N0 r s' → match r with
  | some v => k nx (u + w) L (v :: st') s'
  | none => k nx (u + w) L st' s')
theorem ok_invokestaticN {y : MethodName} {bytes : ByteArray} {nL' d' w n idx : Nat} {ret' : Option FieldType} {sp : Spc} (hM : AMet y bytes nL' ret' d' w sp)
    (h1 : Cond.methodLink own idx y ∈ TB) (h2 : Cond.static y ∈ TB) (h3 : Cond.initialized y.cls ∈ TB) (h4 : Cond.code y bytes nL' ret' ∈ TB)
    (hy : y.cls ≠ "java/lang/invoke/MethodHandle" ∧ y.cls ≠ "java/lang/invoke/VarHandle" ∧ (parseMethodDescriptor y.desc).map (fun d => d.parameters.length) = some n) (hdd : d' + 1 ≤ d) (hl' : nL' ≤ 19)
    (hd : decode cc pc = .ok (.invokestatic idx, 3)) (hn : pc + 3 = nx) : Snd own cc nL d U ret pc (op_callN sp n w nx) := by
  intro g p l e R s m args below meth c w0 hC ad K N X Q hQ k hk u L st s0 h
  subst hn
  intro H locs ls hP hS hl
  obtain ⟨as, st', ⟨hu, hcat, N0, hsp, hmN⟩, e1, e2⟩ := popK_ok h
  rw [List.append_nil] at hsp
  have hC' := hC
  obtain ⟨hF, hGS, hlk, hret, hR, hl0, htab⟩ := hC'
  subst hR
  have hG : GoodIn (w0 :: TB) (va_wsS own idx y (wsM y bytes nL' ret')) := TB_in (by
    intro w hw
    simp only [va_wsS, wsM, List.cons_append, List.nil_append, List.mem_cons] at hw
    rcases hw with rfl | rfl | rfl | rfl | hw
    · exact h1
    · exact h2
    · exact h3
    · exact h4
    · exact hw)
  refine run_ok hC hQ hu (vx_runS (As := as.map (cv ad)) (rest := st'.map (cv ad)) hF (hM l hl0 g ad K as s0 _ X hsp) (va_cwS n hF.2.2.2.2 hG rfl rfl rfl hy (rm_fit hdd hl'))
    ⟨GP_blind, fun U9 hU hW => ⟨rfl, GS_moved hGS hW (locs := locs) (by rw [hU]; exact hS), by rw [hU]; exact hP⟩⟩ rfl (by rw [List.length_map]; exact e2) hl.1 ?_ (lv_room (by rw [catS_ok]; exact hcat)) hd
    ⟨by show u * cU + w * cU ≤ U * cU; rw [← Nat.add_mul]; exact Nat.mul_le_mul_right _ hu, by show u * sU + w * sU ≤ U * sU; rw [← Nat.add_mul]; exact Nat.mul_le_mul_right _ hu⟩) hS ?_
  · show st.map (cv ad) = (as.map (cv ad)).reverse ++ st'.map (cv ad)
    rw [e1, List.map_append, List.map_reverse]
  · intro v s' H1 locs1 hN hP1 hS1
    replace hN := hmN _ _ hN
    cases v with
    | none => exact hk _ _ _ _ _ hN H1 locs1 ls hP1 hS1 hl
    | some v => exact hk _ _ _ _ _ hN H1 locs1 ls hP1 hS1 hl
def op_callVN (ci : Nat) (sp : Spc) (n w nx : Nat) : Sem := fun U k _ X u L st s => popK n [] st (fun as st' => match as with
  | .inl (.inr (t, i)) :: _ => bif isO ci t then (Lv s t i ∧ u + w ≤ U ∧ catS st' ≤ 8 ∧ ∃ N0 : Nt, sp as s N0 X ∧ ∀ r s', N0 r s' → match r with
    | some v => k nx (u + w) L (v :: st') s'
    | none => k nx (u + w) L st' s') else False
  | _ => False)
theorem ok_invokevirtualN {C : String} {T : u_T} {y : MethodName} {bytes : ByteArray} {nL' d' w n idx ci nf : Nat} {ret' : Option FieldType} {sp : Spc} (hM : AMet y bytes nL' ret' d' w sp) (hc : vwCl[ci]? = some (C, T, nf))
    (h1 : Cond.methodLink own idx y ∈ TB) (h2 : Cond.instanceMethod y ∈ TB) (h3 : Cond.selects C y y ∈ TB) (h5 : Cond.initialized C ∈ TB) (h4 : Cond.code y bytes nL' ret' ∈ TB)
    (hy : y.cls = C ∧ y.cls ≠ "java/lang/invoke/MethodHandle" ∧ y.cls ≠ "java/lang/invoke/VarHandle" ∧ (parseMethodDescriptor y.desc).map (fun d => d.parameters.length) = some n) (hdd : d' + 1 ≤ d) (hl' : nL' ≤ 19)
    (hd : decode cc pc = .ok (.invokevirtual idx, 3)) (hn : pc + 3 = nx) : Snd own cc nL d U ret pc (op_callVN ci sp (n + 1) w nx) := by
  intro g p l e R s m args below meth c w0 hC ad K N X Q hQ k hk u L st s0 h
  subst hn
  intro H locs ls hP hS hl
  obtain ⟨as, st', h, e1, e2⟩ := popK_ok h
  rw [List.append_nil] at h
  split at h
  · rename_i t i tl
    cases ho : isO ci t with
    | false => rw [ho] at h; exact h.elim
    | true =>
      rw [ho, cond_true] at h
      obtain ⟨hL, hu, hcat, N0, hsp, hmN⟩ := h
      obtain ⟨N', hob⟩ := isO_ob ho
      obtain ⟨q0, ha, hK0⟩ := gws_at (g := g) (ad := ad) (s := s0) (hP.2.2.1 t i hL)
      rw [ent_ob hob] at ha
      have hrecv := va_recv hC.2.1.1 hP.1 hc ha
      have hC' := hC
      obtain ⟨hF, hGS, hlk, hret, hR, hl0, htab⟩ := hC'
      subst hR
      have hG : GoodIn (w0 :: TB) (wsV own idx C y (wsM y bytes nL' ret')) := TB_in (by
        intro w hw
        simp only [wsV, wsM, List.cons_append, List.nil_append, List.mem_cons] at hw
        rcases hw with rfl | rfl | rfl | rfl | rfl | hw
        · exact h1
        · exact h2
        · exact h3
        · exact h5
        · exact h4
        · exact hw)
      refine run_ok hC hQ hu (vx_runV (C := C) (b := ad t i) (As := tl.map (cv ad)) (rest := st'.map (cv ad)) hF (hM l hl0 g ad K _ s0 _ X hsp) (cwV n hF.2.2.2.2 hG rfl rfl rfl hy (rm_fit hdd hl'))
        ⟨GP_blind, hrecv, fun U9 hU hW => ⟨rfl, GS_moved hGS hW (locs := locs) (by rw [hU]; exact hS), by rw [hU]; exact hP⟩⟩ rfl (by rw [List.length_map]; simpa using e2) hl.1 ?_ (lv_room (by rw [catS_ok]; exact hcat)) hd
        ⟨by show u * cU + w * cU ≤ U * cU; rw [← Nat.add_mul]; exact Nat.mul_le_mul_right _ hu, by show u * sU + w * sU ≤ U * sU; rw [← Nat.add_mul]; exact Nat.mul_le_mul_right _ hu⟩) hS ?_
      · show st.map (cv ad) = (tl.map (cv ad)).reverse ++ .ref (ad t i) :: st'.map (cv ad)
        rw [e1, List.map_append, List.map_reverse]
        simp [cv, cL]
      · intro v s' H1 locs1 hN hP1 hS1
        replace hN := hmN _ _ hN
        cases v with
        | none => exact hk _ _ _ _ _ hN H1 locs1 ls hP1 hS1 hl
        | some v => exact hk _ _ _ _ _ hN H1 locs1 ls hP1 hS1 hl
  · exact h.elim
def op_callGN (sp : Spc) (n w nx : Nat) : Sem := fun U k _ X u L st s => popK n [] st (fun as st' => u + w ≤ U ∧ catS st' ≤ 8 ∧ lvs s st' ∧ lvK s L (fun L' => ∃ N0 : Nt, sp as s N0 X ∧ ∀ r s', N0 r s' → match r with
  | some v => k nx (u + w) L' (v :: st') s'
  | none => k nx (u + w) L' st' s'))
theorem ok_invokestaticGN {y : MethodName} {bytes : ByteArray} {nL' d' w n idx : Nat} {ret' : Option FieldType} {sp : Spc} (hM : GMet y bytes nL' ret' d' w sp)
    (h1 : Cond.methodLink own idx y ∈ TB) (h2 : Cond.static y ∈ TB) (h3 : Cond.initialized y.cls ∈ TB) (h4 : Cond.code y bytes nL' ret' ∈ TB)
    (hy : y.cls ≠ "java/lang/invoke/MethodHandle" ∧ y.cls ≠ "java/lang/invoke/VarHandle" ∧ (parseMethodDescriptor y.desc).map (fun d => d.parameters.length) = some n) (hfit : ∀ U w : Nat, (rmD d' w).frames + 1 ≤ (rmD d U).frames ∧ 8 + (nL' + 11) + (rmD d' w).locals ≤ (rmD d U).locals)
    (hd : decode cc pc = .ok (.invokestatic idx, 3)) (hn : pc + 3 = nx) : GSnd own cc nL d U ret pc (op_callGN sp n w nx) := by
  intro g p l e R s m args below meth c w0 hC ad0 K0 N X Q hQ k hk u L st s0 h ad K hE
  subst hn
  intro H locs ls hP hS hl
  obtain ⟨as, st', ⟨hu, hcat, hlv, hlk9⟩, e1, e2⟩ := popK_ok h
  obtain ⟨L', ⟨N0, hsp, hmN⟩, hsub⟩ := lvK_ok hlk9
  rw [List.append_nil] at hsp
  have hC' := hC
  obtain ⟨hF, hGS, hlk, hret, hR, hl0, htab⟩ := hC'
  subst hR
  have hG : GoodIn (w0 :: TB) (va_wsS own idx y (wsM y bytes nL' ret')) := TB_in (by
    intro w hw
    simp only [va_wsS, wsM, List.cons_append, List.nil_append, List.mem_cons] at hw
    rcases hw with rfl | rfl | rfl | rfl | hw
    · exact h1
    · exact h2
    · exact h3
    · exact h4
    · exact hw)
  refine run_okG hC hE hQ hu (vx_runS (As := as.map (cv ad)) (rest := st'.map (cv ad)) hF (hM l hl0 g ad K as s0 _ X hsp) (va_cwS n hF.2.2.2.2 hG rfl rfl rfl hy (hfit U w))
    ⟨GP_blind, fun U9 hU hW => ⟨rfl, GS_moved hGS hW (locs := locs) (by rw [hU]; exact hS), by rw [hU]; exact hP⟩⟩ rfl (by rw [List.length_map]; exact e2) hl.1 ?_ (lv_room (by rw [catS_ok]; exact hcat)) hd
    ⟨by show u * cU + w * cU ≤ U * cU; rw [← Nat.add_mul]; exact Nat.mul_le_mul_right _ hu, by show u * sU + w * sU ≤ U * sU; rw [← Nat.add_mul]; exact Nat.mul_le_mul_right _ hu⟩) hS ?_
  · show st.map (cv ad) = (as.map (cv ad)).reverse ++ st'.map (cv ad)
    rw [e1, List.map_append, List.map_reverse]
  · intro ad' K' v s' H1 locs1 hE1 hN hP1 hS1
    replace hN := hmN _ _ hN
    have hl1 := has_mem hl (hsub hP.2.2.1 hE1 (gp_cc hP hP1))
    rw [lvs_ok hP.2.2.1 hE1 (gp_cc hP hP1) hlv]
    cases v with
    | none => exact hk _ _ _ _ _ hN ad' K' (hE.tr hE1) H1 locs1 ls hP1 hS1 hl1
    | some v => exact hk _ _ _ _ _ hN ad' K' (hE.tr hE1) H1 locs1 ls hP1 hS1 hl1
def op_callHN (sp : Spc) (n w nx : Nat) : Sem := fun U k _ _ u L st s => popK n [] st (fun as st' => u + w ≤ U ∧ catS st' ≤ 8 ∧ lvs s st' ∧ lvK s L (fun L' => ∃ N0 : Nt, sp as s N0 (fun _ _ => False) ∧ ∀ r s', N0 r s' → match r with
  | some v => k nx (u + w) L' (v :: st') s'
  | none => k nx (u + w) L' st' s'))
theorem ok_invokestaticHN {y : MethodName} {bytes : ByteArray} {nL' d' w n idx : Nat} {ret' : Option FieldType} {hh : HH} {sp : Spc} (hM : HMet y bytes nL' ret' hh d' w sp)
    (h1 : Cond.methodLink own idx y ∈ TB) (h2 : Cond.static y ∈ TB) (h3 : Cond.initialized y.cls ∈ TB) (h4 : Cond.codeWith y bytes nL' ret' hh ∈ TB)
    (hy : y.cls ≠ "java/lang/invoke/MethodHandle" ∧ y.cls ≠ "java/lang/invoke/VarHandle" ∧ (parseMethodDescriptor y.desc).map (fun d => d.parameters.length) = some n) (hdd : d' + 1 ≤ d) (hl' : nL' ≤ 19)
    (hd : decode cc pc = .ok (.invokestatic idx, 3)) (hn : pc + 3 = nx) : GSnd own cc nL d U ret pc (op_callHN sp n w nx) := by
  intro g p l e R s m args below meth c w0 hC ad0 K0 N X Q hQ k hk u Lc st s1 h ad K hE
  subst hn
  intro H locs ls hP hS hl
  obtain ⟨as, st', ⟨hu, hcat, hlv, hlk9⟩, e1, e2⟩ := popK_ok h
  obtain ⟨L', ⟨N0, hsp, hmN⟩, hsub⟩ := lvK_ok hlk9
  rw [List.append_nil] at hsp
  have hC' := hC
  obtain ⟨hF, hGS, hlk, hret, hRR, hl0, htab⟩ := hC'
  subst hRR
  have hG : GoodIn (w0 :: TB) (va_wsS own idx y (wsH y bytes nL' ret' hh)) := TB_in (by
    intro w hw
    simp only [va_wsS, wsH, List.cons_append, List.nil_append, List.mem_cons] at hw
    rcases hw with rfl | rfl | rfl | rfl | hw
    · exact h1
    · exact h2
    · exact h3
    · exact h4
    · exact hw)
  have hr := vx_runSX (e := e) (meth := meth) (below := below) (locs := locs) (H := H) (g := F0 m pc ls (st.map (cv ad))) (As := as.map (cv ad)) (rest := st'.map (cv ad)) hF (hM l hl0 g ad K as s1 _ hsp) (vx_cwSW n hF.2.2.2.2 hG rfl rfl rfl hy (rm_fit (U := U) hdd hl'))
    ⟨GP_blind, fun U9 hU hW => ⟨rfl, GS_moved hGS hW (locs := locs) (by rw [hU]; exact hS), by rw [hU]; exact hP⟩⟩ rfl (by rw [List.length_map]; exact e2) hl.1 (by
      show st.map (cv ad) = (as.map (cv ad)).reverse ++ st'.map (cv ad)
      rw [e1, List.map_append, List.map_reverse]) (lv_room (by rw [catS_ok]; exact hcat)) hd
    ⟨by show u * cU + w * cU ≤ U * cU; rw [← Nat.add_mul]; exact Nat.mul_le_mul_right _ hu, by show u * sU + w * sU ≤ U * sU; rw [← Nat.add_mul]; exact Nat.mul_le_mul_right _ hu⟩
  intro T hT X0
  rcases hr T hT X0 with ⟨v, st₀, t1, T', L1, h0, X', hL1, e3, e4, ⟨⟨ad', K', r, s', hE1, hv, hn, hgp⟩, hF1⟩, stp⟩ | ⟨q, st₀, t1, T', L1, E, ce, h0, X', hL1, e3, e4, hx, -⟩
  · cases hv
    replace hn := hmN _ _ hn
    obtain ⟨k1, k2, k3⟩ := vx_keep h0 e3 hS (fun _ _ z => z) (fun _ z => z) hL1 hF1
    have hl1 := has_mem hl (hsub hP.2.2.1 hE1 (gp_cc hP hgp))
    have kw : W p l e (rmD d U) s m args below meth c T'.heap (locs ++ L1) ((u + w) * cU) ((u + w) * sU) Q (F0 m (pc + 3) ls ((r.map (cv ad')).toList ++ st'.map (cv ad))) := by
      rw [lvs_ok hP.2.2.1 hE1 (gp_cc hP hgp) hlv]
      cases r with
      | none => exact hk _ _ _ _ _ hn ad' K' (hE.tr hE1) T'.heap (locs ++ L1) ls (by rw [e3]; exact hgp) k3 hl1
      | some v => exact hk _ _ _ _ _ hn ad' K' (hE.tr hE1) T'.heap (locs ++ L1) ls (by rw [e3]; exact hgp) k3 hl1
    rw [Nat.add_mul, Nat.add_mul] at kw
    obtain ⟨t2, a1, b1⟩ := kw T' rfl X'
    exact ⟨t2, stp t2 a1, b1⟩
  · exact hx.elim
def op_callGVN (ci : Nat) (sp : Spc) (n w nx : Nat) : Sem := fun U k _ X u L st s => popK n [] st (fun as st' => match as with
  | .inl (.inr (t, i)) :: _ => bif isO ci t then (Lv s t i ∧ u + w ≤ U ∧ catS st' ≤ 8 ∧ lvs s st' ∧ lvK s L (fun L' => ∃ N0 : Nt, sp as s N0 X ∧ ∀ r s', N0 r s' → match r with
    | some v => k nx (u + w) L' (v :: st') s'
    | none => k nx (u + w) L' st' s')) else False
  | _ => False)
theorem ok_invokevirtualGN {C : String} {T : u_T} {y : MethodName} {bytes : ByteArray} {nL' d' w n idx ci nf : Nat} {ret' : Option FieldType} {sp : Spc} (hM : GMet y bytes nL' ret' d' w sp) (hc : vwCl[ci]? = some (C, T, nf))
    (h1 : Cond.methodLink own idx y ∈ TB) (h2 : Cond.instanceMethod y ∈ TB) (h3 : Cond.selects C y y ∈ TB) (h5 : Cond.initialized C ∈ TB) (h4 : Cond.code y bytes nL' ret' ∈ TB)
    (hy : y.cls = C ∧ y.cls ≠ "java/lang/invoke/MethodHandle" ∧ y.cls ≠ "java/lang/invoke/VarHandle" ∧ (parseMethodDescriptor y.desc).map (fun d => d.parameters.length) = some n) (hdd : d' + 1 ≤ d) (hl' : nL' ≤ 19)
    (hd : decode cc pc = .ok (.invokevirtual idx, 3)) (hn : pc + 3 = nx) : GSnd own cc nL d U ret pc (op_callGVN ci sp (n + 1) w nx) := by
  intro g p l e R s m args below meth c w0 hC ad0 K0 N X Q hQ k hk u L st s0 h ad K hE
  subst hn
  intro H locs ls hP hS hl
  obtain ⟨as, st', h, e1, e2⟩ := popK_ok h
  rw [List.append_nil] at h
  split at h
  · rename_i t i tl
    cases ho : isO ci t with
    | false => rw [ho] at h; exact h.elim
    | true =>
      rw [ho, cond_true] at h
      obtain ⟨hL, hu, hcat, hlv, hlk9⟩ := h
      obtain ⟨L', ⟨N0, hsp, hmN⟩, hsub⟩ := lvK_ok hlk9
      obtain ⟨N', hob⟩ := isO_ob ho
      obtain ⟨q0, ha, hK0⟩ := gws_at (g := g) (ad := ad) (s := s0) (hP.2.2.1 t i hL)
      rw [ent_ob hob] at ha
      have hrecv := va_recv hC.2.1.1 hP.1 hc ha
      have hC' := hC
      obtain ⟨hF, hGS, hlk, hret, hR, hl0, htab⟩ := hC'
      subst hR
      have hG : GoodIn (w0 :: TB) (wsV own idx C y (wsM y bytes nL' ret')) := TB_in (by
        intro w hw
        simp only [wsV, wsM, List.cons_append, List.nil_append, List.mem_cons] at hw
        rcases hw with rfl | rfl | rfl | rfl | rfl | hw
        · exact h1
        · exact h2
        · exact h3
        · exact h5
        · exact h4
        · exact hw)
      refine run_okG hC hE hQ hu (vx_runV (C := C) (b := ad t i) (As := tl.map (cv ad)) (rest := st'.map (cv ad)) hF (hM l hl0 g ad K _ s0 _ X hsp) (cwV n hF.2.2.2.2 hG rfl rfl rfl hy (rm_fit hdd hl'))
        ⟨GP_blind, hrecv, fun U9 hU hW => ⟨rfl, GS_moved hGS hW (locs := locs) (by rw [hU]; exact hS), by rw [hU]; exact hP⟩⟩ rfl (by rw [List.length_map]; simpa using e2) hl.1 ?_ (lv_room (by rw [catS_ok]; exact hcat)) hd
        ⟨by show u * cU + w * cU ≤ U * cU; rw [← Nat.add_mul]; exact Nat.mul_le_mul_right _ hu, by show u * sU + w * sU ≤ U * sU; rw [← Nat.add_mul]; exact Nat.mul_le_mul_right _ hu⟩) hS ?_
      · show st.map (cv ad) = (tl.map (cv ad)).reverse ++ .ref (ad t i) :: st'.map (cv ad)
        rw [e1, List.map_append, List.map_reverse]
        simp [cv, cL]
      · intro ad' K' v s' H1 locs1 hE1 hN hP1 hS1
        replace hN := hmN _ _ hN
        have hl1 := has_mem hl (hsub hP.2.2.1 hE1 (gp_cc hP hP1))
        rw [lvs_ok hP.2.2.1 hE1 (gp_cc hP hP1) hlv]
        cases v with
        | none => exact hk _ _ _ _ _ hN ad' K' (hE.tr hE1) H1 locs1 ls hP1 hS1 hl1
        | some v => exact hk _ _ _ _ _ hN ad' K' (hE.tr hE1) H1 locs1 ls hP1 hS1 hl1
  · exact h.elim
end LCalls
/-! walks piece by piece -/
def inL : List Nat → Nat → Bool
  | [], _ => false
  | q :: r, pc => bif Nat.beq q pc then true else inL r pc
def cutZ (ps : List Nat) (Z : Kt) (pc : Nat) : Option (Nat → LC → List AV → Sg → Prop) := bif inL ps pc then some (Z pc) else none
/-- what a walk may do: run to the places named; forget locals -/
def Rn (T : List (Nat × Sem)) (U : Nat) (N : Nt) (X : Xt) (Z : Kt) : Prop :=
  (∀ (ps : List Nat) (n pc u : Nat) (L : LC) (st : List AV) (s : Sg), wps (lk T) (cutZ ps Z) U N X n pc u L st s → Z pc u L st s) ∧
  (∀ (L' : LC) (pc u : Nat) (L : LC) (st : List AV) (s : Sg), (∀ q ∈ L', q ∈ L) → Z pc u L' st s → Z pc u L st s)
theorem cutZ_ok {ps : List Nat} {Z : Kt} : ∀ pc P, cutZ ps Z pc = some P → ∀ u L st s, P u L st s → Z pc u L st s := by
  intro pc P hP u L st s h
  unfold cutZ at hP
  cases hb : inL ps pc with
  | true => rw [hb] at hP; cases hP; exact h
  | false => rw [hb] at hP; cases hP
theorem Rn.go {T : List (Nat × Sem)} {U : Nat} {N : Nt} {X : Xt} {Z : Kt} (h : Rn T U N X Z) (ps : List Nat) (n : Nat) {pc u : Nat} {L : LC} {st : List AV} {s : Sg} (k : wps (lk T) (cutZ ps Z) U N X n pc u L st s) : Z pc u L st s := h.1 ps n pc u L st s k
theorem Rn.sub {T : List (Nat × Sem)} {U : Nat} {N : Nt} {X : Xt} {Z : Kt} (h : Rn T U N X Z) (L' : LC) {pc u : Nat} {L : LC} {st : List AV} {s : Sg} (hs : ∀ q ∈ L', q ∈ L) (k : Z pc u L' st s) : Z pc u L st s := h.2 L' pc u L st s hs k
theorem Rn.take {T : List (Nat × Sem)} {U : Nat} {N : Nt} {X : Xt} {Z : Kt} (h : Rn T U N X Z) (j : Nat) {pc u : Nat} {L : LC} {st : List AV} {s : Sg} (k : Z pc u (L.take j) st s) : Z pc u L st s := h.2 _ pc u L st s (fun _ hq => List.mem_of_mem_take hq) k
section Rns
variable {g : GPm} {p : Program} {l : Launch} {e : Env} {R : Room} {s : State} {m : MethodId} {args : Array Value} {below : List Frame} {meth : Method} {c : Code}
variable {own : String} {cc : ByteArray} {nL d U : Nat} {ret : Option FieldType} {w0 : Cond} {ad : Nat → Nat → Nat} {K : List (Nat × Nat)} {N : Nt} {X : Xt} {Q : State → Prop}
theorem gwps_ok {T : List (Nat × Sem)} (hT : ∀ q ∈ T, GSnd own cc nL d U ret q.1 q.2) (hC : CX g p l R s m args meth c own cc nL d U ret w0) (hQ : GQX g s args below ad K N X U Q)
    {C : Nat → Option (Nat → LC → List AV → Sg → Prop)} (hc : ∀ pc P, C pc = some P → ∀ u L st s0, P u L st s0 → GAW g p l e R s m args below meth c nL ad K Q pc u L st s0) :
    ∀ n pc u L st s0, wps (lk T) C U N X n pc u L st s0 → GAW g p l e R s m args below meth c nL ad K Q pc u L st s0 := by
  intro n pc u L st s0 h
  unfold wps at h
  cases h2 : lk T pc with
  | none => rw [h2] at h; exact h.elim
  | some f =>
    rw [h2] at h
    exact hT _ (lk_mem h2) g p l e R s m args below meth c w0 hC ad K N X Q hQ _ (gwp_ok hT hC hQ hc n) u L st s0 h
theorem lvh_sub {ls : Array Slot} {ad : Nat → Nat → Nat} {L L' : LC} (hs : ∀ q ∈ L', q ∈ L) (h : lv_has ls nL (L.map (fun q => (q.1, cL ad q.2)))) : lv_has ls nL (L'.map (fun q => (q.1, cL ad q.2))) :=
  ⟨h.1, h.2.1, fun q hq => by
    obtain ⟨z, hz, rfl⟩ := List.mem_map.mp hq
    exact h.2.2 _ (List.mem_map.mpr ⟨z, hs z hz, rfl⟩)⟩
theorem Rn_g {T : List (Nat × Sem)} (hT : ∀ q ∈ T, GSnd own cc nL d U ret q.1 q.2) (hC : CX g p l R s m args meth c own cc nL d U ret w0) (hQ : GQX g s args below ad K N X U Q) : Rn T U N X (GAW g p l e R s m args below meth c nL ad K Q) :=
  ⟨fun _ n pc u L st s1 h => gwps_ok hT hC hQ cutZ_ok n pc u L st s1 h, fun _ _ _ _ _ _ hs h ad K hE H locs ls hP hS hl => h ad K hE H locs ls hP hS (lvh_sub hs hl)⟩
theorem Rn_a {T : List (Nat × Sem)} (hT : ∀ q ∈ T, Snd own cc nL d U ret q.1 q.2) (hC : CX g p l R s m args meth c own cc nL d U ret w0) (hQ : QX g s args below ad K N X U Q) : Rn T U N X (AW g p l e R s m args below meth c nL ad K Q) :=
  ⟨fun _ n pc u L st s1 h => wps_ok hT hC hQ cutZ_ok n pc u L st s1 h, fun _ _ _ _ _ _ hs h H locs ls hP hS hl => h H locs ls hP hS (lvh_sub hs hl)⟩
theorem GMet.rn {y : MethodName} {own : String} {cc : ByteArray} {nL d U : Nat} {ret : Option FieldType} {sp : Spc} {T : List (Nat × Sem)} (hy : plainName y.cls = true) (hcls : y.cls = own) (is : List Nat) (his : is = List.range' 0 nL)
    (hT : ∀ q ∈ T, GSnd own cc nL d U ret q.1 q.2)
    (body : ∀ av s0 N X, sp av s0 N X → ∀ Z : Kt, Rn T U N X Z → argK av is (fun L => Z 0 0 L [] s0)) : GMet y cc nL ret d U sp := by
  intro l hl g ad K av s0 N X h
  subst hcls
  subst his
  refine vx_ofW hy rfl ?_
  intro p e s m args below meth c s₁ B hml htab hv
  obtain ⟨rfl, hGS, hGP⟩ := hv
  have hC : CX g p l (headSpec (wsM y cc nL ret) (rmD d U)).room s m (av.map (cv ad)).toArray meth c y.cls cc nL d U ret (.code y cc nL ret) :=
    ⟨⟨B.exec, B.bytes, hml, findClass_of_methodNamed B.named, atoms_spec (ws := wsM y cc nL ret) B.pre⟩, hGS, B.notSynchronized, B.returns, rfl, hl, htab⟩
  have hQ : GQX g s (av.map (cv ad)).toArray below ad K N X U (vx_MQ below (gQ g ad K N) (gX g ad K X) (av.map (cv ad)).toArray s (U * cU) (U * sU) (gA g)) := fun t q => q
  have h1 := body av s0 N X h _ (Rn_g (e := e) hT hC hQ)
  obtain ⟨L, h3, h4⟩ := argK_ok (ad := ad) av 0 nL _ h1
  obtain ⟨h5, h6⟩ := argK_len av 0 nL _ h1
  rw [lg_entry_eq]
  have hlen : (lg_sl (av.map (cv ad))).length ≤ nL := by rw [lgsl_len av h6]; exact h5
  have hlv := lv_entry (av.map (cv ad)) hlen
  have k2 := h3 ad K Ex.rf s.heap [] _ hGP va_S.rf (by rw [h4]; exact hlv)
  rw [Nat.zero_mul, Nat.zero_mul] at k2
  exact k2
theorem AMet.rn {y : MethodName} {own : String} {cc : ByteArray} {nL d U : Nat} {ret : Option FieldType} {sp : Spc} {T : List (Nat × Sem)} (hy : plainName y.cls = true) (hcls : y.cls = own) (is : List Nat) (his : is = List.range' 0 nL)
    (hT : ∀ q ∈ T, Snd own cc nL d U ret q.1 q.2)
    (body : ∀ av s0 N X, sp av s0 N X → ∀ Z : Kt, Rn T U N X Z → argK av is (fun L => Z 0 0 L [] s0)) : AMet y cc nL ret d U sp := by
  intro l hl g ad K av s0 N X h
  subst hcls
  subst his
  refine vx_ofW hy rfl ?_
  intro p e s m args below meth c s₁ B hml htab hv
  obtain ⟨rfl, hGS, hGP⟩ := hv
  have hC : CX g p l (headSpec (wsM y cc nL ret) (rmD d U)).room s m (av.map (cv ad)).toArray meth c y.cls cc nL d U ret (.code y cc nL ret) :=
    ⟨⟨B.exec, B.bytes, hml, findClass_of_methodNamed B.named, atoms_spec (ws := wsM y cc nL ret) B.pre⟩, hGS, B.notSynchronized, B.returns, rfl, hl, htab⟩
  have hQ : QX g s (av.map (cv ad)).toArray below ad K N X U (vx_MQ below (aQ g ad K N) (aX g ad K X) (av.map (cv ad)).toArray s (U * cU) (U * sU) (gA g)) := fun t q => q
  have h1 := body av s0 N X h _ (Rn_a (e := e) hT hC hQ)
  obtain ⟨L, h3, h4⟩ := argK_ok (ad := ad) av 0 nL _ h1
  obtain ⟨h5, h6⟩ := argK_len av 0 nL _ h1
  rw [lg_entry_eq]
  have hlen : (lg_sl (av.map (cv ad))).length ≤ nL := by rw [lgsl_len av h6]; exact h5
  have hlv := lv_entry (av.map (cv ad)) hlen
  have k2 := h3 s.heap [] _ hGP va_S.rf (by rw [h4]; exact hlv)
  rw [Nat.zero_mul, Nat.zero_mul] at k2
  exact k2
end Rns
theorem gapp {own : String} {cc : ByteArray} {nL d U : Nat} {ret : Option FieldType} {l l2 : List (Nat × Sem)} (h : ∀ q ∈ l, GSnd own cc nL d U ret q.1 q.2) (t : ∀ q ∈ l2, GSnd own cc nL d U ret q.1 q.2) : ∀ q ∈ l ++ l2, GSnd own cc nL d U ret q.1 q.2 := fun q hq => (List.mem_append.mp hq).elim (h q) (t q)
theorem rm_fit2 {d d' U w nL' : Nat} (h : d' + 2 ≤ d) (hl : nL' ≤ 57) : (rmD d' w).frames + 1 ≤ (rmD d U).frames ∧ 8 + (nL' + 11) + (rmD d' w).locals ≤ (rmD d U).locals := by
  refine ⟨by show d' + 1 ≤ d; omega, ?_⟩
  show 8 + (nL' + 11) + 38 * d' ≤ 38 * d
  omega

