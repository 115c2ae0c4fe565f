/-! builders of text: their instructions -/
theorem sel_priv {C : String} {y z : MethodName} {s : State} {args : Array Value} (hcls : z.cls = y.cls) (hy : y.cls ≠ "java/lang/invoke/MethodHandle" ∧ y.cls ≠ "java/lang/invoke/VarHandle")
    (hz : (Cond.selects C z z).before args s = true) (hpriv : (Cond.privateMethod y).before args s = true) (hinst : (Cond.instanceMethod y).before args s = true) : (Cond.selects C y y).before args s = true := by
  obtain ⟨mk, methM, hnamed, hmethM, -, -⟩ := Cond.instanceMethod_spec hinst
  have hfound : s.methodFound? y.cls y.name y.desc = some mk := State.methodFound?_of_named hnamed hy
  simp only [Cond.before, Cond.holds, Cond.value] at hz
  cases hc : s.vm.findClass C with
  | none => simp [hc] at hz
  | some c =>
    cases hmz : s.methodNamed? z with
    | none => simp [hc, hmz] at hz
    | some mz =>
      have e1 : mz.cls = mk.cls := Option.some.inj ((findClass_of_methodNamed hmz).symm.trans (by rw [hcls]; exact findClass_of_methodNamed hnamed))
      have hsel : selectMethod {} s.vm c mk = .method mk := selectMethod_private hmethM (Cond.privateMethod_at hpriv mk methM hnamed hmethM)
      have hni : (s.vm.classes[mk.cls]?).any (!·.isInterface) = true := by
        rw [← e1]
        cases hf : s.methodFound? z.cls z.name z.desc with
        | none => simp [hc, hmz, hf] at hz
        | some r =>
          simp only [hc, hmz, hf] at hz
          cases hs : selectMethod {} s.vm c r with
          | method m' => rw [hs] at hz; simp at hz ⊢; exact hz.2
          | _ => rw [hs] at hz; simp at hz
      simp only [Cond.before, Cond.holds, Cond.value, hc, hfound, hnamed, hsel]
      simpa using hni
section SBops
variable {own : String} {cc : ByteArray} {nL d U : Nat} {ret : Option FieldType} {pc nx : Nat}
/-- a call of a builder's method that a class above declares -/
def op_callU (sp : Spc) (n w nx : Nat) : Sem := fun U k _ X u L st s => popK n [] st (fun as st' => match as with
  | .inl (.inr (18, i)) :: _ => Lv s 18 i ∧ u + w ≤ U ∧ catS st' ≤ 8 ∧ sp as s (fun r s' => match r with
    | some v => k nx (u + w) L (v :: st') s'
    | none => k nx (u + w) L st' s') X
  | _ => False)
def op_callGU (sp : Spc) (n w nx : Nat) : Sem := fun U k _ X u L st s => popK n [] st (fun as st' => match as with
  | .inl (.inr (18, i)) :: _ => Lv s 18 i ∧ u + w ≤ U ∧ catS st' ≤ 8 ∧ lvs s st' ∧ lvK s L (fun L' => sp as s (fun r s' => match r with
    | some v => k nx (u + w) L' (v :: st') s'
    | none => k nx (u + w) L' st' s') X)
  | _ => False)
theorem cwU18 {s : State} {args : Array Value} {w0 : Cond} {own : String} {y : MethodName} {bytes : ByteArray} {nL' d' w n idx d U : Nat} {ret' : Option FieldType} (ht : ∀ w ∈ w0 :: TB, w.before args s = true)
    (h1 : Cond.methodLink own idx y ∈ TB) (h2 : Cond.sameMethod y.cls RJ5 y.name y.desc ∈ TB) (hsel : ∀ (s : State) (args : Array Value), (∀ w ∈ TB, w.before args s = true) → (Cond.selects RJ4 y y).before args s = true)
    (h3 : Cond.instanceMethod y ∈ TB) (h5 : Cond.initialized y.cls ∈ TB) (h4 : Cond.code y bytes nL' ret' ∈ TB) (hy : y = ⟨RJ5, y.name, y.desc⟩) (hn : (parseMethodDescriptor y.desc).map (fun d => d.parameters.length) = some n) (hdd : d' + 1 ≤ d) (hl' : nL' ≤ 19) :
    va_CU (rmD d U) s args own RJ4 RJ5 idx y y bytes nL' ret' (wsM y bytes nL' ret') (rmD d' w) (w * cU) (w * sU) n := by
  have ht2 : ∀ w ∈ Cond.selects RJ4 y y :: w0 :: TB, w.before args s = true := fun w hw => (List.mem_cons.mp hw).elim (fun e => by rw [e]; exact hsel s args (fun w hw => ht w (List.mem_cons_of_mem _ hw))) (ht w)
  have hG : GoodIn (Cond.selects RJ4 y y :: w0 :: TB) (va_wsU own idx RJ4 RJ5 y y (wsM y bytes nL' ret')) := by
    intro w hw
    have hb : ∀ w, w ∈ TB → w ∈ Cond.selects RJ4 y y :: w0 :: TB ∧ ((w.onTables && w.keeps) = true ∨ ∃ ty, w = .arrayClass ty) := fun w h => ⟨List.mem_cons_of_mem _ (List.mem_cons_of_mem _ h), good_of_word (TB_good h)⟩
    simp only [va_wsU, wsM, List.cons_append, List.nil_append, List.mem_cons] at hw
    rcases hw with rfl | rfl | rfl | rfl | rfl | rfl | hw
    · exact hb _ h1
    · exact hb _ h2
    · exact ⟨List.mem_cons_self, good_of_word rfl⟩
    · exact hb _ h3
    · exact hb _ h5
    · exact hb _ h4
    · exact hb _ hw
  exact va_cwU n ht2 hG rfl rfl rfl hy ⟨by decide, by decide, hn⟩ (rm_fit hdd hl')
theorem ok_callU {y : MethodName} {bytes : ByteArray} {nL' d' w n idx : Nat} {ret' : Option FieldType} {sp : Spc} (hM : AMet y bytes nL' ret' d' w sp)
    (h1 : Cond.methodLink own idx y ∈ TB) (h2 : Cond.sameMethod y.cls RJ5 y.name y.desc ∈ TB) (hsel : ∀ (s : State) (args : Array Value), (∀ w ∈ TB, w.before args s = true) → (Cond.selects RJ4 y y).before args s = true)
    (h3 : Cond.instanceMethod y ∈ TB) (h5 : Cond.initialized y.cls ∈ TB) (h4 : Cond.code y bytes nL' ret' ∈ TB) (hy : y = ⟨RJ5, y.name, y.desc⟩) (hnn : (parseMethodDescriptor y.desc).map (fun d => d.parameters.length) = some n) (hdd : d' + 1 ≤ d) (hl' : nL' ≤ 19)
    (hd : decode cc pc = .ok (.invokevirtual idx, 3)) (hn : pc + 3 = nx) : Snd own cc nL d U ret pc (op_callU sp (n + 1) w nx) := by
  intro g p l e R s m args below meth c w0 hC ad K N X Q hQ k hk u L st s0 h
  subst hn
  intro H locs ls hP hS hl
  obtain ⟨as, st', h, e1, e2⟩ := popK_ok h
  rw [List.append_nil] at h
  split at h
  · rename_i i tl
    obtain ⟨hL, hu, hcat, hsp⟩ := h
    obtain ⟨q0, ha, hK0⟩ := gws_at (g := g) (ad := ad) (s := s0) (hP.2.2.1 18 i hL)
    rw [ent_ob (c := 0) (n := 4) rfl] at ha
    have hrecv := va_recv hC.2.1.1 hP.1 (show vwCl[0]? = some (RJ4, TJ4, 4) from rfl) ha
    have hC' := hC
    obtain ⟨hF, hGS, hlk, hret, hR, hl0, htab⟩ := hC'
    subst hR
    refine run_ok hC hQ hu (vx_runU (C := RJ4) (b := ad 18 i) (As := tl.map (cv ad)) (rest := st'.map (cv ad)) hF (hM l hl0 g ad K _ s0 _ X hsp) (cwU18 hF.2.2.2.2 h1 h2 hsel h3 h5 h4 hy hnn hdd hl')
      ⟨GP_blind, hrecv, fun U9 hU hW => ⟨rfl, GS_moved hGS hW (locs := locs) (by rw [hU]; exact hS), by rw [hU]; exact hP⟩⟩ rfl (by rw [List.length_map]; simpa using e2) hl.1 ?_ (lv_room (by rw [catS_ok]; exact hcat)) hd
      ⟨by show u * cU + w * cU ≤ U * cU; rw [← Nat.add_mul]; exact Nat.mul_le_mul_right _ hu, by show u * sU + w * sU ≤ U * sU; rw [← Nat.add_mul]; exact Nat.mul_le_mul_right _ hu⟩) hS ?_
    · show st.map (cv ad) = (tl.map (cv ad)).reverse ++ .ref (ad 18 i) :: st'.map (cv ad)
      rw [e1, List.map_append, List.map_reverse]
      simp [cv, cL]
    · intro v s' H1 locs1 hN hP1 hS1
      cases v with
      | none => exact hk _ _ _ _ _ hN H1 locs1 ls hP1 hS1 hl
      | some v => exact hk _ _ _ _ _ hN H1 locs1 ls hP1 hS1 hl
  · exact h.elim
theorem ok_callGU {y : MethodName} {bytes : ByteArray} {nL' d' w n idx : Nat} {ret' : Option FieldType} {sp : Spc} (hM : GMet y bytes nL' ret' d' w sp)
    (h1 : Cond.methodLink own idx y ∈ TB) (h2 : Cond.sameMethod y.cls RJ5 y.name y.desc ∈ TB) (hsel : ∀ (s : State) (args : Array Value), (∀ w ∈ TB, w.before args s = true) → (Cond.selects RJ4 y y).before args s = true)
    (h3 : Cond.instanceMethod y ∈ TB) (h5 : Cond.initialized y.cls ∈ TB) (h4 : Cond.code y bytes nL' ret' ∈ TB) (hy : y = ⟨RJ5, y.name, y.desc⟩) (hnn : (parseMethodDescriptor y.desc).map (fun d => d.parameters.length) = some n) (hdd : d' + 1 ≤ d) (hl' : nL' ≤ 19)
    (hd : decode cc pc = .ok (.invokevirtual idx, 3)) (hn : pc + 3 = nx) : GSnd own cc nL d U ret pc (op_callGU sp (n + 1) w nx) := by
  intro g p l e R s m args below meth c w0 hC ad0 K0 N X Q hQ k hk u L st s0 h ad K hE
  subst hn
  intro H locs ls hP hS hl
  obtain ⟨as, st', h, e1, e2⟩ := popK_ok h
  rw [List.append_nil] at h
  split at h
  · rename_i i tl
    obtain ⟨hL, hu, hcat, hlv, hlk9⟩ := h
    obtain ⟨L', hsp, hsub⟩ := lvK_ok hlk9
    obtain ⟨q0, ha, hK0⟩ := gws_at (g := g) (ad := ad) (s := s0) (hP.2.2.1 18 i hL)
    rw [ent_ob (c := 0) (n := 4) rfl] at ha
    have hrecv := va_recv hC.2.1.1 hP.1 (show vwCl[0]? = some (RJ4, TJ4, 4) from rfl) ha
    have hC' := hC
    obtain ⟨hF, hGS, hlk, hret, hR, hl0, htab⟩ := hC'
    subst hR
    refine run_okG hC hE hQ hu (vx_runU (C := RJ4) (b := ad 18 i) (As := tl.map (cv ad)) (rest := st'.map (cv ad)) hF (hM l hl0 g ad K _ s0 _ X hsp) (cwU18 hF.2.2.2.2 h1 h2 hsel h3 h5 h4 hy hnn hdd hl')
      ⟨GP_blind, hrecv, fun U9 hU hW => ⟨rfl, GS_moved hGS hW (locs := locs) (by rw [hU]; exact hS), by rw [hU]; exact hP⟩⟩ rfl (by rw [List.length_map]; simpa using e2) hl.1 ?_ (lv_room (by rw [catS_ok]; exact hcat)) hd
      ⟨by show u * cU + w * cU ≤ U * cU; rw [← Nat.add_mul]; exact Nat.mul_le_mul_right _ hu, by show u * sU + w * sU ≤ U * sU; rw [← Nat.add_mul]; exact Nat.mul_le_mul_right _ hu⟩) hS ?_
    · show st.map (cv ad) = (tl.map (cv ad)).reverse ++ .ref (ad 18 i) :: st'.map (cv ad)
      rw [e1, List.map_append, List.map_reverse]
      simp [cv, cL]
    · intro ad' K' v s' H1 locs1 hE1 hN hP1 hS1
      have hl1 := has_mem hl (hsub hP.2.2.1 hE1 (gp_cc hP hP1))
      rw [lvs_ok hP.2.2.1 hE1 (gp_cc hP hP1) hlv]
      cases v with
      | none => exact hk _ _ _ _ _ hN ad' K' (hE.tr hE1) H1 locs1 ls hP1 hS1 hl1
      | some v => exact hk _ _ _ _ _ hN ad' K' (hE.tr hE1) H1 locs1 ls hP1 hS1 hl1
  · exact h.elim
/-- super.m(..) of a builder -/
theorem cwS18 {s : State} {args : Array Value} {w0 : Cond} {y : MethodName} {bytes : ByteArray} {nL' d' w n idx d U : Nat} {ret' : Option FieldType} (ht : ∀ w ∈ w0 :: TB, w.before args s = true)
    (h1 : Cond.methodLink RJ4 idx y ∈ TB) (h2 : Cond.sameMethod y.cls y.cls y.name y.desc ∈ TB) (h0 : Cond.superclass RJ4 y.cls ∈ TB) (h3 : Cond.instanceMethod y ∈ TB) (h5 : Cond.initialized y.cls ∈ TB) (h4 : Cond.code y bytes nL' ret' ∈ TB) (hni : y.name ≠ "<init>") (hn : (parseMethodDescriptor y.desc).map (fun d => d.parameters.length) = some n) (hdd : d' + 1 ≤ d) (hl' : nL' ≤ 19) :
    va_CS (rmD d U) s args RJ4 idx y bytes nL' ret' (wsM y bytes nL' ret') (rmD d' w) (w * cU) (w * sU) n := by
  have hG : GoodIn (w0 :: TB) (va_wsSU RJ4 idx y (wsM y bytes nL' ret')) := TB_in (by
    intro w hw
    simp only [va_wsSU, wsM, List.cons_append, List.nil_append, List.mem_cons] at hw
    rcases hw with rfl | rfl | rfl | rfl | rfl | rfl | hw
    · exact h1
    · exact h2
    · exact h0
    · exact h3
    · exact h5
    · exact h4
    · exact hw)
  exact va_cwSU n ht hG rfl rfl rfl ⟨hni, hn⟩ (rm_fit hdd hl')
theorem ok_callSU {y : MethodName} {bytes : ByteArray} {nL' d' w n idx : Nat} {ret' : Option FieldType} {sp : Spc} (hM : AMet y bytes nL' ret' d' w sp)
    (h1 : Cond.methodLink RJ4 idx y ∈ TB) (h2 : Cond.sameMethod y.cls y.cls y.name y.desc ∈ TB) (h0 : Cond.superclass RJ4 y.cls ∈ TB) (h3 : Cond.instanceMethod y ∈ TB) (h5 : Cond.initialized y.cls ∈ TB) (h4 : Cond.code y bytes nL' ret' ∈ TB) (hni : y.name ≠ "<init>") (hnn : (parseMethodDescriptor y.desc).map (fun d => d.parameters.length) = some n) (hdd : d' + 1 ≤ d) (hl' : nL' ≤ 19)
    (hd : decode cc pc = .ok (.invokespecial idx, 3)) (hn : pc + 3 = nx) : Snd RJ4 cc nL d U ret pc (op_callU sp (n + 1) w nx) := by
  intro g p l e R s m args below meth c w0 hC ad K N X Q hQ k hk u L st s0 h
  subst hn
  intro H locs ls hP hS hl
  obtain ⟨as, st', h, e1, e2⟩ := popK_ok h
  rw [List.append_nil] at h
  split at h
  · rename_i i tl
    obtain ⟨hL, hu, hcat, hsp⟩ := h
    obtain ⟨q0, ha, hK0⟩ := gws_at (g := g) (ad := ad) (s := s0) (hP.2.2.1 18 i hL)
    rw [ent_ob (c := 0) (n := 4) rfl] at ha
    have hrecv := va_recv hC.2.1.1 hP.1 (show vwCl[0]? = some (RJ4, TJ4, 4) from rfl) ha
    have hC' := hC
    obtain ⟨hF, hGS, hlk, hret, hR, hl0, htab⟩ := hC'
    subst hR
    refine run_ok hC hQ hu (vx_runSU (C := RJ4) (b := ad 18 i) (As := tl.map (cv ad)) (rest := st'.map (cv ad)) (hGS.1.1 0 _ rfl).2 hF (hM l hl0 g ad K _ s0 _ X hsp) (cwS18 hF.2.2.2.2 h1 h2 h0 h3 h5 h4 hni hnn hdd hl')
      ⟨GP_blind, hrecv, fun U9 hU hW => ⟨rfl, GS_moved hGS hW (locs := locs) (by rw [hU]; exact hS), by rw [hU]; exact hP⟩⟩ rfl (by rw [List.length_map]; simpa using e2) hl.1 ?_ (lv_room (by rw [catS_ok]; exact hcat)) hd
      ⟨by show u * cU + w * cU ≤ U * cU; rw [← Nat.add_mul]; exact Nat.mul_le_mul_right _ hu, by show u * sU + w * sU ≤ U * sU; rw [← Nat.add_mul]; exact Nat.mul_le_mul_right _ hu⟩) hS ?_
    · show st.map (cv ad) = (tl.map (cv ad)).reverse ++ .ref (ad 18 i) :: st'.map (cv ad)
      rw [e1, List.map_append, List.map_reverse]
      simp [cv, cL]
    · intro v s' H1 locs1 hN hP1 hS1
      cases v with
      | none => exact hk _ _ _ _ _ hN H1 locs1 ls hP1 hS1 hl
      | some v => exact hk _ _ _ _ _ hN H1 locs1 ls hP1 hS1 hl
  · exact h.elim
theorem ok_callGSU {y : MethodName} {bytes : ByteArray} {nL' d' w n idx : Nat} {ret' : Option FieldType} {sp : Spc} (hM : GMet y bytes nL' ret' d' w sp)
    (h1 : Cond.methodLink RJ4 idx y ∈ TB) (h2 : Cond.sameMethod y.cls y.cls y.name y.desc ∈ TB) (h0 : Cond.superclass RJ4 y.cls ∈ TB) (h3 : Cond.instanceMethod y ∈ TB) (h5 : Cond.initialized y.cls ∈ TB) (h4 : Cond.code y bytes nL' ret' ∈ TB) (hni : y.name ≠ "<init>") (hnn : (parseMethodDescriptor y.desc).map (fun d => d.parameters.length) = some n) (hdd : d' + 1 ≤ d) (hl' : nL' ≤ 19)
    (hd : decode cc pc = .ok (.invokespecial idx, 3)) (hn : pc + 3 = nx) : GSnd RJ4 cc nL d U ret pc (op_callGU sp (n + 1) w nx) := by
  intro g p l e R s m args below meth c w0 hC ad0 K0 N X Q hQ k hk u L st s0 h ad K hE
  subst hn
  intro H locs ls hP hS hl
  obtain ⟨as, st', h, e1, e2⟩ := popK_ok h
  rw [List.append_nil] at h
  split at h
  · rename_i i tl
    obtain ⟨hL, hu, hcat, hlv, hlk9⟩ := h
    obtain ⟨L', hsp, hsub⟩ := lvK_ok hlk9
    obtain ⟨q0, ha, hK0⟩ := gws_at (g := g) (ad := ad) (s := s0) (hP.2.2.1 18 i hL)
    rw [ent_ob (c := 0) (n := 4) rfl] at ha
    have hrecv := va_recv hC.2.1.1 hP.1 (show vwCl[0]? = some (RJ4, TJ4, 4) from rfl) ha
    have hC' := hC
    obtain ⟨hF, hGS, hlk, hret, hR, hl0, htab⟩ := hC'
    subst hR
    refine run_okG hC hE hQ hu (vx_runSU (C := RJ4) (b := ad 18 i) (As := tl.map (cv ad)) (rest := st'.map (cv ad)) (hGS.1.1 0 _ rfl).2 hF (hM l hl0 g ad K _ s0 _ X hsp) (cwS18 hF.2.2.2.2 h1 h2 h0 h3 h5 h4 hni hnn hdd hl')
      ⟨GP_blind, hrecv, fun U9 hU hW => ⟨rfl, GS_moved hGS hW (locs := locs) (by rw [hU]; exact hS), by rw [hU]; exact hP⟩⟩ rfl (by rw [List.length_map]; simpa using e2) hl.1 ?_ (lv_room (by rw [catS_ok]; exact hcat)) hd
      ⟨by show u * cU + w * cU ≤ U * cU; rw [← Nat.add_mul]; exact Nat.mul_le_mul_right _ hu, by show u * sU + w * sU ≤ U * sU; rw [← Nat.add_mul]; exact Nat.mul_le_mul_right _ hu⟩) hS ?_
    · show st.map (cv ad) = (tl.map (cv ad)).reverse ++ .ref (ad 18 i) :: st'.map (cv ad)
      rw [e1, List.map_append, List.map_reverse]
      simp [cv, cL]
    · intro ad' K' v s' H1 locs1 hE1 hN hP1 hS1
      have hl1 := has_mem hl (hsub hP.2.2.1 hE1 (gp_cc hP hP1))
      rw [lvs_ok hP.2.2.1 hE1 (gp_cc hP hP1) hlv]
      cases v with
      | none => exact hk _ _ _ _ _ hN ad' K' (hE.tr hE1) H1 locs1 ls hP1 hS1 hl1
      | some v => exact hk _ _ _ _ _ hN ad' K' (hE.tr hE1) H1 locs1 ls hP1 hS1 hl1
  · exact h.elim
end SBops

