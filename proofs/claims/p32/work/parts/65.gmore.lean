/-! growth: more of the machine -/
section GMore
variable {own : String} {cc : ByteArray} {nL d U : Nat} {ret : Option FieldType} {pc nx : Nat}
theorem ok_getfieldS {C : String} {T : u_T} {n ci f idx : Nat} (hc : vwCl[ci]? = some (C, T, n)) (hin : ∀ w ∈ u_ws C T n, w ∈ TB) (hf : f < n) {ref : String} (hw : Cond.fieldLink own idx ref (T f).2.1 (T f).2.2.1 ∈ TB) (hsm : Cond.sameField ref (T f).1 (T f).2.1 (T f).2.2.1 ∈ TB)
    (hd : decode cc pc = .ok (.getfield idx, 3)) (hn : pc + 3 = nx) : Snd own cc nL d U ret pc (op_gf ci f nx) := by
  intro g p l e R s m args below meth c w0 hC ad K N X Q hQ k hk u L st s0 h
  subst hn
  intro H locs ls hP hS hl
  unfold op_gf at h
  split at h
  · rename_i t i st'
    cases ho : isO ci t with
    | false => rw [ho] at h; exact h.elim
    | true =>
      rw [ho, cond_true] at h
      obtain ⟨hL, h⟩ := h
      obtain ⟨N', hob⟩ := isO_ob ho
      obtain ⟨q, hq1, hq2⟩ := ob_N hob
      have hN : N' = n := by rw [hq1] at hc; cases hc; exact hq2.symm
      subst hN
      obtain ⟨q0, ha, hK0⟩ := gws_at (g := g) (ad := ad) (s := s0) (hP.2.2.1 t i hL)
      rw [ent_ob hob] at ha
      refine va_get (D := g.1) (ci := ci) (v := cL ad (gf s0 t i f)) (Ts := w0 :: TB) hC.1.1 hC.1.2.1 hC.1.2.2.2.2 (fun w hw => List.mem_cons_of_mem _ (hin w hw)) hC.1.2.2.2.1 hC.2.1.1 hP.1 q0 ha hc f hf (hC.1.2.2.2.2 _ (List.mem_cons_of_mem _ hw)) (fun x9 q => u_same (hC.1.2.2.2.2 _ (List.mem_cons_of_mem _ hsm)) x9 q) (rng_at _ hf) hd ?_
      unfold gf
      split at h
      · rename_i t' hr; rw [hr]; exact hk _ _ _ _ _ h H locs ls hP hS hl
      · rename_i t' c' hr; rw [hr]; exact hk _ _ _ _ _ h H locs ls hP hS hl
      · rename_i hr
        rw [hr]
        cases hb : Nat.beq t 2 && Nat.beq f 2 with
        | true => rw [hb, cond_true] at h; simp only [cond_true]; exact hk _ _ _ _ _ h H locs ls hP hS hl
        | false => rw [hb, cond_false] at h; simp only [cond_false]; exact hk _ _ _ _ _ h H locs ls hP hS hl
  · exact h.elim
theorem ok_putfieldS {C : String} {T : u_T} {n ci f idx : Nat} (ty0 : Nat → FieldType) (ty : FieldType) (hc : vwCl[ci]? = some (C, T, n)) (hin : ∀ w ∈ u_ws C T n, w ∈ TB) (hty : ∀ k, k < n → parseFieldDescriptor (T k).2.2.1 = some (ty0 k)) (hnm : ∀ a, a < n → ∀ b, b < n → a ≠ b → (T a).2.1 ≠ (T b).2.1)
    (hf : f < n) (hfin : (T f).2.2.2 = false) {ref : String} (hw : Cond.fieldLink own idx ref (T f).2.1 (T f).2.2.1 ∈ TB) (hsm : Cond.sameField ref (T f).1 (T f).2.1 (T f).2.2.1 ∈ TB) (hp : parseFieldDescriptor (T f).2.2.1 = some ty) (hz : ty = .int ∨ (ty = .boolean ∧ ∀ t, isO ci t = true → zf t f = true))
    (hd : decode cc pc = .ok (.putfield idx, 3)) (hn : pc + 3 = nx) : Snd own cc nL d U ret pc (op_pf ci f nx) := by
  intro g p l e R s m args below meth c w0 hC ad K N X Q hQ k hk u L st s0 h
  subst hn
  intro H locs ls hP hS hl
  unfold op_pf at h
  split at h
  · rename_i v t i st'
    cases ho : isO ci t with
    | false => rw [ho] at h; exact h.elim
    | true =>
      rw [ho, cond_true] at h
      split at h
      · rename_i hr
        cases hb : Nat.beq t 2 && Nat.beq f 2 with
        | true => rw [hb, cond_true] at h; exact h.elim
        | false =>
          rw [hb, cond_false] at h
          obtain ⟨hL, h⟩ := h
          have h2 : (zf t f = true → (v = 0 ∨ v = 1)) ∧ k (pc + 3) u L st' (stS s0 t i f v) := by
            cases hzf : zf t f with
            | true => rw [hzf, cond_true] at h; exact ⟨fun _ => h.1, h.2⟩
            | false => rw [hzf, cond_false] at h; exact ⟨(fun q => nomatch q), h⟩
          obtain ⟨N', hob⟩ := isO_ob ho
          obtain ⟨q, hq1, hq2⟩ := ob_N hob
          have hN : N' = n := by rw [hq1] at hc; cases hc; exact hq2.symm
          subst hN
          obtain ⟨q0, ha, hK0⟩ := gws_at (g := g) (ad := ad) (s := s0) (hP.2.2.1 t i hL)
          rw [ent_ob hob] at ha
          have hnar : narrow ty (.int v) = .int v ∧ fits ty (.int v) = true := by
            rcases hz with rfl | ⟨rfl, hz⟩
            · exact ⟨rfl, rfl⟩
            · rcases h2.1 (hz t ho) with rfl | rfl <;> exact ⟨rfl, rfl⟩
          refine va_put (D := g.1) (ci := ci) (v := .int v) (ty := ty) (Ts := w0 :: TB) hC.1.1 hC.1.2.1 hC.1.2.2.2.2 (fun w hw => List.mem_cons_of_mem _ (hin w hw)) ty0 hty hnm hC.1.2.2.2.1 hC.2.1.1 hP.1 hP.2.1 hS q0 ha hc f hf (hC.1.2.2.2.2 _ (List.mem_cons_of_mem _ hw)) (fun x9 q => u_same (hC.1.2.2.2.2 _ (List.mem_cons_of_mem _ hsm)) x9 q) hfin hp hnar.1 hnar.2 (by rw [List.length_map, List.length_range]; exact hf) hd (fun H1 locs1 hP1 hD1 hS1 => ?_)
          rw [rng_set (f' := fun k => cL ad (gf (stS s0 t i f v) t i k)) (by rw [gf_put hr hb]; rfl) (fun j hj => by rw [gf_oth hj])] at hP1 hD1
          have hz2 : g.2.2 ≤ H1.size := by
            have := (hP1 q0 _ (by rw [List.getElem?_set_self (List.getElem?_eq_some_iff.mp ha).1])).lt
            have h5 := hD1.2 q0 _ (by rw [List.getElem?_set_self (List.getElem?_eq_some_iff.mp ha).1])
            exact Nat.le_of_lt (Nat.lt_of_le_of_lt h5 this)
          refine hk _ _ _ _ _ h2.2 H1 locs1 ls ?_ hS1 hl
          have e := gws_set (g := g) (ad := ad) (s' := stS s0 t i f v) hP.2.1 hK0 (ent_ob hob) stS_ent
          rw [e] at hP1 hD1
          exact ⟨hP1, hD1, hP.2.2.1, hz2, hP.2.2.2.2⟩
      · exact h.elim
  · exact h.elim
theorem ok_areturnA {cl : FieldType} (hr : ret = some (.array cl)) (hd : decode cc pc = .ok (.areturn, 1)) : Snd own cc nL d U ret pc op_aret := by
  intro g p l e R s m args below meth c w0 hC ad K N X Q hQ k hk u L st s0 h
  intro H locs ls hP hS hl
  unfold op_aret at h
  split at h
  · rename_i r
    refine W.mono hQ (W.widen (Nat.mul_le_mul_right _ h.1) (Nat.mul_le_mul_right _ h.1) (vx_ret ?_))
    exact W.aret (v := .ref (ad r.1 r.2)) hC.1.1 hC.1.2.1 (by rw [hC.2.2.2.1, hr]) (Or.inr ⟨_, rfl⟩) (Or.inr ⟨_, rfl⟩) (aQ_ret (v := some (.inl (.inr r))) hP hS h.2) hS.2.2 hd hC.2.2.1
  · exact h.elim
theorem ok_invokestaticG {y : MethodName} {bytes : ByteArray} {nL' d' w n idx : Nat} {ret' : Option FieldType} {sp : Spc} (hM : GMet y bytes nL' ret' d' w sp)
    (h1 : Cond.methodLink own idx y ∈ TB) (h2 : Cond.static y ∈ TB) (h3 : Cond.initialized y.cls ∈ TB) (h4 : Cond.code y bytes nL' ret' ∈ TB)
    (hy : y.cls ≠ "java/lang/invoke/MethodHandle" ∧ y.cls ≠ "java/lang/invoke/VarHandle" ∧ (parseMethodDescriptor y.desc).map (fun d => d.parameters.length) = some n) (hdd : d' + 1 ≤ d) (hl' : nL' ≤ 19)
    (hd : decode cc pc = .ok (.invokestatic idx, 3)) (hn : pc + 3 = nx) : GSnd own cc nL d U ret pc (op_callG sp n w nx) := by
  intro g p l e R s m args below meth c w0 hC ad0 K0 N X Q hQ k hk u L st s0 h ad K hE
  subst hn
  intro H locs ls hP hS hl
  obtain ⟨as, st', ⟨hu, hcat, hlv, hlk9⟩, e1, e2⟩ := popK_ok h
  obtain ⟨L', hsp, hsub⟩ := lvK_ok hlk9
  rw [List.append_nil] at hsp
  have hC' := hC
  obtain ⟨hF, hGS, hlk, hret, hR, hl0, htab⟩ := hC'
  subst hR
  have hG : GoodIn (w0 :: TB) (va_wsS own idx y (wsM y bytes nL' ret')) := TB_in (by
    intro w hw
    simp only [va_wsS, wsM, List.cons_append, List.nil_append, List.mem_cons] at hw
    rcases hw with rfl | rfl | rfl | rfl | hw
    · exact h1
    · exact h2
    · exact h3
    · exact h4
    · exact hw)
  refine run_okG hC hE hQ hu (vx_runS (As := as.map (cv ad)) (rest := st'.map (cv ad)) hF (hM l hl0 g ad K as s0 _ X hsp) (va_cwS n hF.2.2.2.2 hG rfl rfl rfl hy (rm_fit hdd hl'))
    ⟨GP_blind, fun U9 hU hW => ⟨rfl, GS_moved hGS hW (locs := locs) (by rw [hU]; exact hS), by rw [hU]; exact hP⟩⟩ rfl (by rw [List.length_map]; exact e2) hl.1 ?_ (lv_room (by rw [catS_ok]; exact hcat)) hd
    ⟨by show u * cU + w * cU ≤ U * cU; rw [← Nat.add_mul]; exact Nat.mul_le_mul_right _ hu, by show u * sU + w * sU ≤ U * sU; rw [← Nat.add_mul]; exact Nat.mul_le_mul_right _ hu⟩) hS ?_
  · show st.map (cv ad) = (as.map (cv ad)).reverse ++ st'.map (cv ad)
    rw [e1, List.map_append, List.map_reverse]
  · intro ad' K' v s' H1 locs1 hE1 hN hP1 hS1
    have hl1 := has_mem hl (hsub hP.2.2.1 hE1 (gp_cc hP hP1))
    rw [lvs_ok hP.2.2.1 hE1 (gp_cc hP hP1) hlv]
    cases v with
    | none => exact hk _ _ _ _ _ hN ad' K' (hE.tr hE1) H1 locs1 ls hP1 hS1 hl1
    | some v => exact hk _ _ _ _ _ hN ad' K' (hE.tr hE1) H1 locs1 ls hP1 hS1 hl1
end GMore
theorem gcons {own : String} {cc : ByteArray} {nL d U : Nat} {ret : Option FieldType} {pc : Nat} {f : Sem} {l : List (Nat × Sem)} (h : GSnd own cc nL d U ret pc f) (t : ∀ q ∈ l, GSnd own cc nL d U ret q.1 q.2) : ∀ q ∈ (pc, f) :: l, GSnd own cc nL d U ret q.1 q.2 := fun q hq => (List.mem_cons.mp hq).elim (fun e => by rw [e]; exact h) (t q)

