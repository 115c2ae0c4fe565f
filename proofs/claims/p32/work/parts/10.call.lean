section Cls
variable {own : String} {cc : ByteArray} {nL d U : Nat} {ret : Option FieldType} {pc nx : Nat}
theorem W.mono {p : Program} {l : Launch} {e : Env} {R : Room} {s : State} {m : MethodId} {args : Array Value} {below : List Frame} {meth : Method} {c : Code} {H : Heap} {locs : List Loc} {cells slots : Nat} {Q Q' : State → Prop} {gg : JFrame}
    (hQ : ∀ t, Q' t → Q t) (k : W p l e R s m args below meth c H locs cells slots Q' gg) : W p l e R s m args below meth c H locs cells slots Q gg := fun T hT X => by
  obtain ⟨t, a, b⟩ := k T hT X
  exact ⟨t, a, hQ t b⟩
theorem ok_checkcast {C : String} {T : u_T} {n ci idx : Nat} (hc : vwCl[ci]? = some (C, T, n)) (hw : Cond.classLink own idx C ∈ TB)
    (hd : decode cc pc = .ok (.checkcast idx, 3)) (hn : pc + 3 = nx) : Snd own cc nL d U ret pc (op_cc ci nx) := by
  intro g p l e R s m args below meth c w0 hC ad K N X Q hQ k hk u L st s0 h
  subst hn
  intro H locs ls hP hS hl
  unfold op_cc at h
  split at h
  · rename_i t i st'
    cases ho : isO ci t with
    | false => rw [ho] at h; exact h.elim
    | true =>
      rw [ho, cond_true] at h
      obtain ⟨hL, h⟩ := h
      obtain ⟨N', hob⟩ := isO_ob ho
      obtain ⟨q0, ha, hK0⟩ := gws_at (g := g) (ad := ad) (s := s0) (hP.2.2.1 t i hL)
      rw [ent_ob hob] at ha
      exact va_castS hC.1.1 hC.1.2.1 (own := own) (nm := C) hC.1.2.2.2.1 (hC.1.2.2.2.2 _ (List.mem_cons_of_mem _ hw)) (hC.2.1.1.1 ci _ hc).2 (va_recv hC.2.1.1 hP.1 hc ha) hd (hk _ _ _ _ _ h H locs ls hP hS hl)
  · exact h.elim
theorem aQ_ret {g : GPm} {ad : Nat → Nat → Nat} {K : List (Nat × Nat)} {N : Nt} {s : State} {H : Heap} {locs : List Loc} {args : Array Value} {v : Option AV} {s0 : Sg} (hP : GP g ad K s0 H) (hS : va_S (gA g) s.heap H locs) (h : N v s0) :
    ∀ t : State, t.heap = H → s.WarmedH t.vm → aQ g ad K N args s (.returned (v.map (cv ad))) t :=
  fun t ht _ => ⟨⟨v, s0, rfl, h, by rw [ht]; exact hP⟩, hS.F ht⟩
theorem ok_ireturn (hr : ret = some .int) (hd : decode cc pc = .ok (.ireturn, 1)) : Snd own cc nL d U ret pc op_iret := by
  intro g p l e R s m args below meth c w0 hC ad K N X Q hQ k hk u L st s0 h
  intro H locs ls hP hS hl
  unfold op_iret at h
  split at h
  · rename_i v
    refine W.mono hQ (W.widen (Nat.mul_le_mul_right _ h.1) (Nat.mul_le_mul_right _ h.1) (vx_ret ?_))
    exact W.iret hC.1.1 hC.1.2.1 (by rw [hC.2.2.2.1, hr]) (aQ_ret (v := some (aI v)) hP hS h.2) hS.2.2 hd hC.2.2.1
  · exact h.elim
theorem ok_zreturn {ty : FieldType} (hr : ret = some ty) (hty : ty = .boolean ∨ ty = .char) (hd : decode cc pc = .ok (.ireturn, 1)) : Snd own cc nL d U ret pc op_zret := by
  intro g p l e R s m args below meth c w0 hC ad K N X Q hQ k hk u L st s0 h
  intro H locs ls hP hS hl
  unfold op_zret at h
  split at h
  · rename_i v
    refine W.mono hQ (W.widen (Nat.mul_le_mul_right _ h.1) (Nat.mul_le_mul_right _ h.1) (vx_ret ?_))
    refine W.zret (ty := ty) hC.1.1 hC.1.2.1 (by rw [hC.2.2.2.1, hr]) ?_ (aQ_ret (v := some (aI v)) hP hS h.2.2) hS.2.2 hd hC.2.2.1
    rcases hty with rfl | rfl <;> rcases h.2.1 with rfl | rfl <;> rfl
  · exact h.elim
theorem ok_areturn {cl : String} (hr : ret = some (.object cl)) (hd : decode cc pc = .ok (.areturn, 1)) : Snd own cc nL d U ret pc op_aret := by
  intro g p l e R s m args below meth c w0 hC ad K N X Q hQ k hk u L st s0 h
  intro H locs ls hP hS hl
  unfold op_aret at h
  split at h
  · rename_i r
    refine W.mono hQ (W.widen (Nat.mul_le_mul_right _ h.1) (Nat.mul_le_mul_right _ h.1) (vx_ret ?_))
    exact W.aret (v := .ref (ad r.1 r.2)) hC.1.1 hC.1.2.1 (by rw [hC.2.2.2.1, hr]) (Or.inl ⟨_, rfl⟩) (Or.inr ⟨_, rfl⟩) (aQ_ret (v := some (.inl (.inr r))) hP hS h.2) hS.2.2 hd hC.2.2.1
  · exact h.elim
theorem ok_vreturn (hr : ret = none) (hd : decode cc pc = .ok (.return_, 1)) : Snd own cc nL d U ret pc op_vret := by
  intro g p l e R s m args below meth c w0 hC ad K N X Q hQ k hk u L st s0 h
  intro H locs ls hP hS hl
  unfold op_vret at h
  split at h
  · refine W.mono hQ (W.widen (Nat.mul_le_mul_right _ h.1) (Nat.mul_le_mul_right _ h.1) (vx_ret ?_))
    exact W.vret hC.1.1 hC.1.2.1 (by rw [hC.2.2.2.1, hr]) (aQ_ret (v := none) hP hS h.2) hS.2.2 hd hC.2.2.1
  · exact h.elim
theorem popK_ok : ∀ {n : Nat} {acc st : List AV} {k : List AV → List AV → Prop}, popK n acc st k → ∃ as st', k (as ++ acc) st' ∧ st = as.reverse ++ st' ∧ as.length = n
  | 0, acc, st, k, h => ⟨[], st, h, rfl, rfl⟩
  | n + 1, acc, [], k, h => h.elim
  | n + 1, acc, v :: st, k, h => by
    obtain ⟨as, st', h1, h2, h3⟩ := popK_ok (n := n) h
    refine ⟨as ++ [v], st', by rw [List.append_assoc]; exact h1, ?_, by rw [List.length_append, h3]; rfl⟩
    rw [List.reverse_append, h2]
    rfl
theorem catS_ok {ad : Nat → Nat → Nat} : ∀ {st : List AV}, ((st.map (cv ad)).map fun v => v.category).sum = catS st
  | [] => rfl
  | .inl v :: r => by
    show (cL ad v).category + ((r.map (cv ad)).map fun v => v.category).sum = catS r + 1
    rw [catS_ok, cL_cat, Nat.add_comm]
  | .inr v :: r => by
    show 2 + ((r.map (cv ad)).map fun v => v.category).sum = catS r + 2
    rw [catS_ok, Nat.add_comm]
/-- what comes back from a call -/
theorem run_ok {g : GPm} {p : Program} {l : Launch} {e : Env} {R : Room} {s : State} {m : MethodId} {args : Array Value} {below : List Frame} {meth : Method} {c : Code} {w0 : Cond}
    (hC : CX g p l R s m args meth c own cc nL d U ret w0) {ad : Nat → Nat → Nat} {K : List (Nat × Nat)} {N N' : Nt} {X : Xt} {Q : State → Prop} (hQ : QX g s args below ad K N X U Q)
    {H : Heap} {locs : List Loc} {u w : Nat} {ls : Array Slot} {st0 rest : List Value} {a : Array Value} (hu : u + w ≤ U)
    (hr : vx_Run p l e R s m args below meth c H locs (u * cU) (u * sU) (w * cU) (w * sU) (F0 m pc ls st0) rest (aQ g ad K N' a) (aX g ad K X) (gA g)) (hS : va_S (gA g) s.heap H locs)
    (kk : ∀ (v : Option AV) (s' : Sg) (H1 : Heap) (locs1 : List Loc), N' v s' → GP g ad K s' H1 → va_S (gA g) s.heap H1 locs1 → W p l e R s m args below meth c H1 locs1 ((u + w) * cU) ((u + w) * sU) Q (F0 m (pc + 3) ls ((v.map (cv ad)).toList ++ rest))) :
    W p l e R s m args below meth c H locs (u * cU) (u * sU) Q (F0 m pc ls st0) := by
  intro T hT X0
  rcases hr T hT X0 with ⟨v, st₀, t, T', L, h0, X', hL, e1, e2, ⟨⟨r, s', hv, hn, hgp⟩, hF⟩, st⟩ | ⟨q, st₀, t, T', L, E, ce, h0, X', hL, e1, e2, ⟨⟨x, s', hx, hxx, hgp⟩, hF⟩, hce, hcv, hcl, st⟩
  · cases hv
    obtain ⟨k1, k2, k3⟩ := vx_keep h0 e1 hS (fun _ _ z => z) (fun _ z => z) hL hF
    have kw := kk r s' T'.heap (locs ++ L) hn (by rw [e1]; exact hgp) k3
    rw [Nat.add_mul, Nat.add_mul] at kw
    obtain ⟨t2, a1, b1⟩ := kw T' rfl X'
    exact ⟨t2, st t2 a1, b1⟩
  · obtain ⟨k1, k2, k3⟩ := vx_keep h0 e1 hS (fun _ _ z => z) (fun _ z => z) hL hF
    have ho := vx_out (p := p) (l := l) (e := e) (R := R) (s := s) (m := m) (args := args) (below := below) (meth := meth) (c := c) (H := T'.heap) (locs := locs ++ L) (cells := u * cU + w * cU) (slots := u * sU + w * sU) (rest := rest) (ls := ls)
      (Qc := aQ g ad K N) (XC := aX g ad K X) (free := gA g) (pc := pc) (E := E) (ce := ce) (q := q) (mc := U * cU) (ms := U * sU) (fun z hz => (hC.2.2.2.2.2.2 z hz).elim) hC.2.2.1 (by rw [e1]; exact hce) hcv hcl
      (fun t2 ht2 _ => ⟨⟨x, s', hx, hxx, by rw [ht2, e1]; exact hgp⟩, k3.F ht2⟩) k3.2.2 (by rw [← Nat.add_mul]; exact Nat.mul_le_mul_right _ hu) (by rw [← Nat.add_mul]; exact Nat.mul_le_mul_right _ hu)
    obtain ⟨t2, a1, b1⟩ := ho T' rfl X'
    exact ⟨t2, st.trans a1, hQ t2 b1⟩
theorem rm_fit {d d' w nL' : Nat} (h : d' + 1 ≤ d) (hl : nL' ≤ 19) : (rmD d' w).frames + 1 ≤ (rmD d U).frames ∧ 8 + (nL' + 11) + (rmD d' w).locals ≤ (rmD d U).locals := by
  refine ⟨h, ?_⟩
  show 8 + (nL' + 11) + 38 * d' ≤ 38 * d
  omega
theorem ok_invokestatic {y : MethodName} {bytes : ByteArray} {nL' d' w n idx : Nat} {ret' : Option FieldType} {sp : Spc} (hM : AMet y bytes nL' ret' d' w sp)
    (h1 : Cond.methodLink own idx y ∈ TB) (h2 : Cond.static y ∈ TB) (h3 : Cond.initialized y.cls ∈ TB) (h4 : Cond.code y bytes nL' ret' ∈ TB)
    (hy : y.cls ≠ "java/lang/invoke/MethodHandle" ∧ y.cls ≠ "java/lang/invoke/VarHandle" ∧ (parseMethodDescriptor y.desc).map (fun d => d.parameters.length) = some n) (hdd : d' + 1 ≤ d) (hl' : nL' ≤ 19)
    (hd : decode cc pc = .ok (.invokestatic idx, 3)) (hn : pc + 3 = nx) : Snd own cc nL d U ret pc (op_call sp n w nx) := by
  intro g p l e R s m args below meth c w0 hC ad K N X Q hQ k hk u L st s0 h
  subst hn
  intro H locs ls hP hS hl
  obtain ⟨as, st', ⟨hu, hcat, hsp⟩, e1, e2⟩ := popK_ok h
  rw [List.append_nil] at hsp
  have hC' := hC
  obtain ⟨hF, hGS, hlk, hret, hR, hl0, htab⟩ := hC'
  subst hR
  have hG : GoodIn (w0 :: TB) (va_wsS own idx y (wsM y bytes nL' ret')) := TB_in (by
    intro w hw
    simp only [va_wsS, wsM, List.cons_append, List.nil_append, List.mem_cons] at hw
    rcases hw with rfl | rfl | rfl | rfl | hw
    · exact h1
    · exact h2
    · exact h3
    · exact h4
    · exact hw)
  refine run_ok hC hQ hu (vx_runS (As := as.map (cv ad)) (rest := st'.map (cv ad)) hF (hM l hl0 g ad K as s0 _ X hsp) (va_cwS n hF.2.2.2.2 hG rfl rfl rfl hy (rm_fit hdd hl'))
    ⟨GP_blind, fun U9 hU hW => ⟨rfl, GS_moved hGS hW (locs := locs) (by rw [hU]; exact hS), by rw [hU]; exact hP⟩⟩ rfl (by rw [List.length_map]; exact e2) hl.1 ?_ (lv_room (by rw [catS_ok]; exact hcat)) hd
    ⟨by show u * cU + w * cU ≤ U * cU; rw [← Nat.add_mul]; exact Nat.mul_le_mul_right _ hu, by show u * sU + w * sU ≤ U * sU; rw [← Nat.add_mul]; exact Nat.mul_le_mul_right _ hu⟩) hS ?_
  · show st.map (cv ad) = (as.map (cv ad)).reverse ++ st'.map (cv ad)
    rw [e1, List.map_append, List.map_reverse]
  · intro v s' H1 locs1 hN hP1 hS1
    cases v with
    | none => exact hk _ _ _ _ _ hN H1 locs1 ls hP1 hS1 hl
    | some v => exact hk _ _ _ _ _ hN H1 locs1 ls hP1 hS1 hl
theorem ok_invokevirtual {C : String} {T : u_T} {y : MethodName} {bytes : ByteArray} {nL' d' w n idx ci nf : Nat} {ret' : Option FieldType} {sp : Spc} (hM : AMet y bytes nL' ret' d' w sp) (hc : vwCl[ci]? = some (C, T, nf))
    (h1 : Cond.methodLink own idx y ∈ TB) (h2 : Cond.instanceMethod y ∈ TB) (h3 : Cond.selects C y y ∈ TB) (h5 : Cond.initialized C ∈ TB) (h4 : Cond.code y bytes nL' ret' ∈ TB)
    (hy : y.cls = C ∧ y.cls ≠ "java/lang/invoke/MethodHandle" ∧ y.cls ≠ "java/lang/invoke/VarHandle" ∧ (parseMethodDescriptor y.desc).map (fun d => d.parameters.length) = some n) (hdd : d' + 1 ≤ d) (hl' : nL' ≤ 19)
    (hd : decode cc pc = .ok (.invokevirtual idx, 3)) (hn : pc + 3 = nx) : Snd own cc nL d U ret pc (op_callV ci sp (n + 1) w nx) := by
  intro g p l e R s m args below meth c w0 hC ad K N X Q hQ k hk u L st s0 h
  subst hn
  intro H locs ls hP hS hl
  obtain ⟨as, st', h, e1, e2⟩ := popK_ok h
  rw [List.append_nil] at h
  split at h
  · rename_i t i tl
    cases ho : isO ci t with
    | false => rw [ho] at h; exact h.elim
    | true =>
      rw [ho, cond_true] at h
      obtain ⟨hL, hu, hcat, hsp⟩ := h
      obtain ⟨N', hob⟩ := isO_ob ho
      obtain ⟨q0, ha, hK0⟩ := gws_at (g := g) (ad := ad) (s := s0) (hP.2.2.1 t i hL)
      rw [ent_ob hob] at ha
      have hrecv := va_recv hC.2.1.1 hP.1 hc ha
      have hC' := hC
      obtain ⟨hF, hGS, hlk, hret, hR, hl0, htab⟩ := hC'
      subst hR
      have hG : GoodIn (w0 :: TB) (wsV own idx C y (wsM y bytes nL' ret')) := TB_in (by
        intro w hw
        simp only [wsV, wsM, List.cons_append, List.nil_append, List.mem_cons] at hw
        rcases hw with rfl | rfl | rfl | rfl | rfl | hw
        · exact h1
        · exact h2
        · exact h3
        · exact h5
        · exact h4
        · exact hw)
      refine run_ok hC hQ hu (vx_runV (C := C) (b := ad t i) (As := tl.map (cv ad)) (rest := st'.map (cv ad)) hF (hM l hl0 g ad K _ s0 _ X hsp) (cwV n hF.2.2.2.2 hG rfl rfl rfl hy (rm_fit hdd hl'))
        ⟨GP_blind, hrecv, fun U9 hU hW => ⟨rfl, GS_moved hGS hW (locs := locs) (by rw [hU]; exact hS), by rw [hU]; exact hP⟩⟩ rfl (by rw [List.length_map]; simpa using e2) hl.1 ?_ (lv_room (by rw [catS_ok]; exact hcat)) hd
        ⟨by show u * cU + w * cU ≤ U * cU; rw [← Nat.add_mul]; exact Nat.mul_le_mul_right _ hu, by show u * sU + w * sU ≤ U * sU; rw [← Nat.add_mul]; exact Nat.mul_le_mul_right _ hu⟩) hS ?_
      · show st.map (cv ad) = (tl.map (cv ad)).reverse ++ .ref (ad t i) :: st'.map (cv ad)
        rw [e1, List.map_append, List.map_reverse]
        simp [cv, cL]
      · intro v s' H1 locs1 hN hP1 hS1
        cases v with
        | none => exact hk _ _ _ _ _ hN H1 locs1 ls hP1 hS1 hl
        | some v => exact hk _ _ _ _ _ hN H1 locs1 ls hP1 hS1 hl
  · exact h.elim
end Cls
