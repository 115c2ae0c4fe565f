/-! constructors: final fields -/
def ISnd (own : String) (cc : ByteArray) (nL d U : Nat) (ret : Option FieldType) (pc : Nat) (f : Sem) : Prop :=
  ∀ (g : GPm) (p : Program) (l : Launch) (e : Env) (R : Room) (s : State) (m : MethodId) (args : Array Value) (below : List Frame) (meth : Method) (c : Code) (w0 : Cond), meth.name = "<init>" →
    CX g p l R s m args meth c own cc nL d U ret w0 → ∀ (ad : Nat → Nat → Nat) (K : List (Nat × Nat)) (N : Nt) (X : Xt) (Q : State → Prop), QX g s args below ad K N X U Q →
    ∀ (k : Kt), (∀ pc' u' L' st' s', k pc' u' L' st' s' → AW g p l e R s m args below meth c nL ad K Q pc' u' L' st' s') →
    ∀ u L st s0, f U k N X u L st s0 → AW g p l e R s m args below meth c nL ad K Q pc u L st s0
theorem snd_i {own : String} {cc : ByteArray} {nL d U : Nat} {ret : Option FieldType} {pc : Nat} {f : Sem} (h : Snd own cc nL d U ret pc f) : ISnd own cc nL d U ret pc f :=
  fun g p l e R s m args below meth c w0 _ => h g p l e R s m args below meth c w0
theorem iicons {own : String} {cc : ByteArray} {nL d U : Nat} {ret : Option FieldType} {pc : Nat} {f : Sem} {l : List (Nat × Sem)} (h : ISnd own cc nL d U ret pc f) (t : ∀ q ∈ l, ISnd own cc nL d U ret q.1 q.2) : ∀ q ∈ (pc, f) :: l, ISnd own cc nL d U ret q.1 q.2 := fun q hq => (List.mem_cons.mp hq).elim (fun e => by rw [e]; exact h) (t q)
section IWPs
variable {g : GPm} {p : Program} {l : Launch} {e : Env} {R : Room} {s : State} {m : MethodId} {args : Array Value} {below : List Frame} {meth : Method} {c : Code}
variable {own : String} {cc : ByteArray} {nL d U : Nat} {ret : Option FieldType} {w0 : Cond} {ad : Nat → Nat → Nat} {K : List (Nat × Nat)} {N : Nt} {X : Xt} {Q : State → Prop}
theorem iwp_ok (hin2 : meth.name = "<init>") {T : List (Nat × Sem)} (hT : ∀ q ∈ T, ISnd own cc nL d U ret q.1 q.2) (hC : CX g p l R s m args meth c own cc nL d U ret w0) (hQ : QX g s args below ad K N X U Q)
    {C : Nat → Option (Nat → LC → List AV → Sg → Prop)} (hc : ∀ pc P, C pc = some P → ∀ u L st s0, P u L st s0 → AW g p l e R s m args below meth c nL ad K Q pc u L st s0) :
    ∀ n pc u L st s0, wp (lk T) C U N X n pc u L st s0 → AW g p l e R s m args below meth c nL ad K Q pc u L st s0 := by
  intro n
  induction n with
  | zero => intro pc u L st s0 h; exact h.elim
  | succ n ih =>
    intro pc u L st s0 h
    unfold wp at h
    cases h1 : C pc with
    | some P => rw [h1] at h; exact hc pc P h1 u L st s0 h
    | none =>
      rw [h1] at h
      cases h2 : lk T pc with
      | none => rw [h2] at h; exact h.elim
      | some f =>
        rw [h2] at h
        exact hT _ (lk_mem h2) g p l e R s m args below meth c w0 hin2 hC ad K N X Q hQ _ ih u L st s0 h
end IWPs
theorem ok_putfieldF {own : String} {cc : ByteArray} {nL d U : Nat} {ret : Option FieldType} {pc nx : Nat} {C : String} {T : u_T} {n ci f idx : Nat} (ty0 : Nat → FieldType) (ty : FieldType) (hc : vwCl[ci]? = some (C, T, n)) (hin : ∀ w ∈ u_ws C T n, w ∈ TB) (hty : ∀ k, k < n → parseFieldDescriptor (T k).2.2.1 = some (ty0 k)) (hnm : ∀ a, a < n → ∀ b, b < n → a ≠ b → (T a).2.1 ≠ (T b).2.1)
    (hf : f < n) (hfin : (T f).2.2.2 = true) (hdecl : (T f).1 = own) (hw : Cond.fieldLink own idx (T f).1 (T f).2.1 (T f).2.2.1 ∈ TB) (hp : parseFieldDescriptor (T f).2.2.1 = some ty) (hz : ty = .int ∨ (ty = .boolean ∧ ∀ t, isO ci t = true → zf t f = true))
    (hd : decode cc pc = .ok (.putfield idx, 3)) (hn : pc + 3 = nx) : ISnd own cc nL d U ret pc (op_pf ci f nx) := by
  intro g p l e R s m args below meth c w0 hin2 hC ad K N X Q hQ k hk u L st s0 h
  subst hn
  intro H locs ls hP hS hl
  unfold op_pf at h
  split at h
  · rename_i v t i st'
    cases ho : isO ci t with
    | false => rw [ho] at h; exact h.elim
    | true =>
      rw [ho, cond_true] at h
      split at h
      · rename_i hr
        cases hb : Nat.beq t 2 && Nat.beq f 2 with
        | true => rw [hb, cond_true] at h; exact h.elim
        | false =>
          rw [hb, cond_false] at h
          obtain ⟨hL, h⟩ := h
          have h2 : (zf t f = true → (v = 0 ∨ v = 1)) ∧ k (pc + 3) u L st' (stS s0 t i f v) := by
            cases hzf : zf t f with
            | true => rw [hzf, cond_true] at h; exact ⟨fun _ => h.1, h.2⟩
            | false => rw [hzf, cond_false] at h; exact ⟨(fun q => nomatch q), h⟩
          obtain ⟨N', hob⟩ := isO_ob ho
          obtain ⟨q, hq1, hq2⟩ := ob_N hob
          have hN : N' = n := by rw [hq1] at hc; cases hc; exact hq2.symm
          subst hN
          obtain ⟨q0, ha, hK0⟩ := gws_at (g := g) (ad := ad) (s := s0) (hP.2.2.1 t i hL)
          rw [ent_ob hob] at ha
          have hnar : narrow ty (.int v) = .int v ∧ fits ty (.int v) = true := by
            rcases hz with rfl | ⟨rfl, hz⟩
            · exact ⟨rfl, rfl⟩
            · rcases h2.1 (hz t ho) with rfl | rfl <;> exact ⟨rfl, rfl⟩
          refine va_putF (D := g.1) (ci := ci) (v := .int v) (ty := ty) (Ts := w0 :: TB) hC.1.1 hC.1.2.1 hC.1.2.2.2.2 (fun w hw => List.mem_cons_of_mem _ (hin w hw)) ty0 hty hnm hC.1.2.2.2.1 hC.2.1.1 hP.1 hP.2.1 hS q0 ha hc f hf (hC.1.2.2.2.2 _ (List.mem_cons_of_mem _ hw)) (fun _ q => q) hfin hin2 hdecl hp hnar.1 hnar.2 (by rw [List.length_map, List.length_range]; exact hf) hd (fun H1 locs1 hP1 hD1 hS1 => ?_)
          rw [rng_set (f' := fun k => cL ad (gf (stS s0 t i f v) t i k)) (by rw [gf_put hr hb]; rfl) (fun j hj => by rw [gf_oth hj])] at hP1 hD1
          have hz2 : g.2.2 ≤ H1.size := by
            have := (hP1 q0 _ (by rw [List.getElem?_set_self (List.getElem?_eq_some_iff.mp ha).1])).lt
            have h5 := hD1.2 q0 _ (by rw [List.getElem?_set_self (List.getElem?_eq_some_iff.mp ha).1])
            exact Nat.le_of_lt (Nat.lt_of_le_of_lt h5 this)
          refine hk _ _ _ _ _ h2.2 H1 locs1 ls ?_ hS1 hl
          have e := gws_set (g := g) (ad := ad) (s' := stS s0 t i f v) hP.2.1 hK0 (ent_ob hob) stS_ent
          rw [e] at hP1 hD1
          exact ⟨hP1, hD1, hP.2.2.1, hz2, hP.2.2.2.2⟩
      · exact h.elim
  · exact h.elim
theorem AMet.mi {y : MethodName} {own : String} {cc : ByteArray} {nL d U : Nat} {ret : Option FieldType} {sp : Spc} {T : List (Nat × Sem)} (hy : plainName y.cls = true) (hcls : y.cls = own) (hnm : y.name = "<init>") (is : List Nat) (his : is = List.range' 0 nL)
    (hT : ∀ q ∈ T, ISnd own cc nL d U ret q.1 q.2) (F : Nat)
    (body : ∀ av s0 N X, sp av s0 N X → argK av is (fun L => wp (lk T) (fun _ => none) U N X F 0 0 L [] s0)) : AMet y cc nL ret d U sp := by
  intro l hl g ad K av s0 N X h
  subst hcls
  subst his
  refine vx_ofW hy rfl ?_
  intro p e s m args below meth c s₁ B hml htab hv
  obtain ⟨rfl, hGS, hGP⟩ := hv
  have hin2 : meth.name = "<init>" := ((name_of_methodNamed B.named B.method).1).trans hnm
  have hC : CX g p l (headSpec (wsM y cc nL ret) (rmD d U)).room s m (av.map (cv ad)).toArray meth c y.cls cc nL d U ret (.code y cc nL ret) :=
    ⟨⟨B.exec, B.bytes, hml, findClass_of_methodNamed B.named, atoms_spec (ws := wsM y cc nL ret) B.pre⟩, hGS, B.notSynchronized, B.returns, rfl, hl, htab⟩
  have h1 := body av s0 N X h
  have hQ : QX g s (av.map (cv ad)).toArray below ad K N X U (vx_MQ below (aQ g ad K N) (aX g ad K X) (av.map (cv ad)).toArray s (U * cU) (U * sU) (gA g)) := fun t q => q
  obtain ⟨L, h3, h4⟩ := argK_ok (ad := ad) av 0 nL _ h1
  obtain ⟨h5, h6⟩ := argK_len av 0 nL _ h1
  have key := iwp_ok (e := e) hin2 hT hC hQ (C := fun _ => none) (fun pc P hP => nomatch hP) F 0 0 L [] s0 h3
  rw [lg_entry_eq]
  have hlen : (lg_sl (av.map (cv ad))).length ≤ nL := by rw [lgsl_len av h6]; exact h5
  have hlv := lv_entry (av.map (cv ad)) hlen
  have k2 := key s.heap [] _ hGP va_S.rf (by rw [h4]; exact hlv)
  rw [Nat.zero_mul, Nat.zero_mul] at k2
  exact k2

