/-! growth: methods that make things: their worlds end at more names, the old ones keep their places (a list's row apart) -/
/-- rows that may come to another place, or go -/
def mvk (t : Nat) : Bool := Nat.beq t 3 || Nat.beq t 19 || Nat.beq t 58 || Nat.beq t 59
theorem mvk_f {t : Nat} (h : mvk t = false) : ¬ t = 3 ∧ ¬ t = 19 ∧ ¬ t = 58 ∧ ¬ t = 59 := by
  refine ⟨?_, ?_, ?_, ?_⟩ <;> (rintro rfl; cases h)
def Ex (ad : Nat → Nat → Nat) (K : List (Nat × Nat)) (ad' : Nat → Nat → Nat) (K' : List (Nat × Nat)) : Prop := ∀ q ∈ K, ¬ q.1 = 58 → ¬ q.1 = 59 → q ∈ K' ∧ (¬ q.1 = 3 → ¬ q.1 = 19 → ad' q.1 q.2 = ad q.1 q.2)
theorem Ex.rf {ad : Nat → Nat → Nat} {K : List (Nat × Nat)} : Ex ad K ad K := fun _ h _ _ => ⟨h, fun _ _ => rfl⟩
theorem Ex.tr {ad ad1 ad2 : Nat → Nat → Nat} {K K1 K2 : List (Nat × Nat)} (h1 : Ex ad K ad1 K1) (h2 : Ex ad1 K1 ad2 K2) : Ex ad K ad2 K2 := fun q h x y => ⟨(h2 q (h1 q h x y).1 x y).1, fun n n' => ((h2 q (h1 q h x y).1 x y).2 n n').trans ((h1 q h x y).2 n n')⟩
def gQ (g : GPm) (ad : Nat → Nat → Nat) (K : List (Nat × Nat)) (N : Nt) : Array Value → State → Outcome → State → Prop := fun _ st oc t =>
  (∃ (ad' : Nat → Nat → Nat) (K' : List (Nat × Nat)) (v : Option AV) (s' : Sg), Ex ad K ad' K' ∧ oc = .returned (v.map (cv ad')) ∧ N v s' ∧ GP g ad' K' s' t.heap) ∧ va_F (gA g) st t
def gX (g : GPm) (ad : Nat → Nat → Nat) (K : List (Nat × Nat)) (X : Xt) : String → State → State → Prop := fun E st t =>
  (∃ (ad' : Nat → Nat → Nat) (K' : List (Nat × Nat)) (x : Nat) (s' : Sg), Ex ad K ad' K' ∧ exn x = E ∧ X x s' ∧ GP g ad' K' s' t.heap) ∧ va_F (gA g) st t
/-- the contract of a method that makes things -/
def GMet (y : MethodName) (cc : ByteArray) (nL : Nat) (ret : Option FieldType) (d u : Nat) (sp : Spc) : Prop :=
  ∀ (l : Launch), l.stackTraces = false → ∀ (g : GPm) (ad : Nat → Nat → Nat) (K : List (Nat × Nat)) (av : List AV) (s0 : Sg) (N : Nt) (X : Xt), sp av s0 N X →
    vx_Met l y (wsM y cc nL ret) (rmD d u) (va_Pc (av.map (cv ad)) (fun U => GS g U ∧ GP g ad K s0 U.heap)) (gQ g ad K N) (gX g ad K X) (u * cU) (u * sU) (gA g)
theorem aQ_g {g : GPm} {ad ad1 : Nat → Nat → Nat} {K K1 : List (Nat × Nat)} {N : Nt} {a : Array Value} {st : State} {oc : Outcome} {t : State} (hE : Ex ad K ad1 K1) (h : aQ g ad1 K1 N a st oc t) : gQ g ad K N a st oc t := by
  obtain ⟨⟨v, s', h1, h2, h3⟩, h4⟩ := h
  exact ⟨⟨ad1, K1, v, s', hE, h1, h2, h3⟩, h4⟩
theorem aX_g {g : GPm} {ad ad1 : Nat → Nat → Nat} {K K1 : List (Nat × Nat)} {X : Xt} {E : String} {st t : State} (hE : Ex ad K ad1 K1) (h : aX g ad1 K1 X E st t) : gX g ad K X E st t := by
  obtain ⟨⟨x, s', h1, h2, h3⟩, h4⟩ := h
  exact ⟨⟨ad1, K1, x, s', hE, h1, h2, h3⟩, h4⟩
theorem MQ_g {g : GPm} {ad ad1 : Nat → Nat → Nat} {K K1 : List (Nat × Nat)} {N : Nt} {X : Xt} {below : List Frame} {a : Array Value} {s t : State} {mc ms : Nat} (hE : Ex ad K ad1 K1) (h : vx_MQ below (aQ g ad1 K1 N) (aX g ad1 K1 X) a s mc ms (gA g) t) : vx_MQ below (gQ g ad K N) (gX g ad K X) a s mc ms (gA g) t := by
  obtain ⟨o, h1, h2, h3⟩ := h
  refine ⟨o, h1, h2, ?_⟩
  rcases h3 with ⟨h3, h4⟩ | ⟨q, h3, E, ce, L, h4, h5⟩
  · exact Or.inl ⟨aQ_g hE h3, h4⟩
  · exact Or.inr ⟨q, h3, E, ce, L, aX_g hE h4, h5⟩
section Grow
variable (g : GPm) (p : Program) (l : Launch) (e : Env) (R : Room) (s : State) (m : MethodId) (args : Array Value) (below : List Frame) (meth : Method) (c : Code)
def GAW (nL : Nat) (ad0 : Nat → Nat → Nat) (K0 : List (Nat × Nat)) (Q : State → Prop) (pc u : Nat) (L : LC) (st : List AV) (s1 : Sg) : Prop :=
  ∀ (ad : Nat → Nat → Nat) (K : List (Nat × Nat)), Ex ad0 K0 ad K → AW g p l e R s m args below meth c nL ad K Q pc u L st s1
def GQX (ad : Nat → Nat → Nat) (K : List (Nat × Nat)) (N : Nt) (X : Xt) (U : Nat) (Q : State → Prop) : Prop :=
  ∀ t, vx_MQ below (gQ g ad K N) (gX g ad K X) args s (U * cU) (U * sU) (gA g) t → Q t
end Grow
def GSnd (own : String) (cc : ByteArray) (nL d U : Nat) (ret : Option FieldType) (pc : Nat) (f : Sem) : Prop :=
  ∀ (g : GPm) (p : Program) (l : Launch) (e : Env) (R : Room) (s : State) (m : MethodId) (args : Array Value) (below : List Frame) (meth : Method) (c : Code) (w0 : Cond),
    CX g p l R s m args meth c own cc nL d U ret w0 → ∀ (ad0 : Nat → Nat → Nat) (K0 : List (Nat × Nat)) (N : Nt) (X : Xt) (Q : State → Prop), GQX g s args below ad0 K0 N X U Q →
    ∀ (k : Kt), (∀ pc' u' L' st' s', k pc' u' L' st' s' → GAW g p l e R s m args below meth c nL ad0 K0 Q pc' u' L' st' s') →
    ∀ u L st s1, f U k N X u L st s1 → GAW g p l e R s m args below meth c nL ad0 K0 Q pc u L st s1
theorem snd_g {own : String} {cc : ByteArray} {nL d U : Nat} {ret : Option FieldType} {pc : Nat} {f : Sem} (h : Snd own cc nL d U ret pc f) : GSnd own cc nL d U ret pc f :=
  fun g p l e R s m args below meth c w0 hC ad0 K0 N X Q hQ k hk u L st s1 hf ad K hE =>
    h g p l e R s m args below meth c w0 hC ad K N X Q (fun t ht => hQ t (MQ_g hE ht)) k (fun pc' u' L' st' s' hk' => hk pc' u' L' st' s' hk' ad K hE) u L st s1 hf
section GWPs
variable {g : GPm} {p : Program} {l : Launch} {e : Env} {R : Room} {s : State} {m : MethodId} {args : Array Value} {below : List Frame} {meth : Method} {c : Code}
variable {own : String} {cc : ByteArray} {nL d U : Nat} {ret : Option FieldType} {w0 : Cond} {ad : Nat → Nat → Nat} {K : List (Nat × Nat)} {N : Nt} {X : Xt} {Q : State → Prop}
theorem gwp_ok {T : List (Nat × Sem)} (hT : ∀ q ∈ T, GSnd own cc nL d U ret q.1 q.2) (hC : CX g p l R s m args meth c own cc nL d U ret w0) (hQ : GQX g s args below ad K N X U Q)
    {C : Nat → Option (Nat → LC → List AV → Sg → Prop)} (hc : ∀ pc P, C pc = some P → ∀ u L st s0, P u L st s0 → GAW g p l e R s m args below meth c nL ad K Q pc u L st s0) :
    ∀ n pc u L st s0, wp (lk T) C U N X n pc u L st s0 → GAW g p l e R s m args below meth c nL ad K Q pc u L st s0 := by
  intro n
  induction n with
  | zero => intro pc u L st s0 h; exact h.elim
  | succ n ih =>
    intro pc u L st s0 h
    unfold wp at h
    cases h1 : C pc with
    | some P => rw [h1] at h; exact hc pc P h1 u L st s0 h
    | none =>
      rw [h1] at h
      cases h2 : lk T pc with
      | none => rw [h2] at h; exact h.elim
      | some f =>
        rw [h2] at h
        exact hT _ (lk_mem h2) g p l e R s m args below meth c w0 hC ad K N X Q hQ _ ih u L st s0 h
/-- a method that makes things, without a loop -/
theorem GMet.mk {y : MethodName} {own : String} {cc : ByteArray} {nL d U : Nat} {ret : Option FieldType} {sp : Spc} {T : List (Nat × Sem)} (hy : plainName y.cls = true) (hcls : y.cls = own) (is : List Nat) (his : is = List.range' 0 nL)
    (hT : ∀ q ∈ T, GSnd own cc nL d U ret q.1 q.2) (F : Nat)
    (body : ∀ av s0 N X, sp av s0 N X → argK av is (fun L => wp (lk T) (fun _ => none) U N X F 0 0 L [] s0)) : GMet y cc nL ret d U sp := by
  intro l hl g ad K av s0 N X h
  subst hcls
  subst his
  refine vx_ofW hy rfl ?_
  intro p e s m args below meth c s₁ B hml htab hv
  obtain ⟨rfl, hGS, hGP⟩ := hv
  have hC : CX g p l (headSpec (wsM y cc nL ret) (rmD d U)).room s m (av.map (cv ad)).toArray meth c y.cls cc nL d U ret (.code y cc nL ret) :=
    ⟨⟨B.exec, B.bytes, hml, findClass_of_methodNamed B.named, atoms_spec (ws := wsM y cc nL ret) B.pre⟩, hGS, B.notSynchronized, B.returns, rfl, hl, htab⟩
  have h1 := body av s0 N X h
  have hQ : GQX g s (av.map (cv ad)).toArray below ad K N X U (vx_MQ below (gQ g ad K N) (gX g ad K X) (av.map (cv ad)).toArray s (U * cU) (U * sU) (gA g)) := fun t q => q
  obtain ⟨L, h3, h4⟩ := argK_ok (ad := ad) av 0 nL _ h1
  obtain ⟨h5, h6⟩ := argK_len av 0 nL _ h1
  have key := gwp_ok (e := e) hT hC hQ (C := fun _ => none) (fun pc P hP => nomatch hP) F 0 0 L [] s0 h3
  rw [lg_entry_eq]
  have hlen : (lg_sl (av.map (cv ad))).length ≤ nL := by rw [lgsl_len av h6]; exact h5
  have hlv := lv_entry (av.map (cv ad)) hlen
  have k2 := key ad K Ex.rf s.heap [] _ hGP va_S.rf (by rw [h4]; exact hlv)
  rw [Nat.zero_mul, Nat.zero_mul] at k2
  exact k2
end GWPs
theorem AMet.g {y : MethodName} {cc : ByteArray} {nL : Nat} {ret : Option FieldType} {d u : Nat} {sp : Spc} {T : List (Nat × Sem)} (F : Nat) {own : String} (hy : plainName y.cls = true) (hcls : y.cls = own) (is : List Nat) (his : is = List.range' 0 nL)
    (hT : ∀ q ∈ T, Snd own cc nL d u ret q.1 q.2) (body : ∀ av s0 N X, sp av s0 N X → argK av is (fun L => wp (lk T) (fun _ => none) u N X F 0 0 L [] s0)) : GMet y cc nL ret d u sp := GMet.mk hy hcls is his (fun q hq => snd_g (hT q hq)) F body
theorem gp_cc {g : GPm} {ad ad' : Nat → Nat → Nat} {K K' : List (Nat × Nat)} {s s' : Sg} {H H' : Heap} (h : GP g ad K s H) (h' : GP g ad' K' s' H') : ∀ t i, 70 ≤ t → ad' t i = ad t i := fun t i h7 => (h'.2.2.2.2.2.2 t i h7).trans (h.2.2.2.2.2.2 t i h7).symm
/-- live, or a constant -/
def Lvc (s : Sg) (t i : Nat) : Prop := bif Nat.ble 70 t then True else Lv s t i
theorem Lvc_of {s : Sg} {t i : Nat} (h : Lv s t i) : Lvc s t i := by
  unfold Lvc
  cases Nat.ble 70 t with
  | true => trivial
  | false => exact h
theorem Lvc_or {s : Sg} {t i : Nat} (h : Lvc s t i) : 70 ≤ t ∨ Lv s t i := by
  unfold Lvc at h
  cases hb : Nat.ble 70 t with
  | true => exact Or.inl (Nat.le_of_ble_eq_true hb)
  | false => rw [hb] at h; exact Or.inr h
/-- the references that must outlive a making: live, and no list's row -/
def lvs (s : Sg) : List AV → Prop
  | [] => True
  | .inl (.inr (t, i)) :: r => bif (mvk t) then False else Lvc s t i ∧ lvs s r
  | .inl (.inl _) :: r => lvs s r
  | .inr _ :: r => lvs s r
/-- .. locals: a list's row is forgotten -/
def lvK (s : Sg) : LC → (LC → Prop) → Prop
  | [], k => k []
  | (j, .inr (t, i)) :: r, k => bif (mvk t) then lvK s r k else Lvc s t i ∧ lvK s r (fun r' => k ((j, .inr (t, i)) :: r'))
  | (j, .inl x) :: r, k => lvK s r (fun r' => k ((j, .inl x) :: r'))
theorem lvs_ok {ad ad' : Nat → Nat → Nat} {K K' : List (Nat × Nat)} {s : Sg} (hK : ∀ t i, Lv s t i → (t, i) ∈ K) (hE : Ex ad K ad' K') (hc : ∀ t i, 70 ≤ t → ad' t i = ad t i) : ∀ {st : List AV}, lvs s st → st.map (cv ad) = st.map (cv ad')
  | [], _ => rfl
  | .inl (.inr (t, i)) :: r, h => by
    unfold lvs at h
    cases hb : (mvk t) with
    | true => rw [hb] at h; exact h.elim
    | false =>
      rw [hb, cond_false] at h
      have ih := lvs_ok hK hE hc h.2
      have e1 : ad' t i = ad t i := (Lvc_or h.1).elim (hc t i) fun h1 => (hE (t, i) (hK t i h1) (mvk_f hb).2.2.1 (mvk_f hb).2.2.2).2 (mvk_f hb).1 (mvk_f hb).2.1
      rw [List.map_cons, List.map_cons, ih]
      show Value.ref (ad t i) :: _ = Value.ref (ad' t i) :: _
      rw [e1]
  | .inl (.inl _) :: r, h => by
    have ih := lvs_ok (st := r) hK hE hc h
    rw [List.map_cons, List.map_cons, ih]
    rfl
  | .inr _ :: r, h => by
    have ih := lvs_ok (st := r) hK hE hc h
    rw [List.map_cons, List.map_cons, ih]
    rfl
theorem lvK_ok {s : Sg} : ∀ {L : LC} {k : LC → Prop}, lvK s L k → ∃ L', k L' ∧ ∀ {ad ad' : Nat → Nat → Nat} {K K' : List (Nat × Nat)}, (∀ t i, Lv s t i → (t, i) ∈ K) → Ex ad K ad' K' → (∀ t i, 70 ≤ t → ad' t i = ad t i) → ∀ q ∈ L'.map (fun q => (q.1, cL ad' q.2)), q ∈ L.map (fun q => (q.1, cL ad q.2))
  | [], k, h => ⟨[], h, fun _ _ _ q hq => hq⟩
  | (j, .inl x) :: r, k, h => by
    obtain ⟨L', h1, h2⟩ := lvK_ok (L := r) h
    refine ⟨_, h1, fun hK hE hc q hq => ?_⟩
    rcases List.mem_cons.mp hq with rfl | hq
    · exact List.mem_cons_self
    · exact List.mem_cons_of_mem _ (h2 hK hE hc q hq)
  | (j, .inr (t, i)) :: r, k, h => by
    unfold lvK at h
    cases hb : (mvk t) with
    | true =>
      rw [hb, cond_true] at h
      obtain ⟨L', h1, h2⟩ := lvK_ok (L := r) h
      exact ⟨L', h1, fun hK hE hc q hq => List.mem_cons_of_mem _ (h2 hK hE hc q hq)⟩
    | false =>
      rw [hb, cond_false] at h
      obtain ⟨L', h1, h2⟩ := lvK_ok (L := r) h.2
      refine ⟨_, h1, fun {ad ad' K K'} hK hE hc q hq => ?_⟩
      have e1 : ad' t i = ad t i := (Lvc_or h.1).elim (hc t i) fun h1 => (hE (t, i) (hK t i h1) (mvk_f hb).2.2.1 (mvk_f hb).2.2.2).2 (mvk_f hb).1 (mvk_f hb).2.1
      rcases List.mem_cons.mp hq with rfl | hq
      · rw [List.map_cons]
        show (j, Value.ref (ad' t i)) ∈ (j, Value.ref (ad t i)) :: _
        have e2 : ad' t i = ad t i := e1
        rw [e2]
        exact List.mem_cons_self
      · exact List.mem_cons_of_mem _ (h2 hK hE hc q hq)
theorem has_mem {ls : Array Slot} {nL : Nat} {a b : List (Nat × Value)} (h : lv_has ls nL a) (hb : ∀ q ∈ b, q ∈ a) : lv_has ls nL b := ⟨h.1, h.2.1, fun q hq => h.2.2 q (hb q hq)⟩
section GCls
variable {own : String} {cc : ByteArray} {nL d U : Nat} {ret : Option FieldType} {pc nx : Nat}
/-- what comes back from a call that makes things -/
theorem run_okG {g : GPm} {p : Program} {l : Launch} {e : Env} {R : Room} {s : State} {m : MethodId} {args : Array Value} {below : List Frame} {meth : Method} {c : Code} {w0 : Cond}
    (hC : CX g p l R s m args meth c own cc nL d U ret w0) {ad0 ad : Nat → Nat → Nat} {K0 K : List (Nat × Nat)} (hE0 : Ex ad0 K0 ad K) {N N' : Nt} {X : Xt} {Q : State → Prop} (hQ : GQX g s args below ad0 K0 N X U Q)
    {H : Heap} {locs : List Loc} {u w : Nat} {ls : Array Slot} {st0 rest : List Value} {a : Array Value} (hu : u + w ≤ U)
    (hr : vx_Run p l e R s m args below meth c H locs (u * cU) (u * sU) (w * cU) (w * sU) (F0 m pc ls st0) rest (gQ g ad K N' a) (gX g ad K X) (gA g)) (hS : va_S (gA g) s.heap H locs)
    (kk : ∀ (ad' : Nat → Nat → Nat) (K' : List (Nat × Nat)) (v : Option AV) (s' : Sg) (H1 : Heap) (locs1 : List Loc), Ex ad K ad' K' → N' v s' → GP g ad' K' s' H1 → va_S (gA g) s.heap H1 locs1 → W p l e R s m args below meth c H1 locs1 ((u + w) * cU) ((u + w) * sU) Q (F0 m (pc + 3) ls ((v.map (cv ad')).toList ++ rest))) :
    W p l e R s m args below meth c H locs (u * cU) (u * sU) Q (F0 m pc ls st0) := by
  intro T hT X0
  rcases hr T hT X0 with ⟨v, st₀, t, T', L, h0, X', hL, e1, e2, ⟨⟨ad', K', r, s', hE1, hv, hn, hgp⟩, hF⟩, st⟩ | ⟨q, st₀, t, T', L, E, ce, h0, X', hL, e1, e2, ⟨⟨ad', K', x, s', hE1, hx, hxx, hgp⟩, hF⟩, hce, hcv, hcl, st⟩
  · cases hv
    obtain ⟨k1, k2, k3⟩ := vx_keep h0 e1 hS (fun _ _ z => z) (fun _ z => z) hL hF
    have kw := kk ad' K' r s' T'.heap (locs ++ L) hE1 hn (by rw [e1]; exact hgp) k3
    rw [Nat.add_mul, Nat.add_mul] at kw
    obtain ⟨t2, a1, b1⟩ := kw T' rfl X'
    exact ⟨t2, st t2 a1, b1⟩
  · obtain ⟨k1, k2, k3⟩ := vx_keep h0 e1 hS (fun _ _ z => z) (fun _ z => z) hL hF
    have ho := vx_out (p := p) (l := l) (e := e) (R := R) (s := s) (m := m) (args := args) (below := below) (meth := meth) (c := c) (H := T'.heap) (locs := locs ++ L) (cells := u * cU + w * cU) (slots := u * sU + w * sU) (rest := rest) (ls := ls)
      (Qc := gQ g ad0 K0 N) (XC := gX g ad0 K0 X) (free := gA g) (pc := pc) (E := E) (ce := ce) (q := q) (mc := U * cU) (ms := U * sU) (fun z hz => (hC.2.2.2.2.2.2 z hz).elim) hC.2.2.1 (by rw [e1]; exact hce) hcv hcl
      (fun t2 ht2 _ => ⟨⟨ad', K', x, s', hE0.tr hE1, hx, hxx, by rw [ht2, e1]; exact hgp⟩, k3.F ht2⟩) k3.2.2 (by rw [← Nat.add_mul]; exact Nat.mul_le_mul_right _ hu) (by rw [← Nat.add_mul]; exact Nat.mul_le_mul_right _ hu)
    obtain ⟨t2, a1, b1⟩ := ho T' rfl X'
    exact ⟨t2, st.trans a1, hQ t2 b1⟩
/-- a call of a method that makes things -/
def op_callG (sp : Spc) (n w nx : Nat) : Sem := fun U k _ X u L st s => popK n [] st (fun as st' => u + w ≤ U ∧ catS st' ≤ 8 ∧ lvs s st' ∧ lvK s L (fun L' => sp as s (fun r s' => match r with
  | some v => k nx (u + w) L' (v :: st') s'
  | none => k nx (u + w) L' st' s') X))
def op_callGV (ci : Nat) (sp : Spc) (n w nx : Nat) : Sem := fun U k _ X u L st s => popK n [] st (fun as st' => match as with
  | .inl (.inr (t, i)) :: _ => bif isO ci t then (Lv s t i ∧ u + w ≤ U ∧ catS st' ≤ 8 ∧ lvs s st' ∧ lvK s L (fun L' => sp as s (fun r s' => match r with
    | some v => k nx (u + w) L' (v :: st') s'
    | none => k nx (u + w) L' st' s') X)) else False
  | _ => False)
theorem ok_invokevirtualG {C : String} {T : u_T} {y : MethodName} {bytes : ByteArray} {nL' d' w n idx ci nf : Nat} {ret' : Option FieldType} {sp : Spc} (hM : GMet y bytes nL' ret' d' w sp) (hc : vwCl[ci]? = some (C, T, nf))
    (h1 : Cond.methodLink own idx y ∈ TB) (h2 : Cond.instanceMethod y ∈ TB) (h3 : Cond.selects C y y ∈ TB) (h5 : Cond.initialized C ∈ TB) (h4 : Cond.code y bytes nL' ret' ∈ TB)
    (hy : y.cls = C ∧ y.cls ≠ "java/lang/invoke/MethodHandle" ∧ y.cls ≠ "java/lang/invoke/VarHandle" ∧ (parseMethodDescriptor y.desc).map (fun d => d.parameters.length) = some n) (hdd : d' + 1 ≤ d) (hl' : nL' ≤ 19)
    (hd : decode cc pc = .ok (.invokevirtual idx, 3)) (hn : pc + 3 = nx) : GSnd own cc nL d U ret pc (op_callGV ci sp (n + 1) w nx) := by
  intro g p l e R s m args below meth c w0 hC ad0 K0 N X Q hQ k hk u L st s0 h ad K hE
  subst hn
  intro H locs ls hP hS hl
  obtain ⟨as, st', h, e1, e2⟩ := popK_ok h
  rw [List.append_nil] at h
  split at h
  · rename_i t i tl
    cases ho : isO ci t with
    | false => rw [ho] at h; exact h.elim
    | true =>
      rw [ho, cond_true] at h
      obtain ⟨hL, hu, hcat, hlv, hlk9⟩ := h
      obtain ⟨L', hsp, hsub⟩ := lvK_ok hlk9
      obtain ⟨N', hob⟩ := isO_ob ho
      obtain ⟨q0, ha, hK0⟩ := gws_at (g := g) (ad := ad) (s := s0) (hP.2.2.1 t i hL)
      rw [ent_ob hob] at ha
      have hrecv := va_recv hC.2.1.1 hP.1 hc ha
      have hC' := hC
      obtain ⟨hF, hGS, hlk, hret, hR, hl0, htab⟩ := hC'
      subst hR
      have hG : GoodIn (w0 :: TB) (wsV own idx C y (wsM y bytes nL' ret')) := TB_in (by
        intro w hw
        simp only [wsV, wsM, List.cons_append, List.nil_append, List.mem_cons] at hw
        rcases hw with rfl | rfl | rfl | rfl | rfl | hw
        · exact h1
        · exact h2
        · exact h3
        · exact h5
        · exact h4
        · exact hw)
      refine run_okG hC hE hQ hu (vx_runV (C := C) (b := ad t i) (As := tl.map (cv ad)) (rest := st'.map (cv ad)) hF (hM l hl0 g ad K _ s0 _ X hsp) (cwV n hF.2.2.2.2 hG rfl rfl rfl hy (rm_fit hdd hl'))
        ⟨GP_blind, hrecv, fun U9 hU hW => ⟨rfl, GS_moved hGS hW (locs := locs) (by rw [hU]; exact hS), by rw [hU]; exact hP⟩⟩ rfl (by rw [List.length_map]; simpa using e2) hl.1 ?_ (lv_room (by rw [catS_ok]; exact hcat)) hd
        ⟨by show u * cU + w * cU ≤ U * cU; rw [← Nat.add_mul]; exact Nat.mul_le_mul_right _ hu, by show u * sU + w * sU ≤ U * sU; rw [← Nat.add_mul]; exact Nat.mul_le_mul_right _ hu⟩) hS ?_
      · show st.map (cv ad) = (tl.map (cv ad)).reverse ++ .ref (ad t i) :: st'.map (cv ad)
        rw [e1, List.map_append, List.map_reverse]
        simp [cv, cL]
      · intro ad' K' v s' H1 locs1 hE1 hN hP1 hS1
        have hl1 := has_mem hl (hsub hP.2.2.1 hE1 (gp_cc hP hP1))
        rw [lvs_ok hP.2.2.1 hE1 (gp_cc hP hP1) hlv]
        cases v with
        | none => exact hk _ _ _ _ _ hN ad' K' (hE.tr hE1) H1 locs1 ls hP1 hS1 hl1
        | some v => exact hk _ _ _ _ _ hN ad' K' (hE.tr hE1) H1 locs1 ls hP1 hS1 hl1
  · exact h.elim
end GCls

