/-! ===== the judgement over the abstract machine ===== -/
abbrev LC : Type := List (Nat × LV)
abbrev Kt : Type := Nat → Nat → LC → List AV → Sg → Prop
abbrev Nt : Type := Option AV → Sg → Prop
abbrev Xt : Type := Nat → Sg → Prop
abbrev Sem : Type := Nat → Kt → Nt → Xt → Nat → LC → List AV → Sg → Prop
abbrev Spc : Type := List AV → Sg → Nt → Xt → Prop
/-- a unit of room -/
def cU : Nat := 4
def sU : Nat := 24
def rmD (d u : Nat) : Room := { frames := d, cells := u * cU, slots := u * sU, locals := 38 * d }
def aQ (g : GPm) (ad : Nat → Nat → Nat) (K : List (Nat × Nat)) (N : Nt) : Array Value → State → Outcome → State → Prop := fun _ st oc t =>
  (∃ (v : Option AV) (s' : Sg), oc = .returned (v.map (cv ad)) ∧ N v s' ∧ GP g ad K s' t.heap) ∧ va_F (gA g) st t
def aX (g : GPm) (ad : Nat → Nat → Nat) (K : List (Nat × Nat)) (X : Xt) : String → State → State → Prop := fun E st t =>
  (∃ (x : Nat) (s' : Sg), exn x = E ∧ X x s' ∧ GP g ad K s' t.heap) ∧ va_F (gA g) st t
/-- a method's contract: whatever its words ask of its outcome comes to be -/
def AMet (y : MethodName) (cc : ByteArray) (nL : Nat) (ret : Option FieldType) (d u : Nat) (sp : Spc) : Prop :=
  ∀ (l : Launch), l.stackTraces = false → ∀ (g : GPm) (ad : Nat → Nat → Nat) (K : List (Nat × Nat)) (av : List AV) (s0 : Sg) (N : Nt) (X : Xt), sp av s0 N X →
    vx_Met l y (wsM y cc nL ret) (rmD d u) (va_Pc (av.map (cv ad)) (fun U => GS g U ∧ GP g ad K s0 U.heap)) (aQ g ad K N) (aX g ad K X) (u * cU) (u * sU) (gA g)
section AWs
variable (g : GPm) (p : Program) (l : Launch) (e : Env) (R : Room) (s : State) (m : MethodId) (args : Array Value) (below : List Frame) (meth : Method) (c : Code)
def AW (nL : Nat) (ad : Nat → Nat → Nat) (K : List (Nat × Nat)) (Q : State → Prop) (pc u : Nat) (L : LC) (st : List AV) (s0 : Sg) : Prop :=
  ∀ (H : Heap) (locs : List Loc) (ls : Array Slot), GP g ad K s0 H → va_S (gA g) s.heap H locs → lv_has ls nL (L.map (fun q => (q.1, cL ad q.2))) →
    W p l e R s m args below meth c H locs (u * cU) (u * sU) Q (F0 m pc ls (st.map (cv ad)))
/-- what a body stands on -/
def CX (own : String) (cc : ByteArray) (nL d U : Nat) (ret : Option FieldType) (w0 : Cond) : Prop :=
  CallFix p m c cc nL s args (w0 :: TB) own ∧ GS g s ∧ meth.locks = false ∧ meth.sig.returnType = ret ∧ R = rmD d U ∧ l.stackTraces = false ∧ (∀ x ∈ c.exceptionTable.toList, False)
def QX (ad : Nat → Nat → Nat) (K : List (Nat × Nat)) (N : Nt) (X : Xt) (U : Nat) (Q : State → Prop) : Prop :=
  ∀ t, vx_MQ below (aQ g ad K N) (aX g ad K X) args s (U * cU) (U * sU) (gA g) t → Q t
end AWs
/-- a row's meaning is sound at its place -/
def Snd (own : String) (cc : ByteArray) (nL d U : Nat) (ret : Option FieldType) (pc : Nat) (f : Sem) : Prop :=
  ∀ (g : GPm) (p : Program) (l : Launch) (e : Env) (R : Room) (s : State) (m : MethodId) (args : Array Value) (below : List Frame) (meth : Method) (c : Code) (w0 : Cond),
    CX g p l R s m args meth c own cc nL d U ret w0 → ∀ (ad : Nat → Nat → Nat) (K : List (Nat × Nat)) (N : Nt) (X : Xt) (Q : State → Prop), QX g s args below ad K N X U Q →
    ∀ (k : Kt), (∀ pc' u' L' st' s', k pc' u' L' st' s' → AW g p l e R s m args below meth c nL ad K Q pc' u' L' st' s') →
    ∀ u L st s0, f U k N X u L st s0 → AW g p l e R s m args below meth c nL ad K Q pc u L st s0
def getL : LC → Nat → Option LV
  | [], _ => none
  | (j, w) :: r, i => bif Nat.beq j i then some w else getL r i
def setB : LC → Nat → LV → Bool → (LC → Prop) → Prop
  | [], i, v, b, k => bif b then k [] else k [(i, v)]
  | (j, w) :: r, i, v, b, k => bif Nat.beq j i then setB r i v true (fun r' => k ((i, v) :: r')) else setB r i v b (fun r' => k ((j, w) :: r'))
def setK (L : LC) (i : Nat) (v : LV) (k : LC → Prop) : Prop := setB L i v false k
def lk : List (Nat × Sem) → Nat → Option Sem
  | [], _ => none
  | (q, f) :: r, pc => bif Nat.beq q pc then some f else lk r pc
def cut (I : Nat → Option (Nat → Nat → LC → List AV → Sg → Prop)) (b : Nat → Prop) (pc : Nat) : Option (Nat → LC → List AV → Sg → Prop) := match I pc with
  | some P => some (fun u L st s => ∃ n j, b n ∧ P n u (L.take j) st s)
  | none => none
def wp (T : Nat → Option Sem) (C : Nat → Option (Nat → LC → List AV → Sg → Prop)) (U : Nat) (N : Nt) (X : Xt) : Nat → Kt
  | 0 => fun _ _ _ _ _ => False
  | n + 1 => fun pc u L st s => match C pc with
    | some P => P u L st s
    | none => match T pc with
      | some f => f U (wp T C U N X n) N X u L st s
      | none => False
/-- from a place on, past its own cut -/
def wps (T : Nat → Option Sem) (C : Nat → Option (Nat → LC → List AV → Sg → Prop)) (U : Nat) (N : Nt) (X : Xt) (n : Nat) : Kt := fun pc u L st s => match T pc with
  | some f => f U (wp T C U N X n) N X u L st s
  | none => False
theorem lk_mem {t : List (Nat × Sem)} {pc : Nat} {f : Sem} (h : lk t pc = some f) : (pc, f) ∈ t := by
  induction t with
  | nil => cases h
  | cons q r ih =>
    obtain ⟨q1, q2⟩ := q
    unfold lk at h
    cases hq : Nat.beq q1 pc with
    | true =>
      rw [hq, cond_true] at h
      cases h
      rw [Nat.eq_of_beq_eq_true hq]
      exact List.mem_cons_self
    | false =>
      rw [hq, cond_false] at h
      exact List.mem_cons_of_mem _ (ih h)
section WPs
variable {g : GPm} {p : Program} {l : Launch} {e : Env} {R : Room} {s : State} {m : MethodId} {args : Array Value} {below : List Frame} {meth : Method} {c : Code}
variable {own : String} {cc : ByteArray} {nL d U : Nat} {ret : Option FieldType} {w0 : Cond} {ad : Nat → Nat → Nat} {K : List (Nat × Nat)} {N : Nt} {X : Xt} {Q : State → Prop}
theorem wp_ok {T : List (Nat × Sem)} (hT : ∀ q ∈ T, Snd own cc nL d U ret q.1 q.2) (hC : CX g p l R s m args meth c own cc nL d U ret w0) (hQ : QX g s args below ad K N X U Q)
    {C : Nat → Option (Nat → LC → List AV → Sg → Prop)} (hc : ∀ pc P, C pc = some P → ∀ u L st s0, P u L st s0 → AW g p l e R s m args below meth c nL ad K Q pc u L st s0) :
    ∀ n pc u L st s0, wp (lk T) C U N X n pc u L st s0 → AW g p l e R s m args below meth c nL ad K Q pc u L st s0 := by
  intro n
  induction n with
  | zero => intro pc u L st s0 h; exact h.elim
  | succ n ih =>
    intro pc u L st s0 h
    unfold wp at h
    cases h1 : C pc with
    | some P => rw [h1] at h; exact hc pc P h1 u L st s0 h
    | none =>
      rw [h1] at h
      cases h2 : lk T pc with
      | none => rw [h2] at h; exact h.elim
      | some f =>
        rw [h2] at h
        exact hT _ (lk_mem h2) g p l e R s m args below meth c w0 hC ad K N X Q hQ _ ih u L st s0 h
theorem wps_ok {T : List (Nat × Sem)} (hT : ∀ q ∈ T, Snd own cc nL d U ret q.1 q.2) (hC : CX g p l R s m args meth c own cc nL d U ret w0) (hQ : QX g s args below ad K N X U Q)
    {C : Nat → Option (Nat → LC → List AV → Sg → Prop)} (hc : ∀ pc P, C pc = some P → ∀ u L st s0, P u L st s0 → AW g p l e R s m args below meth c nL ad K Q pc u L st s0) :
    ∀ n pc u L st s0, wps (lk T) C U N X n pc u L st s0 → AW g p l e R s m args below meth c nL ad K Q pc u L st s0 := by
  intro n pc u L st s0 h
  unfold wps at h
  cases h2 : lk T pc with
  | none => rw [h2] at h; exact h.elim
  | some f =>
    rw [h2] at h
    exact hT _ (lk_mem h2) g p l e R s m args below meth c w0 hC ad K N X Q hQ _ (wp_ok hT hC hQ hc n) u L st s0 h
theorem AW_take {j pc u : Nat} {L : LC} {st : List AV} {s0 : Sg} (h : AW g p l e R s m args below meth c nL ad K Q pc u (L.take j) st s0) : AW g p l e R s m args below meth c nL ad K Q pc u L st s0 := fun H locs ls hP hS hl =>
  h H locs ls hP hS ⟨hl.1, hl.2.1, fun q hq => by
    obtain ⟨z, hz, rfl⟩ := List.mem_map.mp hq
    exact hl.2.2 _ (List.mem_map.mpr ⟨z, List.mem_of_mem_take hz, rfl⟩)⟩
/-- all cuts at once: each cut's own stretch comes to cuts of a smaller measure -/
theorem cuts_ok {T : List (Nat × Sem)} (hT : ∀ q ∈ T, Snd own cc nL d U ret q.1 q.2) (hC : CX g p l R s m args meth c own cc nL d U ret w0) (hQ : QX g s args below ad K N X U Q)
    {I : Nat → Option (Nat → Nat → LC → List AV → Sg → Prop)} (F : Nat)
    (hI : ∀ pc P, I pc = some P → ∀ n u L st s0, P n u L st s0 → wps (lk T) (cut I (fun k => k < n)) U N X F pc u L st s0) :
    ∀ n pc P, I pc = some P → ∀ u L st s0, P n u L st s0 → AW g p l e R s m args below meth c nL ad K Q pc u L st s0 := by
  intro n
  induction n using Nat.strongRecOn with
  | _ n ih =>
    intro pc P hP u L st s0 h
    refine wps_ok hT hC hQ ?_ F pc u L st s0 (hI pc P hP n u L st s0 h)
    intro pc' P' hP' u' L' st' s' h'
    unfold cut at hP'
    cases hi : I pc' with
    | none => rw [hi] at hP'; cases hP'
    | some P2 =>
      rw [hi] at hP'
      cases hP'
      obtain ⟨k, j, hk, h2⟩ := h'
      exact AW_take (ih k hk pc' P2 hi u' _ st' s' h2)
end WPs
/-- the arguments as locals -/
def argK : List AV → List Nat → (LC → Prop) → Prop
  | [], _, k => k []
  | .inl v :: r, i :: is, k => argK r is (fun q => k ((i, v) :: q))
  | _, _, _ => False
theorem cL_cat (ad : Nat → Nat → Nat) (v : LV) : (cL ad v).category = 1 := by cases v <;> rfl
theorem argK_ok {ad : Nat → Nat → Nat} : ∀ (av : List AV) (i n : Nat) (k : LC → Prop), argK av ((List.range' i n)) k → ∃ L : LC, k L ∧ L.map (fun q => (q.1, cL ad q.2)) = lv_args i (av.map (cv ad))
  | [], i, n, k, h => ⟨[], by cases n <;> exact h, rfl⟩
  | .inr x :: r, i, n, k, h => by cases n <;> exact h.elim
  | .inl v :: r, i, 0, k, h => h.elim
  | .inl v :: r, i, n + 1, k, h => by
    rw [List.range'_succ] at h
    obtain ⟨L, h1, h2⟩ := argK_ok (ad := ad) r (i + 1) n _ h
    refine ⟨(i, v) :: L, h1, ?_⟩
    show (i, cL ad v) :: L.map (fun q => (q.1, cL ad q.2)) = lv_args i (cL ad v :: r.map (cv ad))
    rw [h2, lv_args, if_neg (by rw [cL_cat]; decide)]
theorem argK_len : ∀ (av : List AV) (i n : Nat) (k : LC → Prop), argK av (List.range' i n) k → av.length ≤ n ∧ ∀ v ∈ av, ∃ w, v = .inl w
  | [], i, n, k, h => ⟨Nat.zero_le _, fun v h => nomatch h⟩
  | .inr x :: r, i, n, k, h => by cases n <;> exact h.elim
  | .inl v :: r, i, 0, k, h => h.elim
  | .inl v :: r, i, n + 1, k, h => by
    rw [List.range'_succ] at h
    obtain ⟨h1, h2⟩ := argK_len r (i + 1) n _ h
    exact ⟨by simp; omega, fun x hx => (List.mem_cons.mp hx).elim (fun e => ⟨v, e⟩) (h2 x)⟩
theorem lgsl_len {ad : Nat → Nat → Nat} : ∀ (av : List AV), (∀ v ∈ av, ∃ w, v = .inl w) → (lg_sl (av.map (cv ad))).length = av.length
  | [], _ => rfl
  | v :: r, h => by
    obtain ⟨w, rfl⟩ := h v List.mem_cons_self
    have ih := lgsl_len (ad := ad) r (fun x hx => h x (List.mem_cons_of_mem _ hx))
    unfold lg_sl at ih ⊢
    have hc : ¬ (cL ad w).category = 2 := by rw [cL_cat]; decide
    show (List.flatMap _ (cL ad w :: r.map (cv ad))).length = _
    rw [List.flatMap_cons, if_neg hc, List.length_append, ih]
    show 0 + 1 + r.length = r.length + 1
    omega
set_option maxHeartbeats 1000000 in
theorem AMet.mk {y : MethodName} {own : String} {cc : ByteArray} {nL d U : Nat} {ret : Option FieldType} {sp : Spc} {T : List (Nat × Sem)} (hy : plainName y.cls = true) (hcls : y.cls = own) (is : List Nat) (his : is = List.range' 0 nL)
    (hT : ∀ q ∈ T, Snd own cc nL d U ret q.1 q.2) (F : Nat)
    (body : ∀ av s0 N X, sp av s0 N X → ∃ I : Nat → Option (Nat → Nat → LC → List AV → Sg → Prop), argK av is (fun L => wp (lk T) (cut I (fun _ => True)) U N X F 0 0 L [] s0) ∧
      ∀ pc P, I pc = some P → ∀ n u L st s1, P n u L st s1 → wps (lk T) (cut I (fun k => k < n)) U N X F pc u L st s1) : AMet y cc nL ret d U sp := by
  intro l hl g ad K av s0 N X h
  subst hcls
  subst his
  refine vx_ofW hy rfl ?_
  intro p e s m args below meth c s₁ B hml htab hv
  obtain ⟨rfl, hGS, hGP⟩ := hv
  have hC : CX g p l (headSpec (wsM y cc nL ret) (rmD d U)).room s m (av.map (cv ad)).toArray meth c y.cls cc nL d U ret (.code y cc nL ret) :=
    ⟨⟨B.exec, B.bytes, hml, findClass_of_methodNamed B.named, atoms_spec (ws := wsM y cc nL ret) B.pre⟩, hGS, B.notSynchronized, B.returns, rfl, hl, htab⟩
  obtain ⟨I, h1, h2⟩ := body av s0 N X h
  have hQ : QX g s (av.map (cv ad)).toArray below ad K N X U (vx_MQ below (aQ g ad K N) (aX g ad K X) (av.map (cv ad)).toArray s (U * cU) (U * sU) (gA g)) := fun t q => q
  obtain ⟨L, h3, h4⟩ := argK_ok (ad := ad) av 0 nL _ h1
  obtain ⟨h5, h6⟩ := argK_len av 0 nL _ h1
  have key := wp_ok (e := e) hT hC hQ (C := cut I (fun _ => True)) (by
    intro pc P hP u L' st s1 hp
    unfold cut at hP
    cases hi : I pc with
    | none => rw [hi] at hP; cases hP
    | some P2 =>
      rw [hi] at hP
      cases hP
      obtain ⟨n, j, -, hn⟩ := hp
      exact AW_take (cuts_ok (e := e) hT hC hQ F h2 n pc P2 hi u _ st s1 hn)) F 0 0 L [] s0 h3
  rw [lg_entry_eq]
  have hlen : (lg_sl (av.map (cv ad))).length ≤ nL := by rw [lgsl_len av h6]; exact h5
  have hlv := lv_entry (av.map (cv ad)) hlen
  have k2 := key s.heap [] _ hGP va_S.rf (by rw [h4]; exact hlv)
  rw [Nat.zero_mul, Nat.zero_mul] at k2
  exact k2
