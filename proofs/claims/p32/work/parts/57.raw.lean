/-! a second machine, over a plain list of things: for what has no names yet -/
abbrev RK : Type := Nat → Nat → LC → List AV → va_W → Prop
abbrev RN : Type := Option AV → va_W → Prop
abbrev RSem : Type := GPm → Nat → RK → RN → Nat → LC → List AV → va_W → Prop
abbrev RSpc : Type := GPm → List AV → va_W → RN → Prop
abbrev RAs : Type := Nat → Nat → LC → List AV → va_W → Prop
def iA : Nat → Nat → Nat := fun _ i => i
abbrev aA (q : Nat) : AV := aR 0 q
def RP (g : GPm) (W0 w : va_W) (H : Heap) : Prop := va_P g.1 vwCl (W0 ++ w) H ∧ va_D (gA g) (W0 ++ w) ∧ g.2.2 ≤ H.size
def rQ (g : GPm) (W0 : va_W) (N : RN) : Array Value → State → Outcome → State → Prop := fun _ st oc t => (∃ (v : Option AV) (w' : va_W), oc = .returned (v.map (cv iA)) ∧ N v w' ∧ RP g W0 w' t.heap) ∧ va_F (gA g) st t
def rX : String → State → State → Prop := fun _ _ _ => False
def RMet (y : MethodName) (cc : ByteArray) (nL : Nat) (ret : Option FieldType) (d u : Nat) (sp : RSpc) : Prop :=
  ∀ (l : Launch), l.stackTraces = false → ∀ (g : GPm) (W0 : va_W) (av : List AV) (w : va_W) (N : RN), sp g av w N →
    vx_Met l y (wsM y cc nL ret) (rmD d u) (va_Pc (av.map (cv iA)) (fun U => GS g U ∧ RP g W0 w U.heap)) (rQ g W0 N) rX (u * cU) (u * sU) (gA g)
section RAWs
variable (g : GPm) (p : Program) (l : Launch) (e : Env) (R : Room) (s : State) (m : MethodId) (args : Array Value) (below : List Frame) (meth : Method) (c : Code)
def RAW (nL : Nat) (W0 : va_W) (Q : State → Prop) (pc u : Nat) (L : LC) (st : List AV) (w : va_W) : Prop :=
  ∀ (H : Heap) (locs : List Loc) (ls : Array Slot), RP g W0 w H → va_S (gA g) s.heap H locs → lv_has ls nL (L.map (fun q => (q.1, cL iA q.2))) →
    W p l e R s m args below meth c H locs (u * cU) (u * sU) Q (F0 m pc ls (st.map (cv iA)))
def RQX (W0 : va_W) (N : RN) (U : Nat) (Q : State → Prop) : Prop := ∀ t, vx_MQ below (rQ g W0 N) rX args s (U * cU) (U * sU) (gA g) t → Q t
end RAWs
def RSnd (ini : Bool) (own : String) (cc : ByteArray) (nL d U : Nat) (ret : Option FieldType) (pc : Nat) (f : RSem) : Prop :=
  ∀ (g : GPm) (p : Program) (l : Launch) (e : Env) (R : Room) (s : State) (m : MethodId) (args : Array Value) (below : List Frame) (meth : Method) (c : Code) (w0 : Cond), (ini = true → meth.name = "<init>") →
    CX g p l R s m args meth c own cc nL d U ret w0 → ∀ (W0 : va_W) (N : RN) (Q : State → Prop), RQX g s args below W0 N U Q →
    ∀ (k : RK), (∀ pc' u' L' st' w', k pc' u' L' st' w' → RAW g p l e R s m args below meth c nL W0 Q pc' u' L' st' w') →
    ∀ u L st w, f g U k N u L st w → RAW g p l e R s m args below meth c nL W0 Q pc u L st w
def rlk : List (Nat × RSem) → Nat → Option RSem
  | [], _ => none
  | (q, f) :: r, pc => bif Nat.beq q pc then some f else rlk r pc
def rlki : List (Nat × RAs) → Nat → Option RAs
  | [], _ => none
  | (q, P) :: r, pc => bif Nat.beq q pc then some P else rlki r pc
def rcut (I : Nat → Option RAs) (b : Nat → Prop) (pc : Nat) : Option (Nat → LC → List AV → va_W → Prop) := match I pc with
  | some P => some (fun u L st w => ∃ n j, b n ∧ P n u (L.take j) st w)
  | none => none
def rwp (g : GPm) (T : Nat → Option RSem) (C : Nat → Option (Nat → LC → List AV → va_W → Prop)) (U : Nat) (N : RN) : Nat → RK
  | 0 => fun _ _ _ _ _ => False
  | n + 1 => fun pc u L st w => match C pc with
    | some P => P u L st w
    | none => match T pc with
      | some f => f g U (rwp g T C U N n) N u L st w
      | none => False
def rwps (g : GPm) (T : Nat → Option RSem) (C : Nat → Option (Nat → LC → List AV → va_W → Prop)) (U : Nat) (N : RN) (n : Nat) : RK := fun pc u L st w => match T pc with
  | some f => f g U (rwp g T C U N n) N u L st w
  | none => False
theorem rlk_mem {t : List (Nat × RSem)} {pc : Nat} {f : RSem} (h : rlk t pc = some f) : (pc, f) ∈ t := by
  induction t with
  | nil => cases h
  | cons q r ih =>
    obtain ⟨q1, q2⟩ := q
    unfold rlk at h
    cases hq : Nat.beq q1 pc with
    | true =>
      rw [hq, cond_true] at h
      cases h
      rw [Nat.eq_of_beq_eq_true hq]
      exact List.mem_cons_self
    | false =>
      rw [hq, cond_false] at h
      exact List.mem_cons_of_mem _ (ih h)
theorem rlki_mem {t : List (Nat × RAs)} {pc : Nat} {f : RAs} (h : rlki t pc = some f) : (pc, f) ∈ t := by
  induction t with
  | nil => cases h
  | cons q r ih =>
    obtain ⟨q1, q2⟩ := q
    unfold rlki at h
    cases hq : Nat.beq q1 pc with
    | true =>
      rw [hq, cond_true] at h
      cases h
      rw [Nat.eq_of_beq_eq_true hq]
      exact List.mem_cons_self
    | false =>
      rw [hq, cond_false] at h
      exact List.mem_cons_of_mem _ (ih h)
theorem rcons {ini : Bool} {own : String} {cc : ByteArray} {nL d U : Nat} {ret : Option FieldType} {pc : Nat} {f : RSem} {l : List (Nat × RSem)} (h : RSnd ini own cc nL d U ret pc f) (t : ∀ q ∈ l, RSnd ini own cc nL d U ret q.1 q.2) : ∀ q ∈ (pc, f) :: l, RSnd ini own cc nL d U ret q.1 q.2 := fun q hq => (List.mem_cons.mp hq).elim (fun e => by rw [e]; exact h) (t q)
section RWPs
variable {g : GPm} {p : Program} {l : Launch} {e : Env} {R : Room} {s : State} {m : MethodId} {args : Array Value} {below : List Frame} {meth : Method} {c : Code}
variable {ini : Bool} {own : String} {cc : ByteArray} {nL d U : Nat} {ret : Option FieldType} {w0 : Cond} {W0 : va_W} {N : RN} {Q : State → Prop}
theorem rwp_ok {T : List (Nat × RSem)} (hI : ini = true → meth.name = "<init>") (hT : ∀ q ∈ T, RSnd ini own cc nL d U ret q.1 q.2) (hC : CX g p l R s m args meth c own cc nL d U ret w0) (hQ : RQX g s args below W0 N U Q)
    {C : Nat → Option (Nat → LC → List AV → va_W → Prop)} (hc : ∀ pc P, C pc = some P → ∀ u L st w, P u L st w → RAW g p l e R s m args below meth c nL W0 Q pc u L st w) :
    ∀ n pc u L st w, rwp g (rlk T) C U N n pc u L st w → RAW g p l e R s m args below meth c nL W0 Q pc u L st w := by
  intro n
  induction n with
  | zero => intro pc u L st w h; exact h.elim
  | succ n ih =>
    intro pc u L st w h
    unfold rwp at h
    cases h1 : C pc with
    | some P => rw [h1] at h; exact hc pc P h1 u L st w h
    | none =>
      rw [h1] at h
      cases h2 : rlk T pc with
      | none => rw [h2] at h; exact h.elim
      | some f =>
        rw [h2] at h
        exact hT _ (rlk_mem h2) g p l e R s m args below meth c w0 hI hC W0 N Q hQ _ ih u L st w h
theorem rwps_ok {T : List (Nat × RSem)} (hI : ini = true → meth.name = "<init>") (hT : ∀ q ∈ T, RSnd ini own cc nL d U ret q.1 q.2) (hC : CX g p l R s m args meth c own cc nL d U ret w0) (hQ : RQX g s args below W0 N U Q)
    {C : Nat → Option (Nat → LC → List AV → va_W → Prop)} (hc : ∀ pc P, C pc = some P → ∀ u L st w, P u L st w → RAW g p l e R s m args below meth c nL W0 Q pc u L st w) :
    ∀ n pc u L st w, rwps g (rlk T) C U N n pc u L st w → RAW g p l e R s m args below meth c nL W0 Q pc u L st w := by
  intro n pc u L st w h
  unfold rwps at h
  cases h2 : rlk T pc with
  | none => rw [h2] at h; exact h.elim
  | some f =>
    rw [h2] at h
    exact hT _ (rlk_mem h2) g p l e R s m args below meth c w0 hI hC W0 N Q hQ _ (rwp_ok hI hT hC hQ hc n) u L st w h
theorem RAW_take {j pc u : Nat} {L : LC} {st : List AV} {w : va_W} (h : RAW g p l e R s m args below meth c nL W0 Q pc u (L.take j) st w) : RAW g p l e R s m args below meth c nL W0 Q pc u L st w := fun H locs ls hP hS hl =>
  h H locs ls hP hS ⟨hl.1, hl.2.1, fun q hq => by
    obtain ⟨z, hz, rfl⟩ := List.mem_map.mp hq
    exact hl.2.2 _ (List.mem_map.mpr ⟨z, List.mem_of_mem_take hz, rfl⟩)⟩
theorem rcuts_ok {T : List (Nat × RSem)} (hI0 : ini = true → meth.name = "<init>") (hT : ∀ q ∈ T, RSnd ini own cc nL d U ret q.1 q.2) (hC : CX g p l R s m args meth c own cc nL d U ret w0) (hQ : RQX g s args below W0 N U Q)
    {I : Nat → Option RAs} (F : Nat)
    (hI : ∀ pc P, I pc = some P → ∀ n u L st w, P n u L st w → rwps g (rlk T) (rcut I (fun k => k < n)) U N F pc u L st w) :
    ∀ n pc P, I pc = some P → ∀ u L st w, P n u L st w → RAW g p l e R s m args below meth c nL W0 Q pc u L st w := by
  intro n
  induction n using Nat.strongRecOn with
  | _ n ih =>
    intro pc P hP u L st w h
    refine rwps_ok hI0 hT hC hQ ?_ F pc u L st w (hI pc P hP n u L st w h)
    intro pc' P' hP' u' L' st' s' h'
    unfold rcut at hP'
    cases hi : I pc' with
    | none => rw [hi] at hP'; cases hP'
    | some P2 =>
      rw [hi] at hP'
      cases hP'
      obtain ⟨k, j, hk, h2⟩ := h'
      exact RAW_take (ih k hk pc' P2 hi u' _ st' s' h2)
end RWPs
set_option maxHeartbeats 1000000 in
theorem RMet.mk {y : MethodName} {own : String} {cc : ByteArray} {nL d U : Nat} {ret : Option FieldType} {sp : RSpc} {T : List (Nat × RSem)} (ini : Bool) (hini : ini = true → y.name = "<init>") (hy : plainName y.cls = true) (hcls : y.cls = own) (is : List Nat) (his : is = List.range' 0 nL)
    (hT : ∀ q ∈ T, RSnd ini own cc nL d U ret q.1 q.2) (F : Nat)
    (body : ∀ g av w N, sp g av w N → ∃ cuts : List (Nat × RAs), argK av is (fun L => rwp g (rlk T) (rcut (rlki cuts) (fun _ => True)) U N F 0 0 L [] w) ∧
      ∀ q ∈ cuts, ∀ n u L st w1, q.2 n u L st w1 → rwps g (rlk T) (rcut (rlki cuts) (fun k => k < n)) U N F q.1 u L st w1) : RMet y cc nL ret d U sp := by
  intro l hl g W0 av w N h
  subst hcls
  subst his
  refine vx_ofW hy rfl ?_
  intro p e s m args below meth c s₁ B hml htab hv
  obtain ⟨rfl, hGS, hGP⟩ := hv
  have hin2 : ini = true → meth.name = "<init>" := fun hi => ((name_of_methodNamed B.named B.method).1).trans (hini hi)
  have hC : CX g p l (headSpec (wsM y cc nL ret) (rmD d U)).room s m (av.map (cv iA)).toArray meth c y.cls cc nL d U ret (.code y cc nL ret) :=
    ⟨⟨B.exec, B.bytes, hml, findClass_of_methodNamed B.named, atoms_spec (ws := wsM y cc nL ret) B.pre⟩, hGS, B.notSynchronized, B.returns, rfl, hl, htab⟩
  obtain ⟨cuts, h1, h2⟩ := body g av w N h
  have hQ : RQX g s (av.map (cv iA)).toArray below W0 N U (vx_MQ below (rQ g W0 N) rX (av.map (cv iA)).toArray s (U * cU) (U * sU) (gA g)) := fun t q => q
  obtain ⟨L, h3, h4⟩ := argK_ok (ad := iA) av 0 nL _ h1
  obtain ⟨h5, h6⟩ := argK_len av 0 nL _ h1
  have key := rwp_ok (e := e) hin2 hT hC hQ (C := rcut (rlki cuts) (fun _ => True)) (by
    intro pc P hP u L' st s1 hp
    unfold rcut at hP
    cases hi : rlki cuts pc with
    | none => rw [hi] at hP; cases hP
    | some P2 =>
      rw [hi] at hP
      cases hP
      obtain ⟨n, j, -, hn⟩ := hp
      exact RAW_take (rcuts_ok (e := e) hin2 hT hC hQ F (fun pc P hP => h2 (pc, P) (rlki_mem hP)) n pc P2 hi u _ st s1 hn)) F 0 0 L [] w h3
  rw [lg_entry_eq]
  have hlen : (lg_sl (av.map (cv iA))).length ≤ nL := by rw [lgsl_len av h6]; exact h5
  have hlv := lv_entry (av.map (cv iA)) hlen
  have k2 := key s.heap [] _ hGP va_S.rf (by rw [h4]; exact hlv)
  rw [Nat.zero_mul, Nat.zero_mul] at k2
  exact k2
theorem RP_blind {g : GPm} {W0 w : va_W} {av : List Value} : FrameBlind (va_Pc av (fun U => GS g U ∧ RP g W0 w U.heap)) := by
  intro a U gg mk h
  obtain ⟨h1, h2, h3⟩ := h
  exact ⟨h1, ⟨va_K.moved (u := U) (U := U.calling gg mk a) (Vm.Alike.refl U.vm) h2.1, vx_Zq.moved (u := U) (U := U.calling gg mk a) (Vm.Alike.refl U.vm) h2.2.1, vx_Zq.moved (u := U) (U := U.calling gg mk a) (Vm.Alike.refl U.vm) h2.2.2.1, GX_blind h2.2.2.2⟩, h3⟩
theorem apx {α : Type} {W0 w : List α} {j : Nat} {x : α} (h : w[j]? = some x) : (W0 ++ w)[W0.length + j]? = some x := by
  rw [List.getElem?_append_right (by omega), Nat.add_sub_cancel_left]; exact h
theorem asx {α : Type} : ∀ {W0 w : List α} {j : Nat} {x : α}, (W0 ++ w).set (W0.length + j) x = W0 ++ w.set j x
  | [], w, j, x => by simp
  | a :: r, w, j, x => by
    rw [List.cons_append, List.length_cons, show r.length + 1 + j = (r.length + j) + 1 by omega, List.set_cons_succ, asx, List.cons_append]
theorem RA_eq {U : State} {c1 c2 : ClassId} {ty : FieldType} (h1 : va_RA U c1 ty) (h2 : va_RA U c2 ty) : c1 = c2 := by
  cases ty with
  | object C =>
    obtain ⟨_, _, _, _, _, e1⟩ := h1
    obtain ⟨_, _, _, _, _, e2⟩ := h2
    exact Option.some.inj (e1.symm.trans e2)
  | _ => exact Option.some.inj (Eq.trans (Eq.symm h1) h2)
/-- the class of rows of a kind -/
theorem GS_ty {g : GPm} {s : State} {k : Nat} {ty : FieldType} {cA : ClassId} {c9 : ClassId} (hG : GS g s) (hk : (gtys g)[k]? = some (c9, ty)) (hK : va_K g.1 vwCl (gtys g ++ [(cA, ty)]) s) : cA = c9 :=
  RA_eq ((hK.2 (gtys g).length (cA, ty) (by rw [List.getElem?_append_right (Nat.le_refl _), Nat.sub_self]; rfl)).2) ((hG.1.2 k (c9, ty) hk).2)
theorem RP_sz {g : GPm} {W0 w : va_W} {H H1 : Heap} (h : RP g W0 w H) (hz : H.size ≤ H1.size) (h1 : va_P g.1 vwCl (W0 ++ w) H1) : RP g W0 w H1 := ⟨h1, h.2.1, Nat.le_trans h.2.2 hz⟩
/-! its instructions -/
def rp_ic (v : Int32) (nx : Nat) : RSem := fun _ _ k _ u L st w => k nx u L (aI v :: st) w
def rp_il (i nx : Nat) : RSem := fun _ _ k _ u L st w => match getL L i with
  | some (.inl x) => k nx u L (aI x :: st) w
  | _ => False
def rp_al (i nx : Nat) : RSem := fun _ _ k _ u L st w => match getL L i with
  | some (.inr r) => k nx u L (.inl (.inr r) :: st) w
  | _ => False
def rp_is (i nx : Nat) : RSem := fun _ _ k _ u L st w => match st with
  | .inl (.inl x) :: st' => setK L i (.inl x) (fun L' => k nx u L' st' w)
  | _ => False
def rp_as (i nx : Nat) : RSem := fun _ _ k _ u L st w => match st with
  | .inl (.inr r) :: st' => setK L i (.inr r) (fun L' => k nx u L' st' w)
  | _ => False
def rp_inc (i : Nat) (n : Int32) (nx : Nat) : RSem := fun _ _ k _ u L st w => match getL L i with
  | some (.inl x) => setK L i (.inl (x + n)) (fun L' => k nx u L' st w)
  | _ => False
def rp_bin (f : Int32 → Int32 → Int32) (nx : Nat) : RSem := fun _ _ k _ u L st w => match st with
  | .inl (.inl y) :: .inl (.inl x) :: st' => k nx u L (aI (f x y) :: st') w
  | _ => False
def rp_if (f : Int32 → Prop) (tg nx : Nat) : RSem := fun _ _ k _ u L st w => match st with
  | .inl (.inl x) :: st' => (f x → k tg u L st' w) ∧ (¬ f x → k nx u L st' w)
  | _ => False
def rp_cmp (f : Int32 → Int32 → Prop) (tg nx : Nat) : RSem := fun _ _ k _ u L st w => match st with
  | .inl (.inl y) :: .inl (.inl x) :: st' => (f x y → k tg u L st' w) ∧ (¬ f x y → k nx u L st' w)
  | _ => False
def rp_go (tg : Nat) : RSem := fun _ _ k _ u L st w => k tg u L st w
def rp_dup (nx : Nat) : RSem := fun _ _ k _ u L st w => match st with
  | .inl v :: st' => k nx u L (.inl v :: .inl v :: st') w
  | _ => False
def rp_pop (nx : Nat) : RSem := fun _ _ k _ u L st w => match st with
  | .inl _ :: st' => k nx u L st' w
  | _ => False
section RSnds
variable {ini : Bool} {own : String} {cc : ByteArray} {nL d U : Nat} {ret : Option FieldType} {pc nx : Nat}
theorem rk_iconst {n : Int} {v : Int32} (hd : decode cc pc = .ok (.iconst n, 1)) (hv : Int32.ofInt n = v) (hn : pc + 1 = nx) : RSnd ini own cc nL d U ret pc (rp_ic v nx) := by
  intro g p l e R s m args below meth c w0 hI hC W0 N Q hQ k hk u L st w h
  subst hn
  intro H locs ls hP hS hl
  exact lv_iconst hC.1.1 hC.1.2.1 hd hv (hk _ _ _ _ _ h H locs ls hP hS hl)
theorem rk_bipush {n : Int} {v : Int32} (hd : decode cc pc = .ok (.bipush n, 2)) (hv : (Int8.ofInt n).toInt32 = v) (hn : pc + 2 = nx) : RSnd ini own cc nL d U ret pc (rp_ic v nx) := by
  intro g p l e R s m args below meth c w0 hI hC W0 N Q hQ k hk u L st w h
  subst hn
  intro H locs ls hP hS hl
  exact lv_bipush hC.1.1 hC.1.2.1 hd hv (hk _ _ _ _ _ h H locs ls hP hS hl)
theorem rk_sipush {n : Int} {v : Int32} (hd : decode cc pc = .ok (.sipush n, 3)) (hv : (Int16.ofInt n).toInt32 = v) (hn : pc + 3 = nx) : RSnd ini own cc nL d U ret pc (rp_ic v nx) := by
  intro g p l e R s m args below meth c w0 hI hC W0 N Q hQ k hk u L st w h
  subst hn
  intro H locs ls hP hS hl
  exact lv_sipush hC.1.1 hC.1.2.1 hd hv (hk _ _ _ _ _ h H locs ls hP hS hl)
theorem rk_iload {i : Nat} (hd : decode cc pc = .ok (.iload i, 2)) (hn : pc + 2 = nx) : RSnd ini own cc nL d U ret pc (rp_il i nx) := by
  intro g p l e R s m args below meth c w0 hI hC W0 N Q hQ k hk u L st w h
  subst hn
  intro H locs ls hP hS hl
  unfold rp_il at h
  split at h
  · rename_i x hx
    exact lv_iload hC.1.1 hC.1.2.1 hd (getL_at hl hx) (hk _ _ _ _ _ h H locs ls hP hS hl)
  · exact h.elim
theorem rk_iload_n {q : Fin 4} {i : Nat} (hd : decode cc pc = .ok (.iload_n q, 1)) (hi : (q : Nat) = i) (hn : pc + 1 = nx) : RSnd ini own cc nL d U ret pc (rp_il i nx) := by
  intro g p l e R s m args below meth c w0 hI hC W0 N Q hQ k hk u L st w h
  subst hn
  intro H locs ls hP hS hl
  unfold rp_il at h
  split at h
  · rename_i x hx
    exact lv_iload_n hC.1.1 hC.1.2.1 hd hi (getL_at hl hx) (hk _ _ _ _ _ h H locs ls hP hS hl)
  · exact h.elim
theorem rk_aload {i : Nat} (hd : decode cc pc = .ok (.aload i, 2)) (hn : pc + 2 = nx) : RSnd ini own cc nL d U ret pc (rp_al i nx) := by
  intro g p l e R s m args below meth c w0 hI hC W0 N Q hQ k hk u L st w h
  subst hn
  intro H locs ls hP hS hl
  unfold rp_al at h
  split at h
  · rename_i x hx
    exact lv_aload hC.1.1 hC.1.2.1 hd (getL_at hl hx) (hk _ _ _ _ _ h H locs ls hP hS hl)
  · exact h.elim
theorem rk_aload_n {q : Fin 4} {i : Nat} (hd : decode cc pc = .ok (.aload_n q, 1)) (hi : (q : Nat) = i) (hn : pc + 1 = nx) : RSnd ini own cc nL d U ret pc (rp_al i nx) := by
  intro g p l e R s m args below meth c w0 hI hC W0 N Q hQ k hk u L st w h
  subst hn
  intro H locs ls hP hS hl
  unfold rp_al at h
  split at h
  · rename_i x hx
    exact lv_aload_n hC.1.1 hC.1.2.1 hd hi (getL_at hl hx) (hk _ _ _ _ _ h H locs ls hP hS hl)
  · exact h.elim
theorem rk_istore {i : Nat} (hd : decode cc pc = .ok (.istore i, 2)) (hi : i < nL) (hn : pc + 2 = nx) : RSnd ini own cc nL d U ret pc (rp_is i nx) := by
  intro g p l e R s m args below meth c w0 hI hC W0 N Q hQ k hk u L st w h
  subst hn
  intro H locs ls hP hS hl
  unfold rp_is at h
  split at h
  · rename_i x st'
    obtain ⟨L', h1, h2⟩ := setK_ok (ad := iA) h
    exact lv_istore hC.1.1 hC.1.2.1 hd hl hi rfl (fun ls' hl' => hk _ _ _ _ _ h1 H locs ls' hP hS (h2 nL ls' hl'))
  · exact h.elim
theorem rk_istore_n {q : Fin 4} {i : Nat} (hd : decode cc pc = .ok (.istore_n q, 1)) (he : (q : Nat) = i) (hi : i < nL) (hn : pc + 1 = nx) : RSnd ini own cc nL d U ret pc (rp_is i nx) := by
  intro g p l e R s m args below meth c w0 hI hC W0 N Q hQ k hk u L st w h
  subst hn
  intro H locs ls hP hS hl
  unfold rp_is at h
  split at h
  · rename_i x st'
    obtain ⟨L', h1, h2⟩ := setK_ok (ad := iA) h
    exact lv_istore_n hC.1.1 hC.1.2.1 hd he hl hi rfl (fun ls' hl' => hk _ _ _ _ _ h1 H locs ls' hP hS (h2 nL ls' hl'))
  · exact h.elim
theorem rk_astore {i : Nat} (hd : decode cc pc = .ok (.astore i, 2)) (hi : i < nL) (hn : pc + 2 = nx) : RSnd ini own cc nL d U ret pc (rp_as i nx) := by
  intro g p l e R s m args below meth c w0 hI hC W0 N Q hQ k hk u L st w h
  subst hn
  intro H locs ls hP hS hl
  unfold rp_as at h
  split at h
  · rename_i x st'
    obtain ⟨L', h1, h2⟩ := setK_ok (ad := iA) h
    exact lv_astore hC.1.1 hC.1.2.1 hd hl hi rfl (fun ls' hl' => hk _ _ _ _ _ h1 H locs ls' hP hS (h2 nL ls' hl'))
  · exact h.elim
theorem rk_astore_n {q : Fin 4} {i : Nat} (hd : decode cc pc = .ok (.astore_n q, 1)) (he : (q : Nat) = i) (hi : i < nL) (hn : pc + 1 = nx) : RSnd ini own cc nL d U ret pc (rp_as i nx) := by
  intro g p l e R s m args below meth c w0 hI hC W0 N Q hQ k hk u L st w h
  subst hn
  intro H locs ls hP hS hl
  unfold rp_as at h
  split at h
  · rename_i x st'
    obtain ⟨L', h1, h2⟩ := setK_ok (ad := iA) h
    exact lv_astore_n hC.1.1 hC.1.2.1 hd he hl hi rfl (fun ls' hl' => hk _ _ _ _ _ h1 H locs ls' hP hS (h2 nL ls' hl'))
  · exact h.elim
theorem rk_iinc {i : Nat} {n : Int} {v : Int32} (hd : decode cc pc = .ok (.iinc i n, 3)) (hv : Int32.ofInt n = v) (hi : i < nL) (hn : pc + 3 = nx) : RSnd ini own cc nL d U ret pc (rp_inc i v nx) := by
  intro g p l e R s m args below meth c w0 hI hC W0 N Q hQ k hk u L st w h
  subst hn
  intro H locs ls hP hS hl
  unfold rp_inc at h
  split at h
  · rename_i x hx
    obtain ⟨L', h1, h2⟩ := setK_ok (ad := iA) h
    obtain ⟨kk, hkk⟩ := List.getElem?_of_mem (List.mem_map.mpr ⟨(i, .inl x), getL_mem hx, rfl⟩ : (i, Value.int x) ∈ L.map (fun q => (q.1, cL iA q.2)))
    exact lv_iinc hC.1.1 hC.1.2.1 hd hl hkk (by rw [hv]) hi rfl (fun ls' hl' => hk _ _ _ _ _ h1 H locs ls' hP hS (h2 nL ls' hl'))
  · exact h.elim
theorem rk_iadd (hd : decode cc pc = .ok (.iadd, 1)) (hn : pc + 1 = nx) : RSnd ini own cc nL d U ret pc (rp_bin (fun x y => x + y) nx) := by
  intro g p l e R s m args below meth c w0 hI hC W0 N Q hQ k hk u L st w h
  subst hn
  intro H locs ls hP hS hl
  unfold rp_bin at h
  split at h
  · exact lv_iadd hC.1.1 hC.1.2.1 hd (hk _ _ _ _ _ h H locs ls hP hS hl)
  · exact h.elim
theorem rk_isub (hd : decode cc pc = .ok (.isub, 1)) (hn : pc + 1 = nx) : RSnd ini own cc nL d U ret pc (rp_bin (fun x y => x - y) nx) := by
  intro g p l e R s m args below meth c w0 hI hC W0 N Q hQ k hk u L st w h
  subst hn
  intro H locs ls hP hS hl
  unfold rp_bin at h
  split at h
  · exact lv_isub hC.1.1 hC.1.2.1 hd (hk _ _ _ _ _ h H locs ls hP hS hl)
  · exact h.elim
theorem rk_if_eq {off : Int} {tg : Nat} (hd : decode cc pc = .ok (.ifCond .eq off, 3)) (ht : (pc : Int) + off = (tg : Int)) (hn : pc + 3 = nx) : RSnd ini own cc nL d U ret pc (rp_if (fun x => x = 0) tg nx) := by
  intro g p l e R s m args below meth c w0 hI hC W0 N Q hQ k hk u L st w h
  subst hn
  intro H locs ls hP hS hl
  unfold rp_if at h
  split at h
  · exact lv_if_eq hC.1.1 hC.1.2.1 hd ht (fun q => hk _ _ _ _ _ (h.1 q) H locs ls hP hS hl) (fun q => hk _ _ _ _ _ (h.2 (by first | exact q | simpa using q)) H locs ls hP hS hl)
  · exact h.elim
theorem rk_if_ne {off : Int} {tg : Nat} (hd : decode cc pc = .ok (.ifCond .ne off, 3)) (ht : (pc : Int) + off = (tg : Int)) (hn : pc + 3 = nx) : RSnd ini own cc nL d U ret pc (rp_if (fun x => ¬ x = 0) tg nx) := by
  intro g p l e R s m args below meth c w0 hI hC W0 N Q hQ k hk u L st w h
  subst hn
  intro H locs ls hP hS hl
  unfold rp_if at h
  split at h
  · exact lv_if_ne hC.1.1 hC.1.2.1 hd ht (fun q => hk _ _ _ _ _ (h.1 q) H locs ls hP hS hl) (fun q => hk _ _ _ _ _ (h.2 (by first | exact q | simpa using q)) H locs ls hP hS hl)
  · exact h.elim
theorem rk_icmp_ge {off : Int} {tg : Nat} (hd : decode cc pc = .ok (.if_icmp .ge off, 3)) (ht : (pc : Int) + off = (tg : Int)) (hn : pc + 3 = nx) : RSnd ini own cc nL d U ret pc (rp_cmp (fun x y => y ≤ x) tg nx) := by
  intro g p l e R s m args below meth c w0 hI hC W0 N Q hQ k hk u L st w h
  subst hn
  intro H locs ls hP hS hl
  unfold rp_cmp at h
  split at h
  · exact lv_icmp_ge hC.1.1 hC.1.2.1 hd ht (fun q => hk _ _ _ _ _ (h.1 q) H locs ls hP hS hl) (fun q => hk _ _ _ _ _ (h.2 (by first | exact q | simpa using q)) H locs ls hP hS hl)
  · exact h.elim
theorem rk_icmp_ne {off : Int} {tg : Nat} (hd : decode cc pc = .ok (.if_icmp .ne off, 3)) (ht : (pc : Int) + off = (tg : Int)) (hn : pc + 3 = nx) : RSnd ini own cc nL d U ret pc (rp_cmp (fun x y => ¬ x = y) tg nx) := by
  intro g p l e R s m args below meth c w0 hI hC W0 N Q hQ k hk u L st w h
  subst hn
  intro H locs ls hP hS hl
  unfold rp_cmp at h
  split at h
  · exact lv_icmp_ne hC.1.1 hC.1.2.1 hd ht (fun q => hk _ _ _ _ _ (h.1 q) H locs ls hP hS hl) (fun q => hk _ _ _ _ _ (h.2 (by first | exact q | simpa using q)) H locs ls hP hS hl)
  · exact h.elim
theorem rk_icmp_lt {off : Int} {tg : Nat} (hd : decode cc pc = .ok (.if_icmp .lt off, 3)) (ht : (pc : Int) + off = (tg : Int)) (hn : pc + 3 = nx) : RSnd ini own cc nL d U ret pc (rp_cmp (fun x y => x < y) tg nx) := by
  intro g p l e R s m args below meth c w0 hI hC W0 N Q hQ k hk u L st w h
  subst hn
  intro H locs ls hP hS hl
  unfold rp_cmp at h
  split at h
  · exact lv_icmp_lt hC.1.1 hC.1.2.1 hd ht (fun q => hk _ _ _ _ _ (h.1 q) H locs ls hP hS hl) (fun q => hk _ _ _ _ _ (h.2 (by first | exact q | simpa using q)) H locs ls hP hS hl)
  · exact h.elim
theorem rk_goto {off : Int} {tg : Nat} (hd : decode cc pc = .ok (.goto off, 3)) (ht : (pc : Int) + off = (tg : Int)) : RSnd ini own cc nL d U ret pc (rp_go tg) := by
  intro g p l e R s m args below meth c w0 hI hC W0 N Q hQ k hk u L st w h
  intro H locs ls hP hS hl
  exact lv_goto hC.1.1 hC.1.2.1 hd ht (hk _ _ _ _ _ h H locs ls hP hS hl)
theorem rk_dup (hd : decode cc pc = .ok (.dup, 1)) (hn : pc + 1 = nx) : RSnd ini own cc nL d U ret pc (rp_dup nx) := by
  intro g p l e R s m args below meth c w0 hI hC W0 N Q hQ k hk u L st w h
  subst hn
  intro H locs ls hP hS hl
  unfold rp_dup at h
  split at h
  · exact lv_dup hC.1.1 hC.1.2.1 hd (cL_cat iA _) (hk _ _ _ _ _ h H locs ls hP hS hl)
  · exact h.elim
theorem rk_pop (hd : decode cc pc = .ok (.pop, 1)) (hn : pc + 1 = nx) : RSnd ini own cc nL d U ret pc (rp_pop nx) := by
  intro g p l e R s m args below meth c w0 hI hC W0 N Q hQ k hk u L st w h
  subst hn
  intro H locs ls hP hS hl
  unfold rp_pop at h
  split at h
  · exact lv_pop hC.1.1 hC.1.2.1 hd (cL_cat iA _) (hk _ _ _ _ _ h H locs ls hP hS hl)
  · exact h.elim
end RSnds

