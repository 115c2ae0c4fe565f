/-! rows that a method makes for itself and drops: the law's kin; the script's ints -/
def Ek (ad : Nat → Nat → Nat) (K : List (Nat × Nat)) (ad' : Nat → Nat → Nat) (K' : List (Nat × Nat)) : Prop := (∀ t i, ¬ t = 31 → ad' t i = ad t i) ∧ ∀ q : Nat × Nat, ¬ q.1 = 31 → (q ∈ K' ↔ q ∈ K)
theorem Ek.rf {ad : Nat → Nat → Nat} {K : List (Nat × Nat)} : Ek ad K ad K := ⟨fun _ _ _ => rfl, fun _ _ => Iff.rfl⟩
theorem Ek.tr {ad ad1 ad2 : Nat → Nat → Nat} {K K1 K2 : List (Nat × Nat)} (h1 : Ek ad K ad1 K1) (h2 : Ek ad1 K1 ad2 K2) : Ek ad K ad2 K2 := ⟨fun t i h => (h2.1 t i h).trans (h1.1 t i h), fun q h => (h2.2 q h).trans (h1.2 q h)⟩
def kQ (g : GPm) (ad : Nat → Nat → Nat) (K : List (Nat × Nat)) (N : Nt) : Array Value → State → Outcome → State → Prop := fun _ st oc t =>
  (∃ (ad' : Nat → Nat → Nat) (K' : List (Nat × Nat)) (v : Option AV) (s' : Sg), Ek ad K ad' K' ∧ oc = .returned (v.map (cv ad')) ∧ N v s' ∧ GP g ad' K' s' t.heap) ∧ va_F (gA g) st t
def kX (g : GPm) (ad : Nat → Nat → Nat) (K : List (Nat × Nat)) (X : Xt) : String → State → State → Prop := fun E st t =>
  (∃ (ad' : Nat → Nat → Nat) (K' : List (Nat × Nat)) (x : Nat) (s' : Sg), Ek ad K ad' K' ∧ exn x = E ∧ X x s' ∧ GP g ad' K' s' t.heap) ∧ va_F (gA g) st t
theorem MQ_k {g : GPm} {ad ad1 : Nat → Nat → Nat} {K K1 : List (Nat × Nat)} {N : Nt} {X : Xt} {below : List Frame} {a : Array Value} {s t : State} {mc ms : Nat} (hE : Ek ad K ad1 K1) (h : vx_MQ below (aQ g ad1 K1 N) (aX g ad1 K1 X) a s mc ms (gA g) t) : vx_MQ below (kQ g ad K N) (kX g ad K X) a s mc ms (gA g) t := by
  obtain ⟨o, h1, h2, h3⟩ := h
  refine ⟨o, h1, h2, ?_⟩
  rcases h3 with ⟨⟨⟨v, s', e1, e2, e3⟩, e4⟩, h4⟩ | ⟨q, h3, E, ce, L, ⟨⟨x, s', e1, e2, e3⟩, e4⟩, h5⟩
  · exact Or.inl ⟨⟨⟨ad1, K1, v, s', hE, e1, e2, e3⟩, e4⟩, h4⟩
  · exact Or.inr ⟨q, h3, E, ce, L, ⟨⟨ad1, K1, x, s', hE, e1, e2, e3⟩, e4⟩, h5⟩
section Grow
variable (g : GPm) (p : Program) (l : Launch) (e : Env) (R : Room) (s : State) (m : MethodId) (args : Array Value) (below : List Frame) (meth : Method) (c : Code)
def KAW (nL : Nat) (ad0 : Nat → Nat → Nat) (K0 : List (Nat × Nat)) (Q : State → Prop) (pc u : Nat) (L : LC) (st : List AV) (s1 : Sg) : Prop :=
  ∀ (ad : Nat → Nat → Nat) (K : List (Nat × Nat)), Ek ad0 K0 ad K → AW g p l e R s m args below meth c nL ad K Q pc u L st s1
def KQX (ad : Nat → Nat → Nat) (K : List (Nat × Nat)) (N : Nt) (X : Xt) (U : Nat) (Q : State → Prop) : Prop :=
  ∀ t, vx_MQ below (kQ g ad K N) (kX g ad K X) args s (U * cU) (U * sU) (gA g) t → Q t
end Grow
def KSnd (own : String) (cc : ByteArray) (nL d U : Nat) (ret : Option FieldType) (pc : Nat) (f : Sem) : Prop :=
  ∀ (g : GPm) (p : Program) (l : Launch) (e : Env) (R : Room) (s : State) (m : MethodId) (args : Array Value) (below : List Frame) (meth : Method) (c : Code) (w0 : Cond),
    CX g p l R s m args meth c own cc nL d U ret w0 → ∀ (ad0 : Nat → Nat → Nat) (K0 : List (Nat × Nat)) (N : Nt) (X : Xt) (Q : State → Prop), KQX g s args below ad0 K0 N X U Q →
    ∀ (k : Kt), (∀ pc' u' L' st' s', k pc' u' L' st' s' → KAW g p l e R s m args below meth c nL ad0 K0 Q pc' u' L' st' s') →
    ∀ u L st s1, f U k N X u L st s1 → KAW g p l e R s m args below meth c nL ad0 K0 Q pc u L st s1
theorem snd_k {own : String} {cc : ByteArray} {nL d U : Nat} {ret : Option FieldType} {pc : Nat} {f : Sem} (h : Snd own cc nL d U ret pc f) : KSnd own cc nL d U ret pc f :=
  fun g p l e R s m args below meth c w0 hC ad0 K0 N X Q hQ k hk u L st s1 hf ad K hE =>
    h g p l e R s m args below meth c w0 hC ad K N X Q (fun t ht => hQ t (MQ_k hE ht)) k (fun pc' u' L' st' s' hk' => hk pc' u' L' st' s' hk' ad K hE) u L st s1 hf
theorem kcons {own : String} {cc : ByteArray} {nL d U : Nat} {ret : Option FieldType} {pc : Nat} {f : Sem} {l : List (Nat × Sem)} (h : KSnd own cc nL d U ret pc f) (t : ∀ q ∈ l, KSnd own cc nL d U ret q.1 q.2) : ∀ q ∈ (pc, f) :: l, KSnd own cc nL d U ret q.1 q.2 := fun q hq => (List.mem_cons.mp hq).elim (fun e => by rw [e]; exact h) (t q)
section KWPs
variable {g : GPm} {p : Program} {l : Launch} {e : Env} {R : Room} {s : State} {m : MethodId} {args : Array Value} {below : List Frame} {meth : Method} {c : Code}
variable {own : String} {cc : ByteArray} {nL d U : Nat} {ret : Option FieldType} {w0 : Cond} {ad : Nat → Nat → Nat} {K : List (Nat × Nat)} {N : Nt} {X : Xt} {Q : State → Prop}
theorem kwp_ok {T : List (Nat × Sem)} (hT : ∀ q ∈ T, KSnd own cc nL d U ret q.1 q.2) (hC : CX g p l R s m args meth c own cc nL d U ret w0) (hQ : KQX g s args below ad K N X U Q)
    {C : Nat → Option (Nat → LC → List AV → Sg → Prop)} (hc : ∀ pc P, C pc = some P → ∀ u L st s0, P u L st s0 → KAW g p l e R s m args below meth c nL ad K Q pc u L st s0) :
    ∀ n pc u L st s0, wp (lk T) C U N X n pc u L st s0 → KAW g p l e R s m args below meth c nL ad K Q pc u L st s0 := by
  intro n
  induction n with
  | zero => intro pc u L st s0 h; exact h.elim
  | succ n ih =>
    intro pc u L st s0 h
    unfold wp at h
    cases h1 : C pc with
    | some P => rw [h1] at h; exact hc pc P h1 u L st s0 h
    | none =>
      rw [h1] at h
      cases h2 : lk T pc with
      | none => rw [h2] at h; exact h.elim
      | some f =>
        rw [h2] at h
        exact hT _ (lk_mem h2) g p l e R s m args below meth c w0 hC ad K N X Q hQ _ ih u L st s0 h
theorem kwps_ok {T : List (Nat × Sem)} (hT : ∀ q ∈ T, KSnd own cc nL d U ret q.1 q.2) (hC : CX g p l R s m args meth c own cc nL d U ret w0) (hQ : KQX g s args below ad K N X U Q)
    {C : Nat → Option (Nat → LC → List AV → Sg → Prop)} (hc : ∀ pc P, C pc = some P → ∀ u L st s0, P u L st s0 → KAW g p l e R s m args below meth c nL ad K Q pc u L st s0) :
    ∀ n pc u L st s0, wps (lk T) C U N X n pc u L st s0 → KAW g p l e R s m args below meth c nL ad K Q pc u L st s0 := by
  intro n pc u L st s0 h
  unfold wps at h
  cases h2 : lk T pc with
  | none => rw [h2] at h; exact h.elim
  | some f =>
    rw [h2] at h
    exact hT _ (lk_mem h2) g p l e R s m args below meth c w0 hC ad K N X Q hQ _ (kwp_ok hT hC hQ hc n) u L st s0 h
theorem Rn_k {T : List (Nat × Sem)} (hT : ∀ q ∈ T, KSnd own cc nL d U ret q.1 q.2) (hC : CX g p l R s m args meth c own cc nL d U ret w0) (hQ : KQX g s args below ad K N X U Q) : Rn T U N X (KAW g p l e R s m args below meth c nL ad K Q) :=
  ⟨fun _ n pc u L st s1 h => kwps_ok hT hC hQ cutZ_ok n pc u L st s1 h, fun _ _ _ _ _ _ hs h ad K hE H locs ls hP hS hl => h ad K hE H locs ls hP hS (lvh_sub hs hl)⟩
end KWPs
theorem RF_31 {s : Sg} {x y t i : Nat} (hx : x = 3 → y < 3) (h59 : x = 59 → y < 3) (h : RF s x y t i) : ¬ t = 31 := by
  rcases h with ⟨k9, o, c9, n9, ho9, hk9', hr, hi⟩ | ⟨rfl, rfl, hi⟩ | ⟨hx, rfl⟩ | ⟨rfl, rfl, hi⟩
  · unfold rf at hr
    split at hr
    all_goals first
      | (cases hr; decide)
      | (cases hr; done)
  · have := hx rfl
    omega
  · omega
  · have := h59 rfl
    omega
/-- the state but for those rows -/
def kd (s0 s' : Sg) : Prop := (∀ c, ¬ c = 18 → s'.1 c = s0.1 c) ∧ (∀ a b c, ¬ a = 31 → s'.2.1 a b c = s0.2.1 a b c) ∧ s'.2.2 = s0.2.2
def kN (s0 : Sg) (N : Nt) : Nt := fun v s' => (∃ x, v = some (aI x)) ∧ kd s0 s' ∧ N v s0
theorem GP_kd {g : GPm} {ad ad' : Nat → Nat → Nat} {K K' : List (Nat × Nat)} {s0 s' : Sg} {H0 H : Heap} (hP0 : GP g ad K s0 H0) (h14 : s0.1 14 = 0) (hE : Ek ad K ad' K') (hP : GP g ad' K' s' H) (hk : kd s0 s') (h18 : s0.1 18 = 0) : GP g ad K s0 H := by
  refine ⟨VP_mem hP.1 (fun x hx => ?_), hP0.2.1, hP0.2.2.1, hP.2.2.2.1, hP0.2.2.2.2.1, hP0.2.2.2.2.2.1, hP0.2.2.2.2.2.2⟩
  unfold gws at hx ⊢
  obtain ⟨⟨t, i⟩, hz, rfl⟩ := List.mem_map.mp hx
  have hL := hP0.2.2.2.2.2.1 _ hz
  have h31 : ¬ t = 31 := by
    rintro rfl
    have : i < s0.1 18 := hL
    omega
  refine List.mem_map.mpr ⟨(t, i), (hE.2 _ h31).mpr hz, ?_⟩
  dsimp only
  have h3 : t = 3 → i < 3 := fun hx => by subst hx; exact hL.1
  have h59 : t = 59 → i < 3 := fun hx => by subst hx; have := hL.2; omega
  have h2 : t = 2 → i < 3 := fun hx => by subst hx; exact hL
  rw [hE.1 t i h31, ent_eq (ad := ad) (s := s0) (fun d => hk.2.1 t i d h31) (fun _ => hk.2.2) (fun hx => hk.1 _ (by have := h2 hx; omega)) (fun hx => ⟨hk.1 _ (by have := h3 hx; omega), by rw [hk.1 _ (by have := h3 hx; omega), hk.1 _ (by have := h3 hx; omega)]⟩)
    ⟨fun _ => hk.1 _ (by decide), fun _ => hk.1 _ (by decide)⟩ (fun _ => ⟨hk.1 _ (by decide), hk.1 _ (by decide)⟩) (fun t i hR => hE.1 t i (RF_31 h3 h59 hR))]
theorem AMet.kn {y : MethodName} {own : String} {cc : ByteArray} {nL d U : Nat} {ret : Option FieldType} {sp : Spc} {T : List (Nat × Sem)} (hy : plainName y.cls = true) (hcls : y.cls = own) (is : List Nat) (his : is = List.range' 0 nL)
    (hT : ∀ q ∈ T, KSnd own cc nL d U ret q.1 q.2)
    (body : ∀ av s0 N X, sp av s0 N X → (s0.1 18 = 0 ∧ s0.1 14 = 0) ∧ ∀ Z : Kt, Rn T U (kN s0 N) (fun _ _ => False) Z → argK av is (fun L => Z 0 0 L [] s0)) : AMet y cc nL ret d U sp := by
  intro l hl g ad K av s0 N X h
  subst hcls
  subst his
  refine vx_ofW hy rfl ?_
  intro p e s m args below meth c s₁ B hml htab hv
  obtain ⟨rfl, hGS, hGP⟩ := hv
  have hC : CX g p l (headSpec (wsM y cc nL ret) (rmD d U)).room s m (av.map (cv ad)).toArray meth c y.cls cc nL d U ret (.code y cc nL ret) :=
    ⟨⟨B.exec, B.bytes, hml, findClass_of_methodNamed B.named, atoms_spec (ws := wsM y cc nL ret) B.pre⟩, hGS, B.notSynchronized, B.returns, rfl, hl, htab⟩
  obtain ⟨⟨h18, h14⟩, hb⟩ := body av s0 N X h
  have hQ : KQX g s (av.map (cv ad)).toArray below ad K (kN s0 N) (fun _ _ => False) U (vx_MQ below (aQ g ad K N) (aX g ad K X) (av.map (cv ad)).toArray s (U * cU) (U * sU) (gA g)) := by
    rintro t ⟨o, h1, h2, h3⟩
    refine ⟨o, h1, h2, ?_⟩
    rcases h3 with ⟨⟨⟨ad', K', v, s', e1, e2, ⟨⟨x, rfl⟩, e4, e5⟩, e6⟩, e7⟩, h4⟩ | ⟨q, h3, E, ce, L, ⟨⟨ad', K', x, s', e1, e2, e3, e4⟩, e5⟩, h5⟩
    · exact Or.inl ⟨⟨⟨some (aI x), s0, e2, e5, GP_kd hGP h14 e1 e6 e4 h18⟩, e7⟩, h4⟩
    · exact e3.elim
  have h1 := hb _ (Rn_k (e := e) hT hC hQ)
  obtain ⟨L, h3, h4⟩ := argK_ok (ad := ad) av 0 nL _ h1
  obtain ⟨h5, h6⟩ := argK_len av 0 nL _ h1
  rw [lg_entry_eq]
  have hlen : (lg_sl (av.map (cv ad))).length ≤ nL := by rw [lgsl_len av h6]; exact h5
  have hlv := lv_entry (av.map (cv ad)) hlen
  have k2 := h3 ad K Ek.rf s.heap [] _ hGP va_S.rf (by rw [h4]; exact hlv)
  rw [Nat.zero_mul, Nat.zero_mul] at k2
  exact k2
/-- a new row of ints -/
def mk31 (s : Sg) (i : Nat) : Sg := stC (s.1, fun a b c => if a = 31 ∧ b = i then 0 else s.2.1 a b c, s.2.2) 18 (i + 1)
theorem mk31_1 {s : Sg} {i c : Nat} (h : ¬ c = 18) : (mk31 s i).1 c = s.1 c := stC_ne h
theorem mk31_2 {s : Sg} {i a b c : Nat} (h : ¬ (a = 31 ∧ b = i)) : (mk31 s i).2.1 a b c = s.2.1 a b c := if_neg h
def noI (i : Nat) : List AV → Bool
  | [] => true
  | .inl (.inr (t, j)) :: r => !(Nat.beq t 31 && Nat.beq j i) && noI i r
  | .inl (.inl _) :: r => noI i r
  | .inr _ :: r => noI i r
theorem noI_ne {t j i : Nat} (h : (!(Nat.beq t 31 && Nat.beq j i)) = true) : ¬ (t = 31 ∧ j = i) := by
  rintro ⟨rfl, rfl⟩
  rw [Nat.beq_refl, Nat.beq_refl] at h
  cases h
theorem noI_ok {ad : Nat → Nat → Nat} {i q : Nat} : ∀ {st : List AV}, noI i st = true → st.map (cv ad) = st.map (cv (adN ad 31 i q))
  | [], _ => rfl
  | .inl (.inr (t, j)) :: r, h => by
    unfold noI at h
    obtain ⟨h1, h2⟩ := Bool.and_eq_true_iff.mp h
    have ih := noI_ok (ad := ad) (q := q) h2
    rw [List.map_cons, List.map_cons, ih]
    show Value.ref (ad t j) :: _ = Value.ref (adN ad 31 i q t j) :: _
    rw [adN_old (noI_ne h1)]
  | .inl (.inl _) :: r, h => by
    have ih := noI_ok (ad := ad) (q := q) (st := r) h
    rw [List.map_cons, List.map_cons, ih]
    rfl
  | .inr _ :: r, h => by
    have ih := noI_ok (ad := ad) (q := q) (st := r) h
    rw [List.map_cons, List.map_cons, ih]
    rfl
theorem noI_L {ad : Nat → Nat → Nat} {i q : Nat} : ∀ {L : LC}, noI i (L.map (fun z => .inl z.2)) = true → L.map (fun z => (z.1, cL (adN ad 31 i q) z.2)) = L.map (fun z => (z.1, cL ad z.2))
  | [], _ => rfl
  | (j, .inr (t, x)) :: r, h => by
    rw [List.map_cons] at h
    unfold noI at h
    obtain ⟨h1, h2⟩ := Bool.and_eq_true_iff.mp h
    have ih := noI_L (ad := ad) (q := q) h2
    rw [List.map_cons, List.map_cons, ih]
    show (j, Value.ref (adN ad 31 i q t x)) :: _ = (j, Value.ref (ad t x)) :: _
    rw [adN_old (noI_ne h1)]
  | (j, .inl x) :: r, h => by
    have ih := noI_L (ad := ad) (q := q) (L := r) h
    rw [List.map_cons, List.map_cons, ih]
    rfl
section NewF
variable {own : String} {cc : ByteArray} {nL d U : Nat} {ret : Option FieldType} {pc nx : Nat}
def op_newF (i nx : Nat) : Sem := fun U k _ _ u L st s => match st with
  | .inl (.inl v) :: st' => v = 16 ∧ s.1 18 = i ∧ s.1 14 = 0 ∧ u + 1 ≤ U ∧ noI i st' = true ∧ noI i (L.map (fun z => .inl z.2)) = true ∧ k nx (u + 1) L (aR 31 i :: st') (mk31 s i)
  | _ => False
theorem ok_newF {i : Nat} (harr : Cond.arrayClass .int ∈ TB) (hd : decode cc pc = .ok (.newarray .int, 2)) (hn : pc + 2 = nx) : KSnd own cc nL d U ret pc (op_newF i nx) := by
  intro g p l e R s m args below meth c w0 hC ad0 K0 N X Q hQ k hk u L st s1 h ad K hE
  subst hn
  intro H locs ls hP hS hl
  unfold op_newF at h
  split at h
  · rename_i v st'
    obtain ⟨rfl, h18, h14, hu, hst, hL, h⟩ := h
    have hR := hC.2.2.2.2.1
    have ht : ∀ w ∈ TB, w.before args s = true := fun w hw => hC.1.2.2.2.2 w (List.mem_cons_of_mem _ hw)
    subst hR
    have hS9 : va_S (gA g) H H locs := ⟨Nat.le_refl _, fun _ _ _ => rfl, hS.2.2⟩
    have hum : u * 24 + 24 ≤ U * 24 := by omega
    have hnew : ¬ Lv s1 31 i := fun hL9 => by have : i < s1.1 18 := hL9; omega
    refine va_newa (atype := .int) (ty := .int) (N' := 16) (a0 := (16, .inl (fun _ => 0))) (H0 := H) hC.1.1 hC.1.2.1 (ht _ harr) rfl hC.2.1.1 hP.1 hP.2.1 hS9 (fun q hq => Nat.le_trans hP.2.2.2.1 hq) (fun _ => rfl) (by decide) rfl (by decide) ?_ ?_ hd ?_
    · show u * 4 + 1 ≤ U * 4
      omega
    · show u * 24 + 16 ≤ U * 24
      omega
    · intro q cA H1 hK1 hP1 hD1 hS1
      have ec : cA = g.2.1 0 := GS_ty hC.2.1 (k := 0) rfl hK1
      subst ec
      have hS2 : va_S (gA g) s.heap H1 locs := ⟨Nat.le_trans hS.1 hS1.1, fun z h1 h2 => (hS1.2.1 z (Nat.lt_of_lt_of_le h1 hS.1) h2).trans (hS.2.1 z h1 h2), hS1.2.2⟩
      have hLv : ∀ x y, Lv (mk31 s1 i) x y ↔ (Lv s1 x y ∨ (x = 31 ∧ y = i)) := by
        intro x y
        by_cases hx : x = 31
        · subst hx
          show y < (mk31 s1 i).1 18 ↔ (y < s1.1 18 ∨ _)
          rw [show (mk31 s1 i).1 18 = i + 1 from stC_eq, h18]
          omega
        · have e9 : Lv (mk31 s1 i) x y = Lv s1 x y := by
            unfold Lv
            split <;> first | rfl | (exact absurd rfl hx) | (exact propext (and_congr_right fun hi => by rw [mk31_1 (by omega)])) | (rw [mk31_1 (by omega), mk31_1 (by omega)]) | (rw [mk31_1 (by omega)])
          rw [e9]
          exact ⟨Or.inl, fun h9 => h9.elim id fun h9 => absurd h9.1 hx⟩
      have hGP : GP g (adN ad 31 i q) (K ++ [(31, i)]) (mk31 s1 i) H1 := GP_new (by decide) hP hnew hLv (e := .inl (g.2.1 0, 16, .inl (fun _ => 0)))
        (by
          rw [ent_0 (n := 16) rfl rfl]
          congr 3
          exact congrArg Sum.inl (funext fun d => if_pos ⟨rfl, rfl⟩))
        (fun x y hxy => ent_eq (fun _ => mk31_2 (fun hc => hnew (by rw [hc.1, hc.2] at hxy; exact hxy))) (fun _ => rfl) (fun hx => by subst hx; have : y < 3 := hxy; exact mk31_1 (by omega)) (fun hx => by subst hx; have : y < 3 := hxy.1; exact ⟨mk31_1 (by omega), by rw [mk31_1 (by omega), mk31_1 (by omega)]⟩)
          ⟨fun _ => mk31_1 (by decide), fun hx => mk31_1 (by decide)⟩ (fun _ => ⟨mk31_1 (by decide), mk31_1 (by decide)⟩) (fun t i hR => adN_old fun hc => RF_31 (fun hx => by subst hx; exact hxy.1) (fun hx => by subst hx; have := hxy.2; omega) hR hc.1)) hP1 hD1 hS1.1
        (fun j hj hz => by
          rw [mk31_1 (by omega)] at hz
          rw [adN_old (fun h => by have := h.1; omega)]
          exact hP.2.2.2.2.1 j hj hz)
      have hEk : Ek ad K (adN ad 31 i q) (K ++ [(31, i)]) := ⟨fun t j h9 => adN_old fun hc => h9 hc.1, fun z h9 => by
        rw [List.mem_append, List.mem_singleton]
        exact ⟨fun h => h.elim id fun h => absurd (by rw [h]) h9, Or.inl⟩⟩
      have key := hk _ _ _ _ _ h _ _ (hE.tr hEk) H1 locs ls hGP hS2 (by rw [noI_L hL]; exact hl)
      rw [List.map_cons, ← noI_ok (ad := ad) (q := q) hst, show cv (adN ad 31 i q) (aR 31 i) = .ref q from congrArg Value.ref adN_new] at key
      refine W.widen (k := (u + 1) * cU) (n := (u + 1) * sU) ?_ ?_ key
      · show u * 4 + 1 ≤ (u + 1) * 4
        omega
      · show u * 24 + 16 ≤ (u + 1) * 24
        omega
  · exact h.elim
/-- an int of the script, or none -/
def op_part : Sem := fun _ k _ _ u L st s => match getL L 0, getL L 1 with
  | some (.inr (74, 0)), some (.inl i) => (¬ i < 0) ∧ k 12 u L st s ∧ ∀ x : Int32, k 9 u L (aI x :: st) s
  | _, _ => False
theorem ok_part {o9 : Int} (d0 : decode cc 0 = .ok (.iload_n 1, 1)) (d1 : decode cc 1 = .ok (.aload_n 0, 1)) (d2 : decode cc 2 = .ok (.arraylength, 1)) (d3 : decode cc 3 = .ok (.if_icmp .ge o9, 3)) (ho9 : (3 : Int) + o9 = (12 : Int))
    (d6 : decode cc 6 = .ok (.aload_n 0, 1)) (d7 : decode cc 7 = .ok (.iload_n 1, 1)) (d8 : decode cc 8 = .ok (.iaload, 1)) : Snd own cc nL d U ret 0 op_part := by
  intro g p l e R s m args below meth c w0 hC ad K N X Q hQ k hk u L st s0 h
  intro H locs ls hP hS hl
  unfold op_part at h
  split at h
  · rename_i i h0 h1
    obtain ⟨hi, h12, h9⟩ := h
    obtain ⟨hGN, hX, hnb, h31⟩ := hC.2.1.2.2.2.1.2
    have hbl : g.2.1 74000 < s.heap.size := by
      obtain ⟨scr, h1, -⟩ := hX
      exact (Array.getElem?_eq_some_iff.mp h1).1
    have hcb : cL ad (.inr (74, 0)) = .ref (g.2.1 74000) := congrArg Value.ref (gp_const hP (t := 74) 0 (by decide))
    have a0 := getL_at hl h0
    have a1 := getL_at hl h1
    rw [hcb] at a0
    refine lv_iload_n hC.1.1 hC.1.2.1 d0 rfl a1 ?_
    refine lv_aload_n hC.1.1 hC.1.2.1 d1 rfl a0 ?_
    refine va_slen hC.1.1 hC.1.2.1 hX hbl hnb hS d2 ?_
    refine lv_icmp_ge hC.1.1 hC.1.2.1 d3 ho9 (fun _ => hk _ _ _ _ _ h12 H locs ls hP hS hl) (fun q => ?_)
    refine lv_aload_n hC.1.1 hC.1.2.1 d6 rfl a0 ?_
    refine lv_iload_n hC.1.1 hC.1.2.1 d7 rfl a1 ?_
    refine va_sld hC.1.1 hC.1.2.1 hX hbl hnb hS ?_ d8 (hk _ _ _ _ _ (h9 _) H locs ls hP hS hl)
    rintro (z | z)
    · exact hi z
    · obtain ⟨j, hj, rfl⟩ := nI_of hi
      rw [nI_clamp hj] at z
      have q2 : ¬ nI (g.2.1 75000) ≤ nI j := by first | exact q | simpa using q
      exact q2 (nI_le z hj)
  · exact h.elim
end NewF

