/-! methods with an exception table of their own: the law's helpers -/
abbrev HH : Type := List (Nat × Nat × Nat × Nat)
section HXs
variable (g : GPm) (p : Program) (l : Launch) (R : Room) (s : State) (m : MethodId) (args : Array Value) (meth : Method) (c : Code)
def HX (own : String) (cc : ByteArray) (nL d U : Nat) (ret : Option FieldType) (w0 : Cond) (hh : HH) : Prop :=
  CallFix p m c cc nL s args (w0 :: TB) own ∧ GS g s ∧ meth.locks = false ∧ meth.sig.returnType = ret ∧ R = rmD d U ∧ l.stackTraces = false ∧ c.exceptionTable.toList = tableOf hh ∧ GN s
end HXs
def HQX (g : GPm) (s : State) (args : Array Value) (below : List Frame) (ad : Nat → Nat → Nat) (K : List (Nat × Nat)) (N : Nt) (U : Nat) (Q : State → Prop) : Prop :=
  ∀ t, vx_MQ below (gQ g ad K N) rX args s (U * cU) (U * sU) (gA g) t → Q t
def HSnd (hh : HH) (own : String) (cc : ByteArray) (nL d U : Nat) (ret : Option FieldType) (pc : Nat) (f : Sem) : Prop :=
  ∀ (g : GPm) (p : Program) (l : Launch) (e : Env) (R : Room) (s : State) (m : MethodId) (args : Array Value) (below : List Frame) (meth : Method) (c : Code) (w0 : Cond),
    HX g p l R s m args meth c own cc nL d U ret w0 hh → ∀ (ad0 : Nat → Nat → Nat) (K0 : List (Nat × Nat)) (N : Nt) (Q : State → Prop), HQX g s args below ad0 K0 N U Q → ∀ (ad : Nat → Nat → Nat) (K : List (Nat × Nat)), Ex ad0 K0 ad K →
    ∀ (k : Kt), (∀ pc' u' L' st' s', k pc' u' L' st' s' → AW g p l e R s m args below meth c nL ad K Q pc' u' L' st' s') →
    ∀ u L st s0, f U k N (fun _ _ => False) u L st s0 → AW g p l e R s m args below meth c nL ad K Q pc u L st s0
def HGSnd (hh : HH) (own : String) (cc : ByteArray) (nL d U : Nat) (ret : Option FieldType) (pc : Nat) (f : Sem) : Prop :=
  ∀ (g : GPm) (p : Program) (l : Launch) (e : Env) (R : Room) (s : State) (m : MethodId) (args : Array Value) (below : List Frame) (meth : Method) (c : Code) (w0 : Cond),
    HX g p l R s m args meth c own cc nL d U ret w0 hh → ∀ (ad0 : Nat → Nat → Nat) (K0 : List (Nat × Nat)) (N : Nt) (Q : State → Prop), HQX g s args below ad0 K0 N U Q →
    ∀ (k : Kt), (∀ pc' u' L' st' s', k pc' u' L' st' s' → GAW g p l e R s m args below meth c nL ad0 K0 Q pc' u' L' st' s') →
    ∀ u L st s1, f U k N (fun _ _ => False) u L st s1 → GAW g p l e R s m args below meth c nL ad0 K0 Q pc u L st s1
theorem hsnd_g {hh : HH} {own : String} {cc : ByteArray} {nL d U : Nat} {ret : Option FieldType} {pc : Nat} {f : Sem} (h : HSnd hh own cc nL d U ret pc f) : HGSnd hh own cc nL d U ret pc f :=
  fun g p l e R s m args below meth c w0 hC ad0 K0 N Q hQ k hk u L st s1 hf ad K hE =>
    h g p l e R s m args below meth c w0 hC ad0 K0 N Q hQ ad K hE k (fun pc' u' L' st' s' hk' => hk pc' u' L' st' s' hk' ad K hE) u L st s1 hf
theorem hcons {hh : HH} {own : String} {cc : ByteArray} {nL d U : Nat} {ret : Option FieldType} {pc : Nat} {f : Sem} {l : List (Nat × Sem)} (h : HGSnd hh own cc nL d U ret pc f) (t : ∀ q ∈ l, HGSnd hh own cc nL d U ret q.1 q.2) : ∀ q ∈ (pc, f) :: l, HGSnd hh own cc nL d U ret q.1 q.2 := fun q hq => (List.mem_cons.mp hq).elim (fun e => by rw [e]; exact h) (t q)
theorem hwp_ok {hh : HH} {g : GPm} {p : Program} {l : Launch} {e : Env} {R : Room} {s : State} {m : MethodId} {args : Array Value} {below : List Frame} {meth : Method} {c : Code}
    {own : String} {cc : ByteArray} {nL d U : Nat} {ret : Option FieldType} {w0 : Cond} {ad : Nat → Nat → Nat} {K : List (Nat × Nat)} {N : Nt} {Q : State → Prop} {T : List (Nat × Sem)} (hT : ∀ q ∈ T, HGSnd hh own cc nL d U ret q.1 q.2) (hC : HX g p l R s m args meth c own cc nL d U ret w0 hh) (hQ : HQX g s args below ad K N U Q) :
    ∀ n pc u L st s0, wp (lk T) (fun _ => none) U N (fun _ _ => False) n pc u L st s0 → GAW g p l e R s m args below meth c nL ad K Q pc u L st s0 := by
  intro n
  induction n with
  | zero => intro pc u L st s0 h; exact h.elim
  | succ n ih =>
    intro pc u L st s0 h
    unfold wp at h
    dsimp only at h
    cases h2 : lk T pc with
    | none => rw [h2] at h; exact h.elim
    | some f =>
      rw [h2] at h
      exact hT _ (lk_mem h2) g p l e R s m args below meth c w0 hC ad K N Q hQ _ ih u L st s0 h
/-- the words of such a method -/
def wsH (y : MethodName) (cc : ByteArray) (nL : Nat) (ret : Option FieldType) (hh : HH) : List Cond := .codeWith y cc nL ret hh :: TB
def HMet (y : MethodName) (cc : ByteArray) (nL : Nat) (ret : Option FieldType) (hh : HH) (d u : Nat) (sp : Spc) : Prop :=
  ∀ (l : Launch), l.stackTraces = false → ∀ (g : GPm) (ad : Nat → Nat → Nat) (K : List (Nat × Nat)) (av : List AV) (s0 : Sg) (N : Nt), sp av s0 N (fun _ _ => False) →
    vx_Met l y (wsH y cc nL ret hh) (rmD d u) (va_Pc (av.map (cv ad)) (fun U => GS g U ∧ GP g ad K s0 U.heap)) (gQ g ad K N) rX (u * cU) (u * sU) (gA g)
theorem HMet.mk {y : MethodName} {own : String} {cc : ByteArray} {nL d U : Nat} {ret : Option FieldType} {hh : HH} {sp : Spc} {T : List (Nat × Sem)} (hy : plainName y.cls = true) (hcls : y.cls = own) (is : List Nat) (his : is = List.range' 0 nL)
    (hT : ∀ q ∈ T, HGSnd hh own cc nL d U ret q.1 q.2) (F : Nat)
    (body : ∀ av s0 N, sp av s0 N (fun _ _ => False) → argK av is (fun L => wp (lk T) (fun _ => none) U N (fun _ _ => False) F 0 0 L [] s0)) : HMet y cc nL ret hh d U sp := by
  intro l hl g ad K av s0 N h
  subst hcls
  subst his
  refine vx_ofWH hy rfl ?_
  intro p e s m args below meth c s₁ B hml hv
  obtain ⟨rfl, hGS, hGP⟩ := hv
  have hGN : GN s := hGS.2.2.2.1.2.1
  have hat := atoms_spec (ws := wsH y cc nL ret hh) B.pre
  have hC : HX g p l (headSpec (wsH y cc nL ret hh) (rmD d U)).room s m (av.map (cv ad)).toArray meth c y.cls cc nL d U ret (.codeWith y cc nL ret hh) hh :=
    ⟨⟨B.exec, B.bytes, hml, findClass_of_methodNamed B.named, hat⟩, hGS, B.notSynchronized, B.returns, rfl, hl, vx_table (x := y) B (hat _ List.mem_cons_self), hGN⟩
  have h1 := body av s0 N h
  have hQ : HQX g s (av.map (cv ad)).toArray below ad K N U (vx_MQ below (gQ g ad K N) rX (av.map (cv ad)).toArray s (U * cU) (U * sU) (gA g)) := fun t q => q
  obtain ⟨L, h3, h4⟩ := argK_ok (ad := ad) av 0 nL _ h1
  obtain ⟨h5, h6⟩ := argK_len av 0 nL _ h1
  have key := hwp_ok (e := e) hT hC hQ F 0 0 L [] s0 h3
  rw [lg_entry_eq]
  have hlen : (lg_sl (av.map (cv ad))).length ≤ nL := by rw [lgsl_len av h6]; exact h5
  have hlv := lv_entry (av.map (cv ad)) hlen
  have k2 := key ad K Ex.rf s.heap [] _ hGP va_S.rf (by rw [h4]; exact hlv)
  rw [Nat.zero_mul, Nat.zero_mul] at k2
  exact k2
section HOps
variable {hh : HH} {own : String} {cc : ByteArray} {nL d U : Nat} {ret : Option FieldType} {pc nx : Nat}
theorem hk_iconst {n : Int} {v : Int32} (hd : decode cc pc = .ok (.iconst n, 1)) (hv : Int32.ofInt n = v) (hn : pc + 1 = nx) : HSnd hh own cc nL d U ret pc (op_ic v nx) := by
  intro g p l e R s m args below meth c w0 hC ad0 K0 N Q hQ ad K hE k hk u L st s0 h
  subst hn
  intro H locs ls hP hS hl
  exact lv_iconst hC.1.1 hC.1.2.1 hd hv (hk _ _ _ _ _ h H locs ls hP hS hl)
theorem hk_iload {i : Nat} (hd : decode cc pc = .ok (.iload i, 2)) (hn : pc + 2 = nx) : HSnd hh own cc nL d U ret pc (op_il i nx) := by
  intro g p l e R s m args below meth c w0 hC ad0 K0 N Q hQ ad K hE k hk u L st s0 h
  subst hn
  intro H locs ls hP hS hl
  unfold op_il at h
  split at h
  · rename_i x hx
    exact lv_iload hC.1.1 hC.1.2.1 hd (getL_at hl hx) (hk _ _ _ _ _ h H locs ls hP hS hl)
  · exact h.elim
theorem hk_iload_n {q : Fin 4} {i : Nat} (hd : decode cc pc = .ok (.iload_n q, 1)) (hi : (q : Nat) = i) (hn : pc + 1 = nx) : HSnd hh own cc nL d U ret pc (op_il i nx) := by
  intro g p l e R s m args below meth c w0 hC ad0 K0 N Q hQ ad K hE k hk u L st s0 h
  subst hn
  intro H locs ls hP hS hl
  unfold op_il at h
  split at h
  · rename_i x hx
    exact lv_iload_n hC.1.1 hC.1.2.1 hd hi (getL_at hl hx) (hk _ _ _ _ _ h H locs ls hP hS hl)
  · exact h.elim
theorem hk_aload {i : Nat} (hd : decode cc pc = .ok (.aload i, 2)) (hn : pc + 2 = nx) : HSnd hh own cc nL d U ret pc (op_al i nx) := by
  intro g p l e R s m args below meth c w0 hC ad0 K0 N Q hQ ad K hE k hk u L st s0 h
  subst hn
  intro H locs ls hP hS hl
  unfold op_al at h
  split at h
  · rename_i x hx
    exact lv_aload hC.1.1 hC.1.2.1 hd (getL_at hl hx) (hk _ _ _ _ _ h H locs ls hP hS hl)
  · exact h.elim
theorem hk_aload_n {q : Fin 4} {i : Nat} (hd : decode cc pc = .ok (.aload_n q, 1)) (hi : (q : Nat) = i) (hn : pc + 1 = nx) : HSnd hh own cc nL d U ret pc (op_al i nx) := by
  intro g p l e R s m args below meth c w0 hC ad0 K0 N Q hQ ad K hE k hk u L st s0 h
  subst hn
  intro H locs ls hP hS hl
  unfold op_al at h
  split at h
  · rename_i x hx
    exact lv_aload_n hC.1.1 hC.1.2.1 hd hi (getL_at hl hx) (hk _ _ _ _ _ h H locs ls hP hS hl)
  · exact h.elim
theorem hk_if_eq {off : Int} {tg : Nat} (hd : decode cc pc = .ok (.ifCond .eq off, 3)) (ht : (pc : Int) + off = (tg : Int)) (hn : pc + 3 = nx) : HSnd hh own cc nL d U ret pc (op_if (fun x => x = 0) tg nx) := by
  intro g p l e R s m args below meth c w0 hC ad0 K0 N Q hQ ad K hE k hk u L st s0 h
  subst hn
  intro H locs ls hP hS hl
  unfold op_if at h
  split at h
  · exact lv_if_eq hC.1.1 hC.1.2.1 hd ht (fun q => hk _ _ _ _ _ (h.1 q) H locs ls hP hS hl) (fun q => hk _ _ _ _ _ (h.2 (by first | exact q | simpa using q)) H locs ls hP hS hl)
  · exact h.elim
theorem hk_bipush {n : Int} {v : Int32} (hd : decode cc pc = .ok (.bipush n, 2)) (hv : (Int8.ofInt n).toInt32 = v) (hn : pc + 2 = nx) : HSnd hh own cc nL d U ret pc (op_ic v nx) := by
  intro g p l e R s m args below meth c w0 hC ad0 K0 N Q hQ ad K hE k hk u L st s0 h
  subst hn
  intro H locs ls hP hS hl
  exact lv_bipush hC.1.1 hC.1.2.1 hd hv (hk _ _ _ _ _ h H locs ls hP hS hl)
theorem hk_ldc {n : Nat} {v : Int32} (hw : Cond.constant own n v ∈ TB) (hd : decode cc pc = .ok (.ldc n, 2)) (hn : pc + 2 = nx) : HSnd hh own cc nL d U ret pc (op_ic v nx) := by
  intro g p l e R s m args below meth c w0 hC ad0 K0 N Q hQ ad K hE k hk u L st s0 h
  subst hn
  intro H locs ls hP hS hl
  exact lv_ldc hC.1.1 hC.1.2.1 hC.1.2.2.2.1 (hC.1.2.2.2.2 _ (List.mem_cons_of_mem _ hw)) hd (hk _ _ _ _ _ h H locs ls hP hS hl)
theorem hk_if_ne {off : Int} {tg : Nat} (hd : decode cc pc = .ok (.ifCond .ne off, 3)) (ht : (pc : Int) + off = (tg : Int)) (hn : pc + 3 = nx) : HSnd hh own cc nL d U ret pc (op_if (fun x => ¬ x = 0) tg nx) := by
  intro g p l e R s m args below meth c w0 hC ad0 K0 N Q hQ ad K hE k hk u L st s0 h
  subst hn
  intro H locs ls hP hS hl
  unfold op_if at h
  split at h
  · exact lv_if_ne hC.1.1 hC.1.2.1 hd ht (fun q => hk _ _ _ _ _ (h.1 q) H locs ls hP hS hl) (fun q => hk _ _ _ _ _ (h.2 (by first | exact q | simpa using q)) H locs ls hP hS hl)
  · exact h.elim
theorem hk_icmp_ne {off : Int} {tg : Nat} (hd : decode cc pc = .ok (.if_icmp .ne off, 3)) (ht : (pc : Int) + off = (tg : Int)) (hn : pc + 3 = nx) : HSnd hh own cc nL d U ret pc (op_cmp (fun x y => ¬ x = y) tg nx) := by
  intro g p l e R s m args below meth c w0 hC ad0 K0 N Q hQ ad K hE k hk u L st s0 h
  subst hn
  intro H locs ls hP hS hl
  unfold op_cmp at h
  split at h
  · exact lv_icmp_ne hC.1.1 hC.1.2.1 hd ht (fun q => hk _ _ _ _ _ (h.1 q) H locs ls hP hS hl) (fun q => hk _ _ _ _ _ (h.2 (by first | exact q | simpa using q)) H locs ls hP hS hl)
  · exact h.elim
theorem hk_goto {off : Int} {tg : Nat} (hd : decode cc pc = .ok (.goto off, 3)) (ht : (pc : Int) + off = (tg : Int)) : HSnd hh own cc nL d U ret pc (op_go tg) := by
  intro g p l e R s m args below meth c w0 hC ad0 K0 N Q hQ ad K hE k hk u L st s0 h
  intro H locs ls hP hS hl
  exact lv_goto hC.1.1 hC.1.2.1 hd ht (hk _ _ _ _ _ h H locs ls hP hS hl)
theorem hk_ireturn (hr : ret = some .int) (hd : decode cc pc = .ok (.ireturn, 1)) : HSnd hh own cc nL d U ret pc op_iret := by
  intro g p l e R s m args below meth c w0 hC ad0 K0 N Q hQ ad K hE k hk u L st s0 h
  intro H locs ls hP hS hl
  unfold op_iret at h
  split at h
  · rename_i v
    refine W.mono hQ (W.widen (Nat.mul_le_mul_right _ h.1) (Nat.mul_le_mul_right _ h.1) (vx_ret ?_))
    exact W.iret hC.1.1 hC.1.2.1 (by rw [hC.2.2.2.1, hr]) (fun t ht hw => aQ_g hE (aQ_ret (v := some (aI v)) hP hS h.2 t ht hw)) hS.2.2 hd hC.2.2.1
  · exact h.elim
/-- a handler: its exception, its class's place in the constants, where it begins, the local that takes the exception, where it goes on -/
abbrev HE : Type := Nat × Nat × Nat × Nat × Nat
def hlk : List HE → Nat → Option Nat
  | [], _ => none
  | h :: r, x => bif Nat.beq h.1 x then some h.2.2.2.2 else hlk r x
def hTab (en : Nat) (hs : List HE) : HH := hs.map (fun h => (0, en, h.2.2.1, h.2.1))
/-- what is asked of each handler -/
def HOk (own : String) (cc : ByteArray) (nL : Nat) (h : HE) : Prop := (1 ≤ h.1 ∧ h.1 ≤ 3) ∧ ¬ h.2.1 = 0 ∧ Cond.classLink own h.2.1 (exn h.1) ∈ TB ∧ Cond.castable (exn h.1) (exn h.1) ∈ XW ∧ h.2.2.2.1 < nL ∧
  ((∃ q : Fin 4, decode cc h.2.2.1 = .ok (.astore_n q, 1) ∧ (q : Nat) = h.2.2.2.1 ∧ h.2.2.1 + 1 = h.2.2.2.2) ∨ (decode cc h.2.2.1 = .ok (.astore h.2.2.2.1, 2) ∧ h.2.2.1 + 2 = h.2.2.2.2))
theorem hlk_at : ∀ {hs : List HE} {x pc' : Nat}, hlk hs x = some pc' → ∃ pre h suf, hs = pre ++ h :: suf ∧ h.1 = x ∧ h.2.2.2.2 = pc' ∧ ∀ z ∈ pre, ¬ z.1 = x
  | [], _, _, h => nomatch h
  | h :: r, x, pc', hx => by
    unfold hlk at hx
    cases hb : Nat.beq h.1 x with
    | true =>
      rw [hb, cond_true] at hx
      exact ⟨[], h, r, rfl, Nat.eq_of_beq_eq_true hb, Option.some.inj hx, fun z hz => nomatch hz⟩
    | false =>
      rw [hb, cond_false] at hx
      obtain ⟨pre, h', suf, e1, e2, e3, e4⟩ := hlk_at hx
      exact ⟨h :: pre, h', suf, by rw [e1]; rfl, e2, e3, fun z hz => (List.mem_cons.mp hz).elim (fun e => by rw [e]; exact Nat.ne_of_beq_eq_false hb) (e4 z)⟩
/-- a store of the thrown -/
theorem hk_store {g : GPm} {p : Program} {l : Launch} {e : Env} {R : Room} {s : State} {m : MethodId} {args : Array Value} {below : List Frame} {meth : Method} {c : Code} {H : Heap} {locs : List Loc} {cells slots : Nat} {Q : State → Prop} {ls : Array Slot} {q : Nat} {h : HE}
    (hexec : p.tables.exec = Jvm.exec) (hb : c.code = cc) (hl : ls.size = nL ∧ lv_wf ls) (hslot : h.2.2.2.1 < nL)
    (hd : (∃ q : Fin 4, decode cc h.2.2.1 = .ok (.astore_n q, 1) ∧ (q : Nat) = h.2.2.2.1 ∧ h.2.2.1 + 1 = h.2.2.2.2) ∨ (decode cc h.2.2.1 = .ok (.astore h.2.2.2.1, 2) ∧ h.2.2.1 + 2 = h.2.2.2.2))
    (kk : ∀ ls' : Array Slot, lv_has ls' nL [] → W p l e R s m args below meth c H locs cells slots Q (F0 m h.2.2.2.2 ls' [])) : W p l e R s m args below meth c H locs cells slots Q (F0 m h.2.2.1 ls [.ref q]) := by
  have hl0 : lv_has ls nL [] := ⟨hl.1, hl.2, fun z hz => nomatch hz⟩
  rcases hd with ⟨q4, hd, hq4, he⟩ | ⟨hd, he⟩
  · exact lv_astore_n hexec hb hd hq4 hl0 hslot rfl (fun ls' hl' => by rw [he]; exact kk ls' ⟨hl'.1, hl'.2.1, fun z hz => nomatch hz⟩)
  · exact lv_astore hexec hb hd hl0 hslot rfl (fun ls' hl' => by rw [he]; exact kk ls' ⟨hl'.1, hl'.2.1, fun z hz => nomatch hz⟩)
/-- the thrown is caught by its handler -/
theorem hk_catch {en : Nat} {hs : List HE} {g : GPm} {p : Program} {l : Launch} {e : Env} {R : Room} {s : State} {m : MethodId} {args : Array Value} {below : List Frame} {meth : Method} {c : Code} {w0 : Cond}
    (hC : HX g p l R s m args meth c own cc nL d U ret w0 (hTab en hs)) (hok : ∀ h ∈ hs, HOk own cc nL h) (hen : pc < en) {x pc' : Nat} (hx : hlk hs x = some pc')
    {H : Heap} {locs : List Loc} {cells slots : Nat} {Q : State → Prop} {ls : Array Slot} {rest : List Value} {q : Addr} {ce : Cell} (hl : ls.size = nL ∧ lv_wf ls)
    (hcell : H[q]? = some ce) (hv : ce.vm = .none) (hcl : s.vm.findClass (exn x) = some ce.cls)
    (kk : ∀ ls' : Array Slot, lv_has ls' nL [] → W p l e R s m args below meth c H locs cells slots Q (F0 m pc' ls' [])) : vx_W p l e R s m args below meth c H locs cells slots Q (F0 m pc ls rest) q := by
  obtain ⟨pre, h, suf, e1, rfl, rfl, hpre⟩ := hlk_at hx
  have ho := hok h (by rw [e1]; exact List.mem_append_right _ List.mem_cons_self)
  have ht : ∀ w ∈ TB, w.before args s = true := fun w hw => hC.1.2.2.2.2 w (List.mem_cons_of_mem _ hw)
  refine vx_catch (own := own) (name := exn h.1) (E := exn h.1) hC.1.2.2.2.1 ((pre.map (fun h => (0, en, h.2.2.1, h.2.1))).map fun q => ⟨q.1, q.2.1, q.2.2.1, q.2.2.2⟩) ⟨0, en, h.2.2.1, h.2.1⟩ ((suf.map (fun h => (0, en, h.2.2.1, h.2.1))).map fun q => ⟨q.1, q.2.1, q.2.2.1, q.2.2.2⟩) ?_ ?_ ?_ ho.2.1 (ht _ ho.2.2.1) (va_Nw.use (XW_tab ho.2.2.2.1) (hC.2.1.2.2.2.2.1 _ ho.2.2.2.1)) hcell hv hcl ?_
  · rw [hC.2.2.2.2.2.2.1, e1]
    unfold tableOf hTab
    simp
  · intro z hz
    obtain ⟨z1, hz1, rfl⟩ := List.mem_map.mp hz
    obtain ⟨z2, hz2, rfl⟩ := List.mem_map.mp hz1
    have hoz := hok z2 (by rw [e1]; exact List.mem_append_left _ hz2)
    exact Or.inr ⟨hoz.2.1, exn z2.1, ht _ hoz.2.2.1, hC.2.2.2.2.2.2.2 _ _ ho.1.1 ho.1.2 hoz.1.1 hoz.1.2 (fun hc => hpre z2 hz2 hc.symm)⟩
  · simp [covers, hen]
  · exact hk_store (g := g) hC.1.1 hC.1.2.1 hl ho.2.2.2.2.1 ho.2.2.2.2.2 kk
def op_callHV (ci : Nat) (sp : Spc) (n w nx : Nat) (hs : List HE) : Sem := fun U k _ _ u L st s => popK n [] st (fun as st' => match as with
  | .inl (.inr (t, i)) :: _ => bif isO ci t then (Lv s t i ∧ u + w ≤ U ∧ catS st' ≤ 8 ∧ ∃ (N0 : Nt) (X0 : Xt), sp as s N0 X0 ∧ (∀ r s', N0 r s' → match r with
    | some v => k nx (u + w) L (v :: st') s'
    | none => k nx (u + w) L st' s') ∧ (∀ x s', X0 x s' → match hlk hs x with
    | some pc' => k pc' (u + w) [] [] s'
    | none => False)) else False
  | _ => False)
theorem hk_invokevirtual {C : String} {T : u_T} {y : MethodName} {bytes : ByteArray} {nL' d' w n idx ci nf en : Nat} {ret' : Option FieldType} {sp : Spc} {hs : List HE} (hM : AMet y bytes nL' ret' d' w sp) (hok : ∀ h ∈ hs, HOk own cc nL h) (hen : pc < en) (hc : vwCl[ci]? = some (C, T, nf))
    (h1 : Cond.methodLink own idx y ∈ TB) (h2 : Cond.instanceMethod y ∈ TB) (h3 : Cond.selects C y y ∈ TB) (h5 : Cond.initialized C ∈ TB) (h4 : Cond.code y bytes nL' ret' ∈ TB)
    (hy : y.cls = C ∧ y.cls ≠ "java/lang/invoke/MethodHandle" ∧ y.cls ≠ "java/lang/invoke/VarHandle" ∧ (parseMethodDescriptor y.desc).map (fun d => d.parameters.length) = some n) (hdd : d' + 1 ≤ d) (hl' : nL' ≤ 19)
    (hd : decode cc pc = .ok (.invokevirtual idx, 3)) (hn : pc + 3 = nx) : HSnd (hTab en hs) own cc nL d U ret pc (op_callHV ci sp (n + 1) w nx hs) := by
  intro g p l e R s m args below meth c w0 hC ad0 K0 N Q hQ ad K hE k hk u L st s0 h
  subst hn
  intro H locs ls hP hS hl
  obtain ⟨as, st', h, e1, e2⟩ := popK_ok h
  rw [List.append_nil] at h
  split at h
  · rename_i t i tl
    cases ho : isO ci t with
    | false => rw [ho] at h; exact h.elim
    | true =>
      rw [ho, cond_true] at h
      obtain ⟨hL, hu, hcat, N0, X0, hsp, hmN, hmX⟩ := h
      obtain ⟨N', hob⟩ := isO_ob ho
      obtain ⟨q0, ha, hK0⟩ := gws_at (g := g) (ad := ad) (s := s0) (hP.2.2.1 t i hL)
      rw [ent_ob hob] at ha
      have hrecv := va_recv hC.2.1.1 hP.1 hc ha
      have hC' := hC
      obtain ⟨hF, hGS, hlk2, hret, hR, hl0, htab⟩ := hC'
      subst hR
      have hG : GoodIn (w0 :: TB) (wsV own idx C y (wsM y bytes nL' ret')) := TB_in (by
        intro w hw
        simp only [wsV, wsM, List.cons_append, List.nil_append, List.mem_cons] at hw
        rcases hw with rfl | rfl | rfl | rfl | rfl | hw
        · exact h1
        · exact h2
        · exact h3
        · exact h5
        · exact h4
        · exact hw)
      have hr := (vx_runV (e := e) (meth := meth) (below := below) (locs := locs) (H := H) (C := C) (b := ad t i) (As := tl.map (cv ad)) (rest := st'.map (cv ad)) (g := F0 m pc ls (st.map (cv ad))) hF (hM l hl0 g ad K _ s0 _ _ hsp) (cwV n hF.2.2.2.2 hG rfl rfl rfl hy (rm_fit (U := U) hdd hl'))
        ⟨GP_blind, hrecv, fun U9 hU hW => ⟨rfl, GS_moved hGS hW (locs := locs) (by rw [hU]; exact hS), by rw [hU]; exact hP⟩⟩ rfl (by rw [List.length_map]; simpa using e2) hl.1 (by
          show st.map (cv ad) = (tl.map (cv ad)).reverse ++ .ref (ad t i) :: st'.map (cv ad)
          rw [e1, List.map_append, List.map_reverse]
          simp [cv, cL]) (lv_room (by rw [catS_ok]; exact hcat)) hd
        ⟨by show u * cU + w * cU ≤ U * cU; rw [← Nat.add_mul]; exact Nat.mul_le_mul_right _ hu, by show u * sU + w * sU ≤ U * sU; rw [← Nat.add_mul]; exact Nat.mul_le_mul_right _ hu⟩)
      intro T hT X0
      rcases hr T hT X0 with ⟨v, st₀, t1, T', L1, h0, X', hL1, e3, e4, ⟨⟨r, s', hv, hn, hgp⟩, hF1⟩, stp⟩ | ⟨q, st₀, t1, T', L1, E, ce, h0, X', hL1, e3, e4, ⟨⟨x, s', hx, hxx, hgp⟩, hF1⟩, hce, hcv, hcl, stp⟩
      · cases hv
        replace hn := hmN _ _ hn
        obtain ⟨k1, k2, k3⟩ := vx_keep h0 e3 hS (fun _ _ z => z) (fun _ z => z) hL1 hF1
        have kw : W p l e (rmD d U) s m args below meth c T'.heap (locs ++ L1) ((u + w) * cU) ((u + w) * sU) Q (F0 m (pc + 3) ls ((r.map (cv ad)).toList ++ st'.map (cv ad))) := by
          cases r with
          | none => exact hk _ _ _ _ _ hn T'.heap (locs ++ L1) ls (by rw [e3]; exact hgp) k3 hl
          | some v => exact hk _ _ _ _ _ hn T'.heap (locs ++ L1) ls (by rw [e3]; exact hgp) k3 hl
        rw [Nat.add_mul, Nat.add_mul] at kw
        obtain ⟨t2, a1, b1⟩ := kw T' rfl X'
        exact ⟨t2, stp t2 a1, b1⟩
      · subst hx
        replace hxx := hmX _ _ hxx
        obtain ⟨k1, k2, k3⟩ := vx_keep h0 e3 hS (fun _ _ z => z) (fun _ z => z) hL1 hF1
        split at hxx
        · rename_i pc' hpc'
          have ho := hk_catch (rest := st'.map (cv ad)) (H := T'.heap) (locs := locs ++ L1) (cells := u * cU + w * cU) (slots := u * sU + w * sU) (Q := Q) (e := e) (below := below) hC hok hen hpc' ⟨hl.1, hl.2.1⟩ (by rw [e3]; exact hce) hcv hcl (fun ls' hl' => by
            have kw := hk _ _ _ _ _ hxx T'.heap (locs ++ L1) ls' (by rw [e3]; exact hgp) k3 hl'
            rw [Nat.add_mul, Nat.add_mul] at kw
            exact kw)
          obtain ⟨t2, a1, b1⟩ := ho T' rfl X'
          exact ⟨t2, stp.trans a1, b1⟩
        · exact hxx.elim
  · exact h.elim
def op_callHS (sp : Spc) (n w nx : Nat) (hs : List HE) : Sem := fun U k _ _ u L st s => popK n [] st (fun as st' => u + w ≤ U ∧ catS st' ≤ 8 ∧ ∃ (N0 : Nt) (X0 : Xt), sp as s N0 X0 ∧ (∀ r s', N0 r s' → match r with
    | some v => k nx (u + w) L (v :: st') s'
    | none => k nx (u + w) L st' s') ∧ (∀ x s', X0 x s' → match hlk hs x with
    | some pc' => k pc' (u + w) [] [] s'
    | none => False))
theorem hk_invokestatic {y : MethodName} {bytes : ByteArray} {nL' d' w n idx en : Nat} {ret' : Option FieldType} {sp : Spc} {hs : List HE} (hM : AMet y bytes nL' ret' d' w sp) (hok : ∀ h ∈ hs, HOk own cc nL h) (hen : pc < en)
    (h1 : Cond.methodLink own idx y ∈ TB) (h2 : Cond.static y ∈ TB) (h3 : Cond.initialized y.cls ∈ TB) (h4 : Cond.code y bytes nL' ret' ∈ TB)
    (hy : y.cls ≠ "java/lang/invoke/MethodHandle" ∧ y.cls ≠ "java/lang/invoke/VarHandle" ∧ (parseMethodDescriptor y.desc).map (fun d => d.parameters.length) = some n) (hdd : d' + 1 ≤ d) (hl' : nL' ≤ 19)
    (hd : decode cc pc = .ok (.invokestatic idx, 3)) (hn : pc + 3 = nx) : HSnd (hTab en hs) own cc nL d U ret pc (op_callHS sp n w nx hs) := by
  intro g p l e R s m args below meth c w0 hC ad0 K0 N Q hQ ad K hE k hk u L st s0 h
  subst hn
  intro H locs ls hP hS hl
  obtain ⟨as, st', ⟨hu, hcat, N0, X0, hsp, hmN, hmX⟩, e1, e2⟩ := popK_ok h
  rw [List.append_nil] at hsp
  have hC' := hC
  obtain ⟨hF, hGS, hlk2, hret, hR, hl0, htab⟩ := hC'
  subst hR
  have hG : GoodIn (w0 :: TB) (va_wsS own idx y (wsM y bytes nL' ret')) := TB_in (by
    intro w hw
    simp only [va_wsS, wsM, List.cons_append, List.nil_append, List.mem_cons] at hw
    rcases hw with rfl | rfl | rfl | rfl | hw
    · exact h1
    · exact h2
    · exact h3
    · exact h4
    · exact hw)
  have hr := (vx_runS (e := e) (meth := meth) (below := below) (locs := locs) (H := H) (g := F0 m pc ls (st.map (cv ad))) (As := as.map (cv ad)) (rest := st'.map (cv ad)) hF (hM l hl0 g ad K as s0 _ _ hsp) (va_cwS n hF.2.2.2.2 hG rfl rfl rfl hy (rm_fit (U := U) hdd hl'))
    ⟨GP_blind, fun U9 hU hW => ⟨rfl, GS_moved hGS hW (locs := locs) (by rw [hU]; exact hS), by rw [hU]; exact hP⟩⟩ rfl (by rw [List.length_map]; exact e2) hl.1 (by
      show st.map (cv ad) = (as.map (cv ad)).reverse ++ st'.map (cv ad)
      rw [e1, List.map_append, List.map_reverse]) (lv_room (by rw [catS_ok]; exact hcat)) hd
    ⟨by show u * cU + w * cU ≤ U * cU; rw [← Nat.add_mul]; exact Nat.mul_le_mul_right _ hu, by show u * sU + w * sU ≤ U * sU; rw [← Nat.add_mul]; exact Nat.mul_le_mul_right _ hu⟩)
  intro T hT X0
  rcases hr T hT X0 with ⟨v, st₀, t1, T', L1, h0, X', hL1, e3, e4, ⟨⟨r, s', hv, hn, hgp⟩, hF1⟩, stp⟩ | ⟨q, st₀, t1, T', L1, E, ce, h0, X', hL1, e3, e4, ⟨⟨x, s', hx, hxx, hgp⟩, hF1⟩, hce, hcv, hcl, stp⟩
  · cases hv
    replace hn := hmN _ _ hn
    obtain ⟨k1, k2, k3⟩ := vx_keep h0 e3 hS (fun _ _ z => z) (fun _ z => z) hL1 hF1
    have kw : W p l e (rmD d U) s m args below meth c T'.heap (locs ++ L1) ((u + w) * cU) ((u + w) * sU) Q (F0 m (pc + 3) ls ((r.map (cv ad)).toList ++ st'.map (cv ad))) := by
      cases r with
      | none => exact hk _ _ _ _ _ hn T'.heap (locs ++ L1) ls (by rw [e3]; exact hgp) k3 hl
      | some v => exact hk _ _ _ _ _ hn T'.heap (locs ++ L1) ls (by rw [e3]; exact hgp) k3 hl
    rw [Nat.add_mul, Nat.add_mul] at kw
    obtain ⟨t2, a1, b1⟩ := kw T' rfl X'
    exact ⟨t2, stp t2 a1, b1⟩
  · subst hx
    replace hxx := hmX _ _ hxx
    obtain ⟨k1, k2, k3⟩ := vx_keep h0 e3 hS (fun _ _ z => z) (fun _ z => z) hL1 hF1
    split at hxx
    · rename_i pc' hpc'
      have ho := hk_catch (rest := st'.map (cv ad)) (H := T'.heap) (locs := locs ++ L1) (cells := u * cU + w * cU) (slots := u * sU + w * sU) (Q := Q) (e := e) (below := below) hC hok hen hpc' ⟨hl.1, hl.2.1⟩ (by rw [e3]; exact hce) hcv hcl (fun ls' hl' => by
        have kw := hk _ _ _ _ _ hxx T'.heap (locs ++ L1) ls' (by rw [e3]; exact hgp) k3 hl'
        rw [Nat.add_mul, Nat.add_mul] at kw
        exact kw)
      obtain ⟨t2, a1, b1⟩ := ho T' rfl X'
      exact ⟨t2, stp.trans a1, b1⟩
    · exact hxx.elim
def op_callHGV (ci : Nat) (sp : Spc) (n w nx : Nat) (hs : List HE) : Sem := fun U k _ _ u L st s => popK n [] st (fun as st' => match as with
  | .inl (.inr (t, i)) :: _ => bif isO ci t then (Lv s t i ∧ u + w ≤ U ∧ catS st' ≤ 8 ∧ lvs s st' ∧ lvK s L (fun L' => ∃ (N0 : Nt) (X0 : Xt), sp as s N0 X0 ∧ (∀ r s', N0 r s' → match r with
    | some v => k nx (u + w) L' (v :: st') s'
    | none => k nx (u + w) L' st' s') ∧ (∀ x s', X0 x s' → match hlk hs x with
    | some pc' => k pc' (u + w) [] [] s'
    | none => False))) else False
  | _ => False)
theorem hk_invokevirtualG {C : String} {T : u_T} {y : MethodName} {bytes : ByteArray} {nL' d' w n idx ci nf en : Nat} {ret' : Option FieldType} {sp : Spc} {hs : List HE} (hM : GMet y bytes nL' ret' d' w sp) (hok : ∀ h ∈ hs, HOk own cc nL h) (hen : pc < en) (hc : vwCl[ci]? = some (C, T, nf))
    (h1 : Cond.methodLink own idx y ∈ TB) (h2 : Cond.instanceMethod y ∈ TB) (h3 : Cond.selects C y y ∈ TB) (h5 : Cond.initialized C ∈ TB) (h4 : Cond.code y bytes nL' ret' ∈ TB)
    (hy : y.cls = C ∧ y.cls ≠ "java/lang/invoke/MethodHandle" ∧ y.cls ≠ "java/lang/invoke/VarHandle" ∧ (parseMethodDescriptor y.desc).map (fun d => d.parameters.length) = some n) (hdd : d' + 1 ≤ d) (hl' : nL' ≤ 19)
    (hd : decode cc pc = .ok (.invokevirtual idx, 3)) (hn : pc + 3 = nx) : HGSnd (hTab en hs) own cc nL d U ret pc (op_callHGV ci sp (n + 1) w nx hs) := by
  intro g p l e R s m args below meth c w0 hC ad0 K0 N Q hQ k hk u L st s0 h ad K hE
  subst hn
  intro H locs ls hP hS hl
  obtain ⟨as, st', h, e1, e2⟩ := popK_ok h
  rw [List.append_nil] at h
  split at h
  · rename_i t i tl
    cases ho : isO ci t with
    | false => rw [ho] at h; exact h.elim
    | true =>
      rw [ho, cond_true] at h
      obtain ⟨hL, hu, hcat, hlv, hlk9⟩ := h
      obtain ⟨L', ⟨N0, X0, hsp, hmN, hmX⟩, hsub⟩ := lvK_ok hlk9
      obtain ⟨N', hob⟩ := isO_ob ho
      obtain ⟨q0, ha, hK0⟩ := gws_at (g := g) (ad := ad) (s := s0) (hP.2.2.1 t i hL)
      rw [ent_ob hob] at ha
      have hrecv := va_recv hC.2.1.1 hP.1 hc ha
      have hC' := hC
      obtain ⟨hF, hGS, hlk2, hret, hR, hl0, htab⟩ := hC'
      subst hR
      have hG : GoodIn (w0 :: TB) (wsV own idx C y (wsM y bytes nL' ret')) := TB_in (by
        intro w hw
        simp only [wsV, wsM, List.cons_append, List.nil_append, List.mem_cons] at hw
        rcases hw with rfl | rfl | rfl | rfl | rfl | hw
        · exact h1
        · exact h2
        · exact h3
        · exact h5
        · exact h4
        · exact hw)
      have hr := (vx_runV (e := e) (meth := meth) (below := below) (locs := locs) (H := H) (C := C) (b := ad t i) (As := tl.map (cv ad)) (rest := st'.map (cv ad)) (g := F0 m pc ls (st.map (cv ad))) hF (hM l hl0 g ad K _ s0 _ _ hsp) (cwV n hF.2.2.2.2 hG rfl rfl rfl hy (rm_fit (U := U) hdd hl'))
        ⟨GP_blind, hrecv, fun U9 hU hW => ⟨rfl, GS_moved hGS hW (locs := locs) (by rw [hU]; exact hS), by rw [hU]; exact hP⟩⟩ rfl (by rw [List.length_map]; simpa using e2) hl.1 (by
          show st.map (cv ad) = (tl.map (cv ad)).reverse ++ .ref (ad t i) :: st'.map (cv ad)
          rw [e1, List.map_append, List.map_reverse]
          simp [cv, cL]) (lv_room (by rw [catS_ok]; exact hcat)) hd
        ⟨by show u * cU + w * cU ≤ U * cU; rw [← Nat.add_mul]; exact Nat.mul_le_mul_right _ hu, by show u * sU + w * sU ≤ U * sU; rw [← Nat.add_mul]; exact Nat.mul_le_mul_right _ hu⟩)
      intro T hT X0
      rcases hr T hT X0 with ⟨v, st₀, t1, T', L1, h0, X', hL1, e3, e4, ⟨⟨ad', K', r, s', hE1, hv, hn, hgp⟩, hF1⟩, stp⟩ | ⟨q, st₀, t1, T', L1, E, ce, h0, X', hL1, e3, e4, ⟨⟨ad', K', x, s', hE1, hx, hxx, hgp⟩, hF1⟩, hce, hcv, hcl, stp⟩
      · cases hv
        replace hn := hmN _ _ hn
        obtain ⟨k1, k2, k3⟩ := vx_keep h0 e3 hS (fun _ _ z => z) (fun _ z => z) hL1 hF1
        have hl1 := has_mem hl (hsub hP.2.2.1 hE1 (gp_cc hP hgp))
        have kw : W p l e (rmD d U) s m args below meth c T'.heap (locs ++ L1) ((u + w) * cU) ((u + w) * sU) Q (F0 m (pc + 3) ls ((r.map (cv ad')).toList ++ st'.map (cv ad))) := by
          rw [lvs_ok hP.2.2.1 hE1 (gp_cc hP hgp) hlv]
          cases r with
          | none => exact hk _ _ _ _ _ hn ad' K' (hE.tr hE1) T'.heap (locs ++ L1) ls (by rw [e3]; exact hgp) k3 hl1
          | some v => exact hk _ _ _ _ _ hn ad' K' (hE.tr hE1) T'.heap (locs ++ L1) ls (by rw [e3]; exact hgp) k3 hl1
        rw [Nat.add_mul, Nat.add_mul] at kw
        obtain ⟨t2, a1, b1⟩ := kw T' rfl X'
        exact ⟨t2, stp t2 a1, b1⟩
      · subst hx
        replace hxx := hmX _ _ hxx
        obtain ⟨k1, k2, k3⟩ := vx_keep h0 e3 hS (fun _ _ z => z) (fun _ z => z) hL1 hF1
        split at hxx
        · rename_i pc' hpc'
          have ho := hk_catch (rest := st'.map (cv ad)) (H := T'.heap) (locs := locs ++ L1) (cells := u * cU + w * cU) (slots := u * sU + w * sU) (Q := Q) (e := e) (below := below) hC hok hen hpc' ⟨hl.1, hl.2.1⟩ (by rw [e3]; exact hce) hcv hcl (fun ls' hl' => by
            have kw := hk _ _ _ _ _ hxx ad' K' (hE.tr hE1) T'.heap (locs ++ L1) ls' (by rw [e3]; exact hgp) k3 hl'
            rw [Nat.add_mul, Nat.add_mul] at kw
            exact kw)
          obtain ⟨t2, a1, b1⟩ := ho T' rfl X'
          exact ⟨t2, stp.trans a1, b1⟩
        · exact hxx.elim
  · exact h.elim
end HOps

