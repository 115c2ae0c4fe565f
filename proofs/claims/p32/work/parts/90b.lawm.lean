/-! the law's main: its own machine -/
theorem room_low {s : State} {pl : Platform} {r r' : Room} (hf : r.frames ≤ r'.frames) (hl : r.locals ≤ r'.locals) (hc : r.cells ≤ r'.cells) (hs : r.slots ≤ r'.slots) (h : s.hasRoom pl r' = true) : s.hasRoom pl r = true := by
  simp only [State.hasRoom, Bool.and_eq_true, decide_eq_true_eq] at h ⊢
  obtain ⟨⟨⟨⟨h1, h2, h3, h4, h5, h6⟩, h7⟩, h8⟩, h9⟩ := h
  exact ⟨⟨⟨⟨by omega, by omega, by omega, by omega, by omega, h6⟩, by omega⟩, by omega⟩, h9⟩
theorem W_low {p : Program} {l : Launch} {e : Env} {R R' : Room} {s : State} {m : MethodId} {args : Array Value} {below : List Frame} {meth : Method} {c : Code} {H : Heap} {locs : List Loc} {cells slots : Nat} {Q : State → Prop} {f : JFrame}
    (hf : R'.frames ≤ R.frames) (hl : R'.locals ≤ R.locals) (hc : R'.cells ≤ R.cells) (hs : R'.slots ≤ R.slots) (k : W p l e R' s m args below meth c H locs cells slots Q f) : W p l e R s m args below meth c H locs cells slots Q f :=
  fun T hT X => k T hT { X with room := room_low hf hl hc hs X.room }
def LR (g : GPm) (cc : ByteArray) (U : Nat) (p : Program) (l : Launch) (e : Env) (R : Room) (s : State) (m : MethodId) (args : Array Value) (below : List Frame) (meth : Method) (c : Code) (Q : State → Prop) : Prop :=
  ∀ (pc : Nat), decode cc pc = .ok (.ireturn, 1) → ∀ (H : Heap) (locs : List Loc) (ls : Array Slot) (u : Nat), u ≤ U → va_S (gA g) s.heap H locs → W p l e R s m args below meth c H locs (u * cU) (u * sU) Q (F0 m pc ls [.int 1])
def LSnd (own : String) (cc : ByteArray) (nL d U : Nat) (ret : Option FieldType) (pc : Nat) (f : Sem) : Prop :=
  ∀ (g : GPm) (p : Program) (l : Launch) (e : Env) (R : Room) (s : State) (m : MethodId) (args : Array Value) (below : List Frame) (meth : Method) (c : Code) (w0 : Cond),
    CX g p l R s m args meth c own cc nL d U ret w0 → ∀ (ad0 : Nat → Nat → Nat) (K0 : List (Nat × Nat)) (Q : State → Prop), LR g cc U p l e R s m args below meth c Q →
    ∀ (k : Kt), (∀ pc' u' L' st' s', k pc' u' L' st' s' → GAW g p l e R s m args below meth c nL ad0 K0 Q pc' u' L' st' s') →
    ∀ u Lc st s1, f U k (fun _ _ => False) (fun _ _ => False) u Lc st s1 → GAW g p l e R s m args below meth c nL ad0 K0 Q pc u Lc st s1
theorem gqx_no {g : GPm} {s : State} {args : Array Value} {below : List Frame} {ad : Nat → Nat → Nat} {K : List (Nat × Nat)} {U : Nat} {Q : State → Prop} : GQX g s args below ad K (fun _ _ => False) (fun _ _ => False) U Q := by
  rintro t ⟨o, h1, h2, h3⟩
  rcases h3 with ⟨⟨⟨_, _, _, _, _, _, h, _⟩, _⟩, _⟩ | ⟨q, _, E, ce, L, ⟨⟨_, _, _, _, _, _, h, _⟩, _⟩, _⟩
  · exact h.elim
  · exact h.elim
theorem lsnd_g {own : String} {cc : ByteArray} {nL d U : Nat} {ret : Option FieldType} {pc : Nat} {f : Sem} (h : GSnd own cc nL d U ret pc f) : LSnd own cc nL d U ret pc f :=
  fun g p l e R s m args below meth c w0 hC ad0 K0 Q _ k hk u Lc st s1 hf => h g p l e R s m args below meth c w0 hC ad0 K0 _ _ Q gqx_no k hk u Lc st s1 hf
theorem lcons {own : String} {cc : ByteArray} {nL d U : Nat} {ret : Option FieldType} {pc : Nat} {f : Sem} {l : List (Nat × Sem)} (h : LSnd own cc nL d U ret pc f) (t : ∀ q ∈ l, LSnd own cc nL d U ret q.1 q.2) : ∀ q ∈ (pc, f) :: l, LSnd own cc nL d U ret q.1 q.2 := fun q hq => (List.mem_cons.mp hq).elim (fun e => by rw [e]; exact h) (t q)
theorem lapp {own : String} {cc : ByteArray} {nL d U : Nat} {ret : Option FieldType} {l l2 : List (Nat × Sem)} (h : ∀ q ∈ l, LSnd own cc nL d U ret q.1 q.2) (t : ∀ q ∈ l2, LSnd own cc nL d U ret q.1 q.2) : ∀ q ∈ l ++ l2, LSnd own cc nL d U ret q.1 q.2 := fun q hq => (List.mem_append.mp hq).elim (h q) (t q)
section LOps
variable {own : String} {cc : ByteArray} {nL d U : Nat} {ret : Option FieldType} {pc nx : Nat}
/-- the law's answer: true -/
def op_lret : Sem := fun U _ _ _ u _ st _ => match st with
  | [.inl (.inl v)] => u ≤ U ∧ v = 1
  | _ => False
theorem ok_lret (hd : decode cc pc = .ok (.ireturn, 1)) : LSnd own cc nL d U ret pc op_lret := by
  intro g p l e R s m args below meth c w0 hC ad0 K0 Q hR k hk u Lc st s1 h ad K hE
  intro H locs ls hP hS hl
  unfold op_lret at h
  split at h
  · rename_i v
    obtain ⟨hu, rfl⟩ := h
    exact hR pc hd H locs ls u hu hS
  · exact h.elim
end LOps
section LRns
variable {g : GPm} {p : Program} {l : Launch} {e : Env} {R : Room} {s : State} {m : MethodId} {args : Array Value} {below : List Frame} {meth : Method} {c : Code}
variable {own : String} {cc : ByteArray} {nL d U : Nat} {ret : Option FieldType} {w0 : Cond} {ad : Nat → Nat → Nat} {K : List (Nat × Nat)} {Q : State → Prop}
theorem lwp_ok {T : List (Nat × Sem)} (hT : ∀ q ∈ T, LSnd own cc nL d U ret q.1 q.2) (hC : CX g p l R s m args meth c own cc nL d U ret w0) (hR : LR g cc U p l e R s m args below meth c Q)
    {C : Nat → Option (Nat → LC → List AV → Sg → Prop)} (hc : ∀ pc P, C pc = some P → ∀ u L st s0, P u L st s0 → GAW g p l e R s m args below meth c nL ad K Q pc u L st s0) :
    ∀ n pc u L st s0, wp (lk T) C U (fun _ _ => False) (fun _ _ => False) n pc u L st s0 → GAW g p l e R s m args below meth c nL ad K Q pc u L st s0 := by
  intro n
  induction n with
  | zero => intro pc u L st s0 h; exact h.elim
  | succ n ih =>
    intro pc u L st s0 h
    unfold wp at h
    cases h1 : C pc with
    | some P => rw [h1] at h; exact hc pc P h1 u L st s0 h
    | none =>
      rw [h1] at h
      cases h2 : lk T pc with
      | none => rw [h2] at h; exact h.elim
      | some f =>
        rw [h2] at h
        exact hT _ (lk_mem h2) g p l e R s m args below meth c w0 hC ad K Q hR _ ih u L st s0 h
theorem lwps_ok {T : List (Nat × Sem)} (hT : ∀ q ∈ T, LSnd own cc nL d U ret q.1 q.2) (hC : CX g p l R s m args meth c own cc nL d U ret w0) (hR : LR g cc U p l e R s m args below meth c Q)
    {C : Nat → Option (Nat → LC → List AV → Sg → Prop)} (hc : ∀ pc P, C pc = some P → ∀ u L st s0, P u L st s0 → GAW g p l e R s m args below meth c nL ad K Q pc u L st s0) :
    ∀ n pc u L st s0, wps (lk T) C U (fun _ _ => False) (fun _ _ => False) n pc u L st s0 → GAW g p l e R s m args below meth c nL ad K Q pc u L st s0 := by
  intro n pc u L st s0 h
  unfold wps at h
  cases h2 : lk T pc with
  | none => rw [h2] at h; exact h.elim
  | some f =>
    rw [h2] at h
    exact hT _ (lk_mem h2) g p l e R s m args below meth c w0 hC ad K Q hR _ (lwp_ok hT hC hR hc n) u L st s0 h
theorem Rn_l {T : List (Nat × Sem)} (hT : ∀ q ∈ T, LSnd own cc nL d U ret q.1 q.2) (hC : CX g p l R s m args meth c own cc nL d U ret w0) (hR : LR g cc U p l e R s m args below meth c Q) : Rn T U (fun _ _ => False) (fun _ _ => False) (GAW g p l e R s m args below meth c nL ad K Q) :=
  ⟨fun _ n pc u L st s1 h => lwps_ok hT hC hR cutZ_ok n pc u L st s1 h, fun _ _ _ _ _ _ hs h ad K hE H locs ls hP hS hl => h ad K hE H locs ls hP hS (lvh_sub hs hl)⟩
end LRns
/-! the law's end; what its walk stands on -/
def lwQ (below : List Frame) (s : State) : State → Prop := fun t => ∃ o, t.status = .running ∧ Ended t below o ∧ o = .returned (some (.int 1)) ∧ Jvm.D.Framed s o t [] 600104 7301314
section LRet
variable {g : GPm} {p : Program} {l : Launch} {e : Env} {R : Room} {s : State} {m : MethodId} {args : Array Value} {below : List Frame} {meth : Method} {c : Code}
theorem LR_ok (hx : p.tables.exec = Jvm.exec) (hb : c.code = code) (hr : meth.sig.returnType = ret) (hlocks : meth.locks = false) (hg2 : g.2.2 = s.heap.size) : LR g cL_law 40000 p l e R s m args below meth c (lwQ below s) := by
  intro pc hd H locs ls u hu hS
  refine va_forget (fun q hq => ?_) ?_
  · have h9 : g.2.2 ≤ q.base := hS.2.2 q hq
    omega
  · refine W.widen (k := 600104) (n := 7301314) ?_ ?_ ?_
    · show u * 4 ≤ 600104
      omega
    · show u * 24 ≤ 7301314
      omega
    · refine W.mono ?_ (W.zret (ty := .boolean) (v := 1) (Qc := fun _ _ o _ => o = .returned (some (.int 1))) (free := fun _ => False) hx hb hr rfl (fun _ _ _ => rfl) (fun q hq => absurd hq List.not_mem_nil) hd hlocks)
      rintro t ⟨o, h1, h2, h3, Lc, h4, h5⟩
      have hL : Lc = [] := by
        cases Lc with
        | nil => rfl
        | cons q r => exact (h5 q List.mem_cons_self).elim
      subst hL
      exact ⟨o, h1, h2, h3, h4⟩
theorem CX_law (hx : p.tables.exec = Jvm.exec) (hb : c.code = code) (hr : meth.sig.returnType = ret) (hml : c.maxLocals = 20) (hown : s.vm.findClass RL = some m.cls) (hts : ∀ w ∈ lw_tbl, w.before args s = true) (hlocks : meth.locks = false) (hl0 : l.stackTraces = false) (htab : ∀ x ∈ c.exceptionTable.toList, False) (hGS : GS g s) :
    CX g p l (rmD 15 40000) s m args meth c RL cL_law 20 15 40000 ret (.initialized RX4) := by
  refine ⟨⟨hx, hb, hml, hown, fun w hw => ?_⟩, hGS, hlocks, hr, rfl, hl0, htab⟩
  rcases List.mem_cons.mp hw with rfl | hw
  · exact tb_start hts _ (TB_mem (List.mem_of_getElem? (i := 20) (by decide +kernel)) rfl)
  · exact tb_start hts w hw
theorem room_law : (rmD 15 40000).frames ≤ room_1.frames ∧ (rmD 15 40000).locals ≤ room_1.locals ∧ (rmD 15 40000).cells ≤ room_1.cells ∧ (rmD 15 40000).slots ≤ room_1.slots := ⟨Nat.le_of_ble_eq_true rfl, Nat.le_of_ble_eq_true rfl, Nat.le_of_ble_eq_true rfl, Nat.le_of_ble_eq_true rfl⟩
end LRet

