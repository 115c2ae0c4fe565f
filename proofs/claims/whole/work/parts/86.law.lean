/-! the law's own machine -/
theorem room_low {s : State} {pl : Platform} {r r' : Room} (hf : r.frames ≤ r'.frames) (hl : r.locals ≤ r'.locals) (hc : r.cells ≤ r'.cells) (hs : r.slots ≤ r'.slots) (h : s.hasRoom pl r' = true) : s.hasRoom pl r = true := by
  simp only [State.hasRoom, Bool.and_eq_true, decide_eq_true_eq] at h ⊢
  obtain ⟨⟨⟨⟨h1, h2, h3, h4, h5, h6⟩, h7⟩, h8⟩, h9⟩ := h
  exact ⟨⟨⟨⟨by omega, by omega, by omega, by omega, by omega, h6⟩, by omega⟩, by omega⟩, h9⟩
theorem W_low {p : Program} {l : Launch} {e : Env} {R R' : Room} {s : State} {m : MethodId} {args : Array Value} {below : List Frame} {meth : Method} {c : Code} {H : Heap} {locs : List Loc} {cells slots : Nat} {Q : State → Prop} {f : JFrame}
    (hf : R'.frames ≤ R.frames) (hl : R'.locals ≤ R.locals) (hc : R'.cells ≤ R.cells) (hs : R'.slots ≤ R.slots) (k : W p l e R' s m args below meth c H locs cells slots Q f) : W p l e R s m args below meth c H locs cells slots Q f :=
  fun T hT X => k T hT { X with room := room_low hf hl hc hs X.room }
def LX (L : Nat) (xs : Nat → Int32) (g : GPm) (s : State) : Prop := GN s ∧ (∃ b, va_X b L xs s s.heap ∧ b < s.heap.size ∧ g.2.1 74000 = b) ∧ g.2.2 = s.heap.size
def LR (g : GPm) (cc : ByteArray) (U : Nat) (p : Program) (l : Launch) (e : Env) (R : Room) (s : State) (m : MethodId) (args : Array Value) (below : List Frame) (meth : Method) (c : Code) (Q : State → Prop) : Prop :=
  ∀ (pc : Nat), decode cc pc = .ok (.ireturn, 1) → ∀ (H : Heap) (locs : List Loc) (ls : Array Slot) (u : Nat), u ≤ U → va_S (gA g) s.heap H locs → W p l e R s m args below meth c H locs (u * cU) (u * sU) Q (F0 m pc ls [.int 1])
def LSnd (L : Nat) (xs : Nat → Int32) (own : String) (cc : ByteArray) (nL d U : Nat) (ret : Option FieldType) (pc : Nat) (f : Sem) : Prop :=
  ∀ (g : GPm) (p : Program) (l : Launch) (e : Env) (R : Room) (s : State) (m : MethodId) (args : Array Value) (below : List Frame) (meth : Method) (c : Code) (w0 : Cond),
    CX g p l R s m args meth c own cc nL d U ret w0 → LX L xs g s → ∀ (ad0 : Nat → Nat → Nat) (K0 : List (Nat × Nat)) (Q : State → Prop), LR g cc U p l e R s m args below meth c Q →
    ∀ (k : Kt), (∀ pc' u' L' st' s', k pc' u' L' st' s' → GAW g p l e R s m args below meth c nL ad0 K0 Q pc' u' L' st' s') →
    ∀ u Lc st s1, f U k (fun _ _ => False) (fun _ _ => False) u Lc st s1 → GAW g p l e R s m args below meth c nL ad0 K0 Q pc u Lc st s1
theorem gqx_no {g : GPm} {s : State} {args : Array Value} {below : List Frame} {ad : Nat → Nat → Nat} {K : List (Nat × Nat)} {U : Nat} {Q : State → Prop} : GQX g s args below ad K (fun _ _ => False) (fun _ _ => False) U Q := by
  rintro t ⟨o, h1, h2, h3⟩
  rcases h3 with ⟨⟨⟨_, _, _, _, _, _, h, _⟩, _⟩, _⟩ | ⟨q, _, E, ce, L, ⟨⟨_, _, _, _, _, _, h, _⟩, _⟩, _⟩
  · exact h.elim
  · exact h.elim
theorem lsnd_g {L : Nat} {xs : Nat → Int32} {own : String} {cc : ByteArray} {nL d U : Nat} {ret : Option FieldType} {pc : Nat} {f : Sem} (h : GSnd own cc nL d U ret pc f) : LSnd L xs own cc nL d U ret pc f :=
  fun g p l e R s m args below meth c w0 hC _ ad0 K0 Q _ k hk u Lc st s1 hf => h g p l e R s m args below meth c w0 hC ad0 K0 _ _ Q gqx_no k hk u Lc st s1 hf
theorem lcons {L : Nat} {xs : Nat → Int32} {own : String} {cc : ByteArray} {nL d U : Nat} {ret : Option FieldType} {pc : Nat} {f : Sem} {l : List (Nat × Sem)} (h : LSnd L xs own cc nL d U ret pc f) (t : ∀ q ∈ l, LSnd L xs own cc nL d U ret q.1 q.2) : ∀ q ∈ (pc, f) :: l, LSnd L xs own cc nL d U ret q.1 q.2 := fun q hq => (List.mem_cons.mp hq).elim (fun e => by rw [e]; exact h) (t q)
theorem lwp_ok {L : Nat} {xs : Nat → Int32} {g : GPm} {p : Program} {l : Launch} {e : Env} {R : Room} {s : State} {m : MethodId} {args : Array Value} {below : List Frame} {meth : Method} {c : Code}
    {own : String} {cc : ByteArray} {nL d U : Nat} {ret : Option FieldType} {w0 : Cond} {ad : Nat → Nat → Nat} {K : List (Nat × Nat)} {Q : State → Prop} {T : List (Nat × Sem)} (hT : ∀ q ∈ T, LSnd L xs own cc nL d U ret q.1 q.2) (hC : CX g p l R s m args meth c own cc nL d U ret w0) (hX : LX L xs g s) (hR : LR g cc U p l e R s m args below meth c Q)
    {C : Nat → Option (Nat → LC → List AV → Sg → Prop)} (hc : ∀ pc P, C pc = some P → ∀ u L st s0, P u L st s0 → GAW g p l e R s m args below meth c nL ad K Q pc u L st s0) :
    ∀ n pc u L st s0, wp (lk T) C U (fun _ _ => False) (fun _ _ => False) n pc u L st s0 → GAW g p l e R s m args below meth c nL ad K Q pc u L st s0 := by
  intro n
  induction n with
  | zero => intro pc u L st s0 h; exact h.elim
  | succ n ih =>
    intro pc u L st s0 h
    unfold wp at h
    cases h1 : C pc with
    | some P => rw [h1] at h; exact hc pc P h1 u L st s0 h
    | none =>
      rw [h1] at h
      cases h2 : lk T pc with
      | none => rw [h2] at h; exact h.elim
      | some f =>
        rw [h2] at h
        exact hT _ (lk_mem h2) g p l e R s m args below meth c w0 hC hX ad K Q hR _ ih u L st s0 h
theorem HP_blind {g : GPm} {ad : Nat → Nat → Nat} {K : List (Nat × Nat)} {s0 : Sg} {av : List Value} : FrameBlind (va_Pc av (fun U => GS g U ∧ GN U ∧ GP g ad K s0 U.heap)) := by
  intro a U gg mk h
  obtain ⟨h1, h2, h3, h4⟩ := h
  have hb := GP_blind (g := g) (ad := ad) (K := K) (s0 := s0) (av := av) a U gg mk ⟨h1, h2, h4⟩
  exact ⟨hb.1, hb.2.1, GN_moved (U := U.calling gg mk a) h3 (Vm.Alike.refl U.vm), hb.2.2⟩
section LOps
variable {L : Nat} {xs : Nat → Int32} {own : String} {cc : ByteArray} {nL d U : Nat} {ret : Option FieldType} {pc nx : Nat}
/-- the script's ints -/
def op_sld (L : Nat) (xs : Nat → Int32) (nx : Nat) : Sem := fun _ k _ _ u Lc st s => match st with
  | .inl (.inl i) :: .inl (.inr (74, 0)) :: st' => Ib i L ∧ k nx u Lc (aI (xs i.toNatClampNeg) :: st') s
  | _ => False
theorem ok_sld (hd : decode cc pc = .ok (.iaload, 1)) (hn : pc + 1 = nx) : LSnd L xs own cc nL d U ret pc (op_sld L xs nx) := by
  intro g p l e R s m args below meth c w0 hC hX ad0 K0 Q hR k hk u Lc st s1 h ad K hE
  subst hn
  intro H locs ls hP hS hl
  obtain ⟨-, ⟨b, hXb, hbl, hb⟩, hg2⟩ := hX
  unfold op_sld at h
  split at h
  · rename_i i st'
    obtain ⟨hin, h⟩ := h
    rw [List.map_cons, List.map_cons, show cv ad (.inl (.inr (74, 0))) = .ref b from (congrArg Value.ref (gp_const hP (t := 74) 0 (by decide))).trans (by rw [← hb])]
    exact va_sld hC.1.1 hC.1.2.1 hXb hbl (show ¬ g.2.2 ≤ b by omega) hS (of_eq_true hin) hd (hk _ _ _ _ _ h ad K hE H locs ls hP hS hl)
  · exact h.elim
def op_slen (L : Nat) (nx : Nat) : Sem := fun _ k _ _ u Lc st s => match st with
  | .inl (.inr (74, 0)) :: st' => k nx u Lc (aI (nI L) :: st') s
  | _ => False
theorem ok_slen (hd : decode cc pc = .ok (.arraylength, 1)) (hn : pc + 1 = nx) : LSnd L xs own cc nL d U ret pc (op_slen L nx) := by
  intro g p l e R s m args below meth c w0 hC hX ad0 K0 Q hR k hk u Lc st s1 h ad K hE
  subst hn
  intro H locs ls hP hS hl
  obtain ⟨-, ⟨b, hXb, hbl, hb⟩, hg2⟩ := hX
  unfold op_slen at h
  split at h
  · rename_i st'
    rw [List.map_cons, show cv ad (.inl (.inr (74, 0))) = .ref b from (congrArg Value.ref (gp_const hP (t := 74) 0 (by decide))).trans (by rw [← hb])]
    exact va_slen hC.1.1 hC.1.2.1 hXb hbl (show ¬ g.2.2 ≤ b by omega) hS hd (hk _ _ _ _ _ h ad K hE H locs ls hP hS hl)
  · exact h.elim
/-- the law's answer: true -/
def op_lret : Sem := fun U _ _ _ u _ st _ => match st with
  | [.inl (.inl v)] => u ≤ U ∧ v = 1
  | _ => False
theorem ok_lret (hd : decode cc pc = .ok (.ireturn, 1)) : LSnd L xs own cc nL d U ret pc op_lret := by
  intro g p l e R s m args below meth c w0 hC hX ad0 K0 Q hR k hk u Lc st s1 h ad K hE
  intro H locs ls hP hS hl
  unfold op_lret at h
  split at h
  · rename_i v
    obtain ⟨hu, rfl⟩ := h
    exact hR pc hd H locs ls u hu hS
  · exact h.elim
/-- a call of one of the law's helpers -/
def op_callL (sp : Spc) (n w nx : Nat) : Sem := fun U k _ _ u Lc st s => popK n [] st (fun as st' => u + w ≤ U ∧ catS st' ≤ 8 ∧ lvs s st' ∧ lvK s Lc (fun L' => ∃ N0 : Nt, sp as s N0 (fun _ _ => False) ∧ ∀ r s', N0 r s' → match r with
  | some v => k nx (u + w) L' (v :: st') s'
  | none => k nx (u + w) L' st' s'))
theorem ok_callL {y : MethodName} {bytes : ByteArray} {nL' d' w n idx : Nat} {ret' : Option FieldType} {hh : HH} {sp : Spc} (hM : HMet y bytes nL' ret' hh d' w sp)
    (h1 : Cond.methodLink own idx y ∈ TB) (h2 : Cond.static y ∈ TB) (h3 : Cond.initialized y.cls ∈ TB) (h4 : Cond.codeWith y bytes nL' ret' hh ∈ TB)
    (hy : y.cls ≠ "java/lang/invoke/MethodHandle" ∧ y.cls ≠ "java/lang/invoke/VarHandle" ∧ (parseMethodDescriptor y.desc).map (fun d => d.parameters.length) = some n) (hdd : d' + 1 ≤ d) (hl' : nL' ≤ 19)
    (hd : decode cc pc = .ok (.invokestatic idx, 3)) (hn : pc + 3 = nx) : LSnd L xs own cc nL d U ret pc (op_callL sp n w nx) := by
  intro g p l e R s m args below meth c w0 hC hX ad0 K0 Q hR k hk u Lc st s1 h ad K hE
  subst hn
  intro H locs ls hP hS hl
  obtain ⟨as, st', ⟨hu, hcat, hlv, hlk9⟩, e1, e2⟩ := popK_ok h
  obtain ⟨L', ⟨N0, hsp, hmN⟩, hsub⟩ := lvK_ok hlk9
  rw [List.append_nil] at hsp
  have hC' := hC
  obtain ⟨hF, hGS, hlk, hret, hRR, hl0, htab⟩ := hC'
  subst hRR
  have hG : GoodIn (w0 :: TB) (va_wsS own idx y (wsH y bytes nL' ret' hh)) := TB_in (by
    intro w hw
    simp only [va_wsS, wsH, List.cons_append, List.nil_append, List.mem_cons] at hw
    rcases hw with rfl | rfl | rfl | rfl | hw
    · exact h1
    · exact h2
    · exact h3
    · exact h4
    · exact hw)
  have hr := vx_runSX (e := e) (meth := meth) (below := below) (locs := locs) (H := H) (g := F0 m pc ls (st.map (cv ad))) (As := as.map (cv ad)) (rest := st'.map (cv ad)) hF (hM l hl0 g ad K as s1 _ hsp) (vx_cwSW n hF.2.2.2.2 hG rfl rfl rfl hy (rm_fit (U := U) hdd hl'))
    ⟨HP_blind, fun U9 hU hW => ⟨rfl, GS_moved hGS hW (locs := locs) (by rw [hU]; exact hS), GN_moved hX.1 hW.alike, by rw [hU]; exact hP⟩⟩ rfl (by rw [List.length_map]; exact e2) hl.1 (by
      show st.map (cv ad) = (as.map (cv ad)).reverse ++ st'.map (cv ad)
      rw [e1, List.map_append, List.map_reverse]) (lv_room (by rw [catS_ok]; exact hcat)) hd
    ⟨by show u * cU + w * cU ≤ U * cU; rw [← Nat.add_mul]; exact Nat.mul_le_mul_right _ hu, by show u * sU + w * sU ≤ U * sU; rw [← Nat.add_mul]; exact Nat.mul_le_mul_right _ hu⟩
  intro T hT X0
  rcases hr T hT X0 with ⟨v, st₀, t1, T', L1, h0, X', hL1, e3, e4, ⟨⟨ad', K', r, s', hE1, hv, hn, hgp⟩, hF1⟩, stp⟩ | ⟨q, st₀, t1, T', L1, E, ce, h0, X', hL1, e3, e4, hx, -⟩
  · cases hv
    replace hn := hmN _ _ hn
    obtain ⟨k1, k2, k3⟩ := vx_keep h0 e3 hS (fun _ _ z => z) (fun _ z => z) hL1 hF1
    have hl1 := has_mem hl (hsub hP.2.2.1 hE1 (gp_cc hP hgp))
    have kw : W p l e (rmD d U) s m args below meth c T'.heap (locs ++ L1) ((u + w) * cU) ((u + w) * sU) Q (F0 m (pc + 3) ls ((r.map (cv ad')).toList ++ st'.map (cv ad))) := by
      rw [lvs_ok hP.2.2.1 hE1 (gp_cc hP hgp) hlv]
      cases r with
      | none => exact hk _ _ _ _ _ hn ad' K' (hE.tr hE1) T'.heap (locs ++ L1) ls (by rw [e3]; exact hgp) k3 hl1
      | some v => exact hk _ _ _ _ _ hn ad' K' (hE.tr hE1) T'.heap (locs ++ L1) ls (by rw [e3]; exact hgp) k3 hl1
    rw [Nat.add_mul, Nat.add_mul] at kw
    obtain ⟨t2, a1, b1⟩ := kw T' rfl X'
    exact ⟨t2, stp t2 a1, b1⟩
  · exact hx.elim
/-- a call of the model: any outcome, then what follows from it -/
def op_callVN (ci : Nat) (sp : Spc) (n w nx : Nat) : Sem := fun U k _ X u L st s => popK n [] st (fun as st' => match as with
  | .inl (.inr (t, i)) :: _ => bif isO ci t then (Lv s t i ∧ u + w ≤ U ∧ catS st' ≤ 8 ∧ ∃ N0 : Nt, sp as s N0 X ∧ ∀ r s', N0 r s' → match r with
    | some v => k nx (u + w) L (v :: st') s'
    | none => k nx (u + w) L st' s') else False
  | _ => False)
theorem ok_invokevirtualN {C : String} {T : u_T} {y : MethodName} {bytes : ByteArray} {nL' d' w n idx ci nf : Nat} {ret' : Option FieldType} {sp : Spc} (hM : AMet y bytes nL' ret' d' w sp) (hc : vwCl[ci]? = some (C, T, nf))
    (h1 : Cond.methodLink own idx y ∈ TB) (h2 : Cond.instanceMethod y ∈ TB) (h3 : Cond.selects C y y ∈ TB) (h5 : Cond.initialized C ∈ TB) (h4 : Cond.code y bytes nL' ret' ∈ TB)
    (hy : y.cls = C ∧ y.cls ≠ "java/lang/invoke/MethodHandle" ∧ y.cls ≠ "java/lang/invoke/VarHandle" ∧ (parseMethodDescriptor y.desc).map (fun d => d.parameters.length) = some n) (hdd : d' + 1 ≤ d) (hl' : nL' ≤ 19)
    (hd : decode cc pc = .ok (.invokevirtual idx, 3)) (hn : pc + 3 = nx) : Snd own cc nL d U ret pc (op_callVN ci sp (n + 1) w nx) := by
  intro g p l e R s m args below meth c w0 hC ad K N X Q hQ k hk u L st s0 h
  subst hn
  intro H locs ls hP hS hl
  obtain ⟨as, st', h, e1, e2⟩ := popK_ok h
  rw [List.append_nil] at h
  split at h
  · rename_i t i tl
    cases ho : isO ci t with
    | false => rw [ho] at h; exact h.elim
    | true =>
      rw [ho, cond_true] at h
      obtain ⟨hL, hu, hcat, N0, hsp, hmN⟩ := h
      obtain ⟨N', hob⟩ := isO_ob ho
      obtain ⟨q0, ha, hK0⟩ := gws_at (g := g) (ad := ad) (s := s0) (hP.2.2.1 t i hL)
      rw [ent_ob hob] at ha
      have hrecv := va_recv hC.2.1.1 hP.1 hc ha
      have hC' := hC
      obtain ⟨hF, hGS, hlk, hret, hR, hl0, htab⟩ := hC'
      subst hR
      have hG : GoodIn (w0 :: TB) (wsV own idx C y (wsM y bytes nL' ret')) := TB_in (by
        intro w hw
        simp only [wsV, wsM, List.cons_append, List.nil_append, List.mem_cons] at hw
        rcases hw with rfl | rfl | rfl | rfl | rfl | hw
        · exact h1
        · exact h2
        · exact h3
        · exact h5
        · exact h4
        · exact hw)
      refine run_ok hC hQ hu (vx_runV (C := C) (b := ad t i) (As := tl.map (cv ad)) (rest := st'.map (cv ad)) hF (hM l hl0 g ad K _ s0 _ X hsp) (cwV n hF.2.2.2.2 hG rfl rfl rfl hy (rm_fit hdd hl'))
        ⟨GP_blind, hrecv, fun U9 hU hW => ⟨rfl, GS_moved hGS hW (locs := locs) (by rw [hU]; exact hS), by rw [hU]; exact hP⟩⟩ rfl (by rw [List.length_map]; simpa using e2) hl.1 ?_ (lv_room (by rw [catS_ok]; exact hcat)) hd
        ⟨by show u * cU + w * cU ≤ U * cU; rw [← Nat.add_mul]; exact Nat.mul_le_mul_right _ hu, by show u * sU + w * sU ≤ U * sU; rw [← Nat.add_mul]; exact Nat.mul_le_mul_right _ hu⟩) hS ?_
      · show st.map (cv ad) = (tl.map (cv ad)).reverse ++ .ref (ad t i) :: st'.map (cv ad)
        rw [e1, List.map_append, List.map_reverse]
        simp [cv, cL]
      · intro v s' H1 locs1 hN hP1 hS1
        replace hN := hmN _ _ hN
        cases v with
        | none => exact hk _ _ _ _ _ hN H1 locs1 ls hP1 hS1 hl
        | some v => exact hk _ _ _ _ _ hN H1 locs1 ls hP1 hS1 hl
  · exact h.elim
end LOps

