/-! Object's constructor -/
theorem w_oc : (Cond.code Lib.objectInit ⟨#[0xb1]⟩ 1 none) ∈ TB := TB_mem (List.mem_of_getElem? (i := 54) (by decide +kernel)) rfl
theorem w_oi : (Cond.instanceMethod Lib.objectInit) ∈ TB := TB_mem (List.mem_of_getElem? (i := 53) (by decide +kernel)) rfl
def op_oinit (nx : Nat) : Sem := fun _ k _ _ u L st s => match st with
  | .inl (.inr (_, _)) :: st' => catS st' ≤ 8 ∧ k nx u L st' s
  | _ => False
theorem ok_oinit {own : String} {cc : ByteArray} {nL d U : Nat} {ret : Option FieldType} {pc nx idx : Nat} (h1 : Cond.methodLink own idx Lib.objectInit ∈ TB) (hdd : 1 ≤ d) (hd : decode cc pc = .ok (.invokespecial idx, 3)) (hn : pc + 3 = nx) : Snd own cc nL d U ret pc (op_oinit nx) := by
  intro g p l e R s m args below meth c w0 hC ad K N X Q hQ k hk u L st s0 h
  subst hn
  intro H locs ls hP hS hl
  unfold op_oinit at h
  split at h
  · obtain ⟨hcat, h⟩ := h
    have hR := hC.2.2.2.2.1
    have ht := hC.1.2.2.2.2
    subst hR
    refine W.objInit (g := F0 m pc ls _) hC.1.1 hC.1.2.1 (own := own) hC.1.2.2.2.1 (ht _ (List.mem_cons_of_mem _ h1)) (ht _ (List.mem_cons_of_mem _ w_oi)) (ht _ (List.mem_cons_of_mem _ w_oc)) rfl (by rw [hC.1.2.2.1]; exact hl.1) rfl hd hdd ?_ (hk _ _ _ _ _ h H locs ls hP hS hl)
    show 2 * 0 + _ + 12 ≤ 38 * d
    rw [catS_ok]
    omega
  · exact h.elim

