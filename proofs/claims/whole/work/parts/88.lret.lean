/-! the law's end; what its walk stands on -/
def lwQ (below : List Frame) (s : State) : State → Prop := fun t => ∃ o, t.status = .running ∧ Ended t below o ∧ o = .returned (some (.int 1)) ∧ Jvm.D.Framed s o t [] 601024 7293034
section LRet
variable {g : GPm} {p : Program} {l : Launch} {e : Env} {R : Room} {s : State} {m : MethodId} {args : Array Value} {below : List Frame} {meth : Method} {c : Code}
theorem LR_ok (hx : p.tables.exec = Jvm.exec) (hb : c.code = code) (hr : meth.sig.returnType = ret) (hlocks : meth.locks = false) (hg2 : g.2.2 = s.heap.size) : LR g cL_law 150256 p l e R s m args below meth c (lwQ below s) := by
  intro pc hd H locs ls u hu hS
  refine va_forget (fun q hq => ?_) ?_
  · have h9 : g.2.2 ≤ q.base := hS.2.2 q hq
    omega
  · refine W.widen (k := 601024) (n := 7293034) ?_ ?_ ?_
    · show u * 4 ≤ 601024
      omega
    · show u * 24 ≤ 7293034
      omega
    · refine W.mono ?_ (W.zret (ty := .boolean) (v := 1) (Qc := fun _ _ o _ => o = .returned (some (.int 1))) (free := fun _ => False) hx hb hr rfl (fun _ _ _ => rfl) (fun q hq => absurd hq List.not_mem_nil) hd hlocks)
      rintro t ⟨o, h1, h2, h3, Lc, h4, h5⟩
      have hL : Lc = [] := by
        cases Lc with
        | nil => rfl
        | cons q r => exact (h5 q List.mem_cons_self).elim
      subst hL
      exact ⟨o, h1, h2, h3, h4⟩
theorem CX_law (hx : p.tables.exec = Jvm.exec) (hb : c.code = code) (hr : meth.sig.returnType = ret) (hml : c.maxLocals = 7) (hown : s.vm.findClass RL = some m.cls) (hts : ∀ w ∈ lw_tbl, w.before args s = true) (hlocks : meth.locks = false) (hl0 : l.stackTraces = false) (htab : ∀ x ∈ c.exceptionTable.toList, False) (hGS : GS g s) :
    CX g p l (rmD 15 150256) s m args meth c RL cL_law 7 15 150256 ret (.initialized RX4) := by
  refine ⟨⟨hx, hb, hml, hown, fun w hw => ?_⟩, hGS, hlocks, hr, rfl, hl0, htab⟩
  rcases List.mem_cons.mp hw with rfl | hw
  · exact tb_start hts _ (TB_mem (List.mem_of_getElem? (i := 43) (by decide +kernel)) rfl)
  · exact tb_start hts w hw
theorem room_law : (rmD 15 150256).frames ≤ room_1.frames ∧ (rmD 15 150256).locals ≤ room_1.locals ∧ (rmD 15 150256).cells ≤ room_1.cells ∧ (rmD 15 150256).slots ≤ room_1.slots := ⟨Nat.le_of_ble_eq_true rfl, Nat.le_of_ble_eq_true rfl, Nat.le_of_ble_eq_true rfl, Nat.le_of_ble_eq_true rfl⟩
end LRet

