/-! the law's start -/
/-- the locals behind the start -/
abbrev lM : LC := [(0, .inr (74, 0)), (1, .inr (1, 0)), (2, .inr (20, 0)), (3, .inr (21, 0)), (4, .inr (22, 0)), (5, .inr (23, 0)), (6, .inr (24, 0)), (7, .inr (25, 0)), (8, .inr (26, 0)), (9, .inr (27, 0)), (10, .inr (28, 0)), (11, .inr (29, 0)), (12, .inr (30, 0))]
def A8 (g : GPm) (b : Nat) : Nat → LC → List AV → va_W → Prop := fun u L st w => ∃ (a q0 q1 q2 ql qs qd qf qe : Nat) (rs rd rf' : Nat → Nat), u = 71 ∧ L = [(0, .inr (74, b)), (1, .inr (0, a))] ∧ st = [] ∧ w = couW g (rwE g) a q0 q1 q2 ql qs qd qf qe rs rd rf'
def A71 (g : GPm) (b a : Nat) (W1 : va_W) : Nat → LC → List AV → va_W → Prop := fun u L st w => ∃ m20 m21 m22 m23 m24 m25 m26 m27 m28 m29 m30 : Nat, u = 88 ∧ L = [(0, .inr (74, b)), (1, .inr (0, a)), (2, .inr (0, m20)), (3, .inr (0, m21)), (4, .inr (0, m22)), (5, .inr (0, m23)), (6, .inr (0, m24)), (7, .inr (0, m25)), (8, .inr (0, m26)), (9, .inr (0, m27)), (10, .inr (0, m28)), (11, .inr (0, m29)), (12, .inr (0, m30))] ∧ st = [] ∧ w = W1 ++ rowW g m20 m21 m22 m23 m24 m25 m26 m27 m28 m29 m30
def C8 (g : GPm) (b : Nat) (pc : Nat) : Option (Nat → LC → List AV → va_W → Prop) := bif Nat.beq pc 8 then some (A8 g b) else none
def C71 (g : GPm) (b a : Nat) (W1 : va_W) (pc : Nat) : Option (Nat → LC → List AV → va_W → Prop) := bif Nat.beq pc 71 then some (A71 g b a W1) else none
set_option maxRecDepth 20000 in
theorem walk_8 {g : GPm} {b : Nat} : rwp g (rlk tabR_law) (C8 g b) 40000 (fun _ _ => False) 20 0 0 [(0, .inr (74, b))] [] [] :=
  ⟨Nat.le_of_ble_eq_true rfl, fun a => ⟨Nat.le_of_ble_eq_true rfl, Nat.le_of_ble_eq_true rfl, 0, rfl, fun q0 q1 q2 ql qs qd qf qe rs rd rf' => ⟨rfl, a, q0, q1, q2, ql, qs, qd, qf, qe, rs, rd, rf', rfl, rfl, rfl, rfl⟩⟩⟩
theorem app_1 {α : Type} {x : List α} {y : α} {l : List α} : x ++ (y :: l) = (x ++ [y]) ++ l := by simp
set_option maxRecDepth 20000 in
theorem walk_71 {g : GPm} {b a : Nat} {W1 : va_W} : rwps g (rlk tabR_law) (C71 g b a W1) 40000 (fun _ _ => False) 60 8 71 [(0, .inr (74, b)), (1, .inr (0, a))] [] W1 := by
  refine ⟨by decide, rfl, Nat.le_of_ble_eq_true rfl, fun m20 => ?_⟩
  refine ⟨by decide, rfl, Nat.le_of_ble_eq_true rfl, fun m21 => ?_⟩
  refine ⟨by decide, rfl, Nat.le_of_ble_eq_true rfl, fun m22 => ?_⟩
  refine ⟨by decide, rfl, Nat.le_of_ble_eq_true rfl, fun m23 => ?_⟩
  refine ⟨by decide, rfl, Nat.le_of_ble_eq_true rfl, fun m24 => ?_⟩
  refine ⟨by decide, rfl, Nat.le_of_ble_eq_true rfl, fun m25 => ?_⟩
  refine ⟨by decide, rfl, Nat.le_of_ble_eq_true rfl, fun m26 => ?_⟩
  refine ⟨by decide, rfl, Nat.le_of_ble_eq_true rfl, fun m27 => ?_⟩
  refine ⟨by decide, rfl, Nat.le_of_ble_eq_true rfl, fun m28 => ?_⟩
  refine ⟨by decide, rfl, Nat.le_of_ble_eq_true rfl, fun m29 => ?_⟩
  refine ⟨by decide, rfl, Nat.le_of_ble_eq_true rfl, fun m30 => ?_⟩
  refine ⟨m20, m21, m22, m23, m24, m25, m26, m27, m28, m29, m30, rfl, rfl, rfl, ?_⟩
  unfold rowW
  simp
section LSt
variable {g : GPm} {p : Program} {l : Launch} {e : Env} {s : State} {m : MethodId} {b : Nat} {below : List Frame} {meth : Method} {c : Code} {w0 : Cond} {Q : State → Prop}
theorem rqx_no {W0 : va_W} {args : Array Value} {U : Nat} : RQX g s args below W0 (fun _ _ => False) U Q := by
  rintro t ⟨o, h1, h2, h3⟩
  rcases h3 with ⟨⟨⟨_, _, _, h, _⟩, _⟩, _⟩ | ⟨q, _, E, ce, L, h, _⟩
  · exact h.elim
  · exact h.elim
theorem law_start (hC : CX g p l (rmD 15 40000) s m #[Value.ref b] meth c RL cL_law 20 15 40000 ret w0) (h2 : g.2.2 = s.heap.size) (hb : g.2.1 74000 = b)
    (kk : ∀ ad K, AW g p l e (rmD 15 40000) s m #[Value.ref b] below meth c 20 ad K Q 71 88 lM [] sta0) : W p l e (rmD 15 40000) s m #[Value.ref b] below meth c s.heap [] 0 0 Q (entryFrame m ([Value.ref b] : List Value).toArray 20) := by
  have key := rwp_ok (e := e) (below := below) (Q := Q) (W0 := []) (ini := false) (fun h => absurd h (by decide)) tokR_law hC rqx_no (C := C8 g b) (by
    intro pc P hP u L st w hw
    unfold C8 at hP
    cases hq : Nat.beq pc 8 with
    | false => rw [hq] at hP; cases hP
    | true =>
      rw [hq] at hP
      cases hP
      rw [Nat.eq_of_beq_eq_true hq]
      obtain ⟨a, q0, q1, q2, ql, qs, qd, qf, qe, rs, rd, rf', rfl, rfl, rfl, hw⟩ := hw
      obtain ⟨W1, hW⟩ : ∃ z, z = w := ⟨_, rfl⟩
      rw [← hW]
      refine rwps_ok (e := e) (below := below) (Q := Q) (W0 := []) (ini := false) (fun h => absurd h (by decide)) tokR_law hC rqx_no (C := C71 g b a W1) (fun pc P hP u L st w9 hw9 => ?_) 60 8 71 _ [] W1 walk_71
      unfold C71 at hP
      cases hq : Nat.beq pc 71 with
      | false => rw [hq] at hP; cases hP
      | true =>
        rw [hq] at hP
        cases hP
        rw [Nat.eq_of_beq_eq_true hq]
        obtain ⟨m20, m21, m22, m23, m24, m25, m26, m27, m28, m29, m30, rfl, rfl, rfl, rfl⟩ := hw9
        intro H locs ls hP hS hl
        rw [hW, hw] at hP
        refine kk (adF g a q0 q1 q2 ql qs qd qf qe rs rd rf' m20 m21 m22 m23 m24 m25 m26 m27 m28 m29 m30) stK H locs ls (st_GP hP) hS ?_
        have e0 : (lM.map (fun q => (q.1, cL (adF g a q0 q1 q2 ql qs qd qf qe rs rd rf' m20 m21 m22 m23 m24 m25 m26 m27 m28 m29 m30) q.2))) = [(0, Value.ref b), (1, .ref a), (2, .ref m20), (3, .ref m21), (4, .ref m22), (5, .ref m23), (6, .ref m24), (7, .ref m25), (8, .ref m26), (9, .ref m27), (10, .ref m28), (11, .ref m29), (12, .ref m30)] := by
          rw [← hb]
          rfl
        rw [e0]
        exact hl) 20 0 0 [(0, .inr (74, b))] [] [] walk_8
  rw [lg_entry_eq]
  have hlv := lv_entry (n := 20) [Value.ref b] (Nat.le_of_ble_eq_true rfl)
  have k2 := key s.heap [] _ ⟨fun k q hk => by simp at hk, ⟨fun i j p q hi => by simp at hi, fun k q hk => by simp at hk⟩, Nat.le_of_eq h2⟩ va_S.rf hlv
  rw [Nat.zero_mul, Nat.zero_mul] at k2
  exact k2
end LSt

