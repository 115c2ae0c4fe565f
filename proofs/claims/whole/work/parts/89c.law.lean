/-! the law's start -/
/-- the locals at the loop's head -/
def lp (n : Nat) : LC := [(0, .inr (74, 0)), (1, .inr (1, 0)), (2, .inr (20, 0)), (3, .inr (60, 0)), (4, .inl (nI (5 * n)))]
def A8 (g : GPm) (b : Nat) : Nat → LC → List AV → va_W → Prop := fun u L st w => ∃ (a q0 q1 q2 ql qs qd qf qe : Nat) (rs rd rf' : Nat → Nat), u = 71 ∧ L = [(0, .inr (74, b)), (1, .inr (0, a))] ∧ st = [] ∧ w = couW g (rwE g) a q0 q1 q2 ql qs qd qf qe rs rd rf'
def A23 (g : GPm) (b a : Nat) (W1 : va_W) : Nat → LC → List AV → va_W → Prop := fun u L st w => ∃ (b2 m2 m3 m4 m5 m6 m7 m8 m9 m10 m11 m13 m14 m15 m16 m17 m18 m19 m20 m22 m23 m24 m25 m26 m27 m28 m29 m31 q60 : Nat), u = 314 ∧ L = [(0, .inr (74, b)), (1, .inr (0, a)), (2, .inr (0, b2)), (3, .inr (0, q60)), (4, .inl 0)] ∧ st = [] ∧ w = W1 ++ modW g b2 m2 m3 m4 m5 m6 m7 m8 m9 m10 m11 m13 m14 m15 m16 m17 m18 m19 m20 m22 m23 m24 m25 m26 m27 m28 m29 m31 ++ [(q60, .inl (g.2.1 4, 1, .inr (.inl (fun _ => 0))))]
def C8 (g : GPm) (b : Nat) (pc : Nat) : Option (Nat → LC → List AV → va_W → Prop) := bif Nat.beq pc 8 then some (A8 g b) else none
def C23 (g : GPm) (b a : Nat) (W1 : va_W) (pc : Nat) : Option (Nat → LC → List AV → va_W → Prop) := bif Nat.beq pc 23 then some (A23 g b a W1) else none
set_option maxRecDepth 20000 in
theorem walk_8 {g : GPm} {b : Nat} : rwp g (rlk tabR_law) (C8 g b) 150256 (fun _ _ => False) 20 0 0 [(0, .inr (74, b))] [] [] :=
  ⟨Nat.le_of_ble_eq_true rfl, fun a => ⟨Nat.le_of_ble_eq_true rfl, Nat.le_of_ble_eq_true rfl, 0, rfl, fun q0 q1 q2 ql qs qd qf qe rs rd rf' => ⟨rfl, a, q0, q1, q2, ql, qs, qd, qf, qe, rs, rd, rf', rfl, rfl, rfl, rfl⟩⟩⟩
set_option maxRecDepth 20000 in
theorem walk_23 {g : GPm} {b a : Nat} {W1 : va_W} : rwps g (rlk tabR_law) (C23 g b a W1) 150256 (fun _ _ => False) 20 8 71 [(0, .inr (74, b)), (1, .inr (0, a))] [] W1 := by
  refine ⟨Nat.le_of_ble_eq_true rfl, fun b2 => ⟨Nat.le_of_ble_eq_true rfl, Nat.le_of_ble_eq_true rfl, W1.length, ?_⟩⟩
  rw [List.drop_left]
  refine ⟨rfl, rfl, fun m2 m3 m4 m5 m6 m7 m8 m9 m10 m11 m13 m14 m15 m16 m17 m18 m19 m20 m22 m23 m24 m25 m26 m27 m28 m29 m31 => ⟨rfl, ?_⟩⟩
  rw [List.take_left]
  exact ⟨by decide, rfl, Nat.le_of_ble_eq_true rfl, fun q60 => ⟨b2, m2, m3, m4, m5, m6, m7, m8, m9, m10, m11, m13, m14, m15, m16, m17, m18, m19, m20, m22, m23, m24, m25, m26, m27, m28, m29, m31, q60, rfl, rfl, rfl, rfl⟩⟩
section LSt
variable {g : GPm} {p : Program} {l : Launch} {e : Env} {s : State} {m : MethodId} {b : Nat} {below : List Frame} {meth : Method} {c : Code} {w0 : Cond} {Q : State → Prop}
theorem rqx_no {W0 : va_W} {args : Array Value} {U : Nat} : RQX g s args below W0 (fun _ _ => False) U Q := by
  rintro t ⟨o, h1, h2, h3⟩
  rcases h3 with ⟨⟨⟨_, _, _, h, _⟩, _⟩, _⟩ | ⟨q, _, E, ce, L, h, _⟩
  · exact h.elim
  · exact h.elim
theorem law_start (hC : CX g p l (rmD 15 150256) s m #[Value.ref b] meth c RL cL_law 7 15 150256 ret w0) (h2 : g.2.2 = s.heap.size) (hb : g.2.1 74000 = b)
    (kk : ∀ ad K, AW g p l e (rmD 15 150256) s m #[Value.ref b] below meth c 7 ad K Q 23 314 (lp 0) [] sta0) : W p l e (rmD 15 150256) s m #[Value.ref b] below meth c s.heap [] 0 0 Q (entryFrame m ([Value.ref b] : List Value).toArray 7) := by
  have key := rwp_ok (e := e) (below := below) (Q := Q) (W0 := []) (ini := false) (fun h => absurd h (by decide)) tokR_law hC rqx_no (C := C8 g b) (by
    intro pc P hP u L st w hw
    unfold C8 at hP
    cases hq : Nat.beq pc 8 with
    | false => rw [hq] at hP; cases hP
    | true =>
      rw [hq] at hP
      cases hP
      rw [Nat.eq_of_beq_eq_true hq]
      obtain ⟨a, q0, q1, q2, ql, qs, qd, qf, qe, rs, rd, rf', rfl, rfl, rfl, hw⟩ := hw
      obtain ⟨W1, hW⟩ : ∃ z, z = w := ⟨_, rfl⟩
      rw [← hW]
      refine rwps_ok (e := e) (below := below) (Q := Q) (W0 := []) (ini := false) (fun h => absurd h (by decide)) tokR_law hC rqx_no (C := C23 g b a W1) (fun pc P hP u L st w9 hw9 => ?_) 20 8 71 _ [] W1 walk_23
      unfold C23 at hP
      cases hq : Nat.beq pc 23 with
      | false => rw [hq] at hP; cases hP
      | true =>
        rw [hq] at hP
        cases hP
        rw [Nat.eq_of_beq_eq_true hq]
        obtain ⟨b2, m2, m3, m4, m5, m6, m7, m8, m9, m10, m11, m13, m14, m15, m16, m17, m18, m19, m20, m22, m23, m24, m25, m26, m27, m28, m29, m31, q60, rfl, rfl, rfl, rfl⟩ := hw9
        intro H locs ls hP hS hl
        rw [hW, hw] at hP
        refine kk (adF g a q0 q1 q2 ql qs qd qf qe rs rd rf' b2 m2 m3 m4 m5 m6 m7 m8 m9 m10 m11 m13 m14 m15 m16 m17 m18 m19 m20 m22 m23 m24 m25 m26 m27 m28 m29 m31 q60) stK H locs ls (st_GP hP) hS ?_
        have e0 : ((lp 0).map (fun q => (q.1, cL (adF g a q0 q1 q2 ql qs qd qf qe rs rd rf' b2 m2 m3 m4 m5 m6 m7 m8 m9 m10 m11 m13 m14 m15 m16 m17 m18 m19 m20 m22 m23 m24 m25 m26 m27 m28 m29 m31 q60) q.2))) = [(0, Value.ref b), (1, .ref a), (2, .ref b2), (3, .ref q60), (4, .int 0)] := by
          rw [← hb]
          rfl
        rw [e0]
        exact hl) 20 0 0 [(0, .inr (74, b))] [] [] walk_8
  rw [lg_entry_eq]
  have hlv := lv_entry (n := 7) [Value.ref b] (Nat.le_of_ble_eq_true rfl)
  have k2 := key s.heap [] _ ⟨fun k q hk => by simp at hk, ⟨fun i j p q hi => by simp at hi, fun k q hk => by simp at hk⟩, Nat.le_of_eq h2⟩ va_S.rf hlv
  rw [Nat.zero_mul, Nat.zero_mul] at k2
  exact k2
end LSt

