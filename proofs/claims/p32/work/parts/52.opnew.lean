/-! new Person, new Vow -/
theorem Lv_a {s : Sg} {a i : Nat} (ha : a < 2) : Lv s (12 + a) i = (i < s.1 a + s.1 (6 + a)) := by
  have : a = 0 ∨ a = 1 := by omega
  rcases this with rfl | rfl <;> rfl
theorem newS_Lv {s : Sg} {a : Nat} (ha : a < 2) (h6 : s.1 (6 + a) = 0) (x y : Nat) : Lv (newS s a 1) x y ↔ (Lv s x y ∨ (x = 12 + a ∧ y = s.1 a)) := by
  by_cases hx : x = 12 + a
  · subst hx
    rw [Lv_a ha, Lv_a ha, newS_1 (by omega), show (newS s a 1).1 (6 + a) = 1 from if_pos rfl, h6]
    omega
  · have e : Lv (newS s a 1) x y = Lv s x y := by
      have : a = 0 ∨ a = 1 := by omega
      rcases this with rfl | rfl
      · unfold Lv
        split <;> first | rfl | (exact (hx rfl).elim) | (exact propext (and_congr_right fun h => by rw [newS_1 (by omega)])) | (rw [newS_1 (by omega)]) | (rw [newS_1 (by omega), newS_1 (by omega)]) | (exact absurd rfl hx)
      · unfold Lv
        split <;> first | rfl | (exact (hx rfl).elim) | (exact propext (and_congr_right fun h => by rw [newS_1 (by omega)])) | (rw [newS_1 (by omega)]) | (rw [newS_1 (by omega), newS_1 (by omega)]) | (exact absurd rfl hx)
    rw [e]
    exact ⟨Or.inl, fun h => h.elim id (fun h => absurd h.1 hx)⟩
def op_newP (a nx : Nat) : Sem := fun U k _ _ u L st s => u + 1 ≤ U ∧ s.1 (6 + a) = 0 ∧ s.1 (9 + a) = 0 ∧ s.1 14 = 0 ∧ lvs s st ∧ lvK s L (fun L' => k nx (u + 1) L' (aR (12 + a) (s.1 a) :: st) (newS s a 1))
theorem ok_newP {own : String} {cc : ByteArray} {nL d U : Nat} {ret : Option FieldType} {pc nx : Nat} {C : String} {T : u_T} {n idx a : Nat} (ty : Nat → FieldType) (ha : a < 2) (hc : vwCl[4 + a]? = some (C, T, n)) (hob : ob (12 + a) = some (4 + a, n)) (hrf : ∀ k, k < n → rf (12 + a) k = none)
    (hin : ∀ w ∈ u_ws C T n, w ∈ TB) (hty : ∀ k, k < n → parseFieldDescriptor (T k).2.2.1 = some (ty k)) (hdef : ∀ j, j < n → defaultValue (ty j) = .int 0) (h1 : Cond.classLink own idx C ∈ TB) (h2 : Cond.instantiable C n ∈ TB) (h3 : Cond.initialized C ∈ TB) (hn8 : n ≤ 24)
    (hd : decode cc pc = .ok (.new idx, 3)) (hn : pc + 3 = nx) : GSnd own cc nL d U ret pc (op_newP a nx) := by
  intro g p l e R s m args below meth c w0 hC ad0 K0 N X Q hQ k hk u L st s1 h ad K hE
  subst hn
  intro H locs ls hP hS hl
  obtain ⟨hu, h6, h9, h14, hlv, hlk⟩ := h
  obtain ⟨L', hk2, hsub⟩ := lvK_ok hlk
  obtain ⟨hF, hGS, hlocks, hret, hR, hl0, htab⟩ := hC
  subst hR
  have ht : ∀ w ∈ TB, w.before args s = true := fun w hw => hF.2.2.2.2 w (List.mem_cons_of_mem _ hw)
  have hnew : ¬ Lv s1 (12 + a) (s1.1 a) := by rw [Lv_a ha, h6]; omega
  have hS9 : va_S (gA g) H H locs := ⟨Nat.le_refl _, fun _ _ _ => rfl, hS.2.2⟩
  have hfs : ∀ j, j < n → defaultValue (ty j) = vp_V ((List.range n).map (fun k => cL (adN ad (12 + a) (s1.1 a) 0) (gf (newS s1 a 1) (12 + a) (s1.1 a) k))) j := by
    intro j hj
    rw [hdef j hj]
    unfold vp_V
    rw [List.getD_eq_getElem?_getD, rng_at _ hj]
    unfold gf
    rw [hrf j hj]
    dsimp only
    rw [show (Nat.beq (12 + a) 2) = false from by
      cases hb : Nat.beq (12 + a) 2 with
      | false => rfl
      | true => have := Nat.eq_of_beq_eq_true hb; omega, Bool.false_and, cond_false, newS_0]
    rfl
  refine va_new (T := T) (N := n) (ci := 4 + a) (H0 := H) hF.1 hF.2.1 ht hin ty hty hF.2.2.2.1 (ht _ h1) (ht _ h2) (ht _ h3) hGS.1 hP.1 hP.2.1 hS9 (fun q hq => Nat.le_trans hP.2.2.2.1 hq) hc hfs ?_ ?_ hd ?_
  · show u * cU + 1 ≤ U * cU
    unfold cU; omega
  · show u * sU + n ≤ U * sU
    unfold sU; omega
  · intro q H1 hP1 hD1 hS1
    have hfe : (List.range n).map (fun k => cL (adN ad (12 + a) (s1.1 a) 0) (gf (newS s1 a 1) (12 + a) (s1.1 a) k)) = (List.range n).map (fun k => cL (adN ad (12 + a) (s1.1 a) q) (gf (newS s1 a 1) (12 + a) (s1.1 a) k)) := by
      refine List.map_congr_left fun k hk9 => ?_
      unfold gf
      rw [hrf k (List.mem_range.mp hk9)]
      dsimp only
      cases (Nat.beq (12 + a) 2 && Nat.beq k 2) <;> rfl
    rw [hfe, ← ent_ob (g := g) (ad := adN ad (12 + a) (s1.1 a) q) (s := newS s1 a 1) (i := s1.1 a) hob] at hP1 hD1
    have hGP : GP g (adN ad (12 + a) (s1.1 a) q) (K ++ [(12 + a, s1.1 a)]) (newS s1 a 1) H1 := GP_new (by omega) hP hnew (newS_Lv ha h6) rfl (fun x y hxy => newS_ent ha h6 h9 h14 hxy (fun hc => hnew (by rw [hc.1, hc.2] at hxy; exact hxy))) hP1 hD1 hS1.1
      (fun j hj hz => by
        rw [newS_1 (by omega)] at hz
        rw [adN_old (fun h => by have := h.1; omega)]
        exact hP.2.2.2.2.1 j hj hz)
    have hE1 := Ex_new (q := q) hP hnew
    have hl1 := has_mem hl (hsub hP.2.2.1 hE1 (gp_cc hP hGP))
    have hS2 : va_S (gA g) s.heap H1 locs := ⟨Nat.le_trans hS.1 hS1.1, fun z h1 h2 => (hS1.2.1 z (Nat.lt_of_lt_of_le h1 hS.1) h2).trans (hS.2.1 z h1 h2), hS1.2.2⟩
    have key := hk _ _ _ _ _ hk2 _ _ (hE.tr hE1) H1 locs ls hGP hS2 hl1
    rw [List.map_cons] at key
    rw [lvs_ok hP.2.2.1 hE1 (gp_cc hP hGP) hlv]
    refine W.widen (k := (u + 1) * cU) (n := (u + 1) * sU) ?_ ?_ ?_
    · unfold cU; omega
    · unfold sU; omega
    · have e9 : cv (adN ad (12 + a) (s1.1 a) q) (aR (12 + a) (s1.1 a)) = .ref q := by
        show Value.ref (adN ad (12 + a) (s1.1 a) q (12 + a) (s1.1 a)) = _
        rw [adN_new]
      rw [e9] at key
      exact key

