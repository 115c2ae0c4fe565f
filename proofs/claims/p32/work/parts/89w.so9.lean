/-! the law's isSo: the state's letters -/
section So9
variable {N : Nt} {X : Xt} {Z : Kt} {s : Sg} {t a b k : Nat} {fa mo : Nat → Nat} {T : Nat → Nat → Nat}
theorem pt_cl (h : Rg t fa mo T (rows s) s) {p v one oth pl lk st la : Nat} (hp : p < s.1 0) (hV : Vp s v one oth pl lk st la) : ptC s v (nI p) = nI (if one = p then oth else one) := by
  have hn := Rg_n h
  have hb := hV.1
  unfold ptC
  rw [hV.2.1.1, hV.2.1.2.1]
  by_cases c : one = p
  · rw [if_pos c, if_pos (by rw [c])]
  · rw [if_neg c, if_neg (fun w => c ((nI_eq (by omega) (by omega)).mp w).symm)]
set_option maxRecDepth 100000 in
set_option maxHeartbeats 4000000 in
theorem so_w {u p o d v : Nat} (run : Rn tab_L_isSo 450 N X Z) (h : Rg t fa mo T (rows s) s) (hp : p < s.1 0) (hv : v < s.1 1)
    (nx : ∀ w, w < 16 → ptC s v (nI p) = nI w → Z 611 u (lSb a b p o (nI d) (nI v) (nI w)) [] s) : Z 577 u (lSb a b p o (nI d) (nI v) (-1)) [] s := by
  have hn := Rg_n h
  have bv : Ib (nI v) 17 := nIb (by omega) (by decide)
  have cv : (nI v).toNatClampNeg = v := nI_clamp (by omega)
  obtain ⟨one, oth, pl, lk, st, la, hV⟩ := Rg_v h hv
  have hvr := Vp_vR hn.1 hV
  have hb := hV.1
  have ew := pt_cl h hp hV
  have e1 : irm (s.2.1 24 0 (nI v).toNatClampNeg) 16 = nI one := by rw [cv]; exact vR_one hvr
  have e2 : irm (s.2.1 24 0 (nI v).toNatClampNeg / 16) 16 = nI oth := by rw [cv]; exact vR_oth hvr
  by_cases c : one = p
  · rw [if_pos c] at ew
    have nx := nx _ (by omega) ew
    rw [← e2] at nx
    have hc : irm (s.2.1 24 0 (nI v).toNatClampNeg) 16 = nI p := by rw [e1, c]
    refine run.go [611] 60 ?_
    repeat' (first | apply And.intro | (intro q; exact absurd q (by decide)) | (intro q; exact absurd (by decide) q) | (intro q; exact absurd rfl q) | (intro q; exact absurd q hc) | (intro q; exact absurd hc q) | intro _)
    all_goals first | (exact bv) | (exact trivial) | (with_reducible exact Nat.le_refl _) | decide | (exact (rfl : (0 : Nat) = 0)) | (exact Nat.le_of_ble_eq_true rfl) | ((with_reducible show False); contradiction) | (exact nx)
  · rw [if_neg c] at ew
    have nx := nx _ (by omega) ew
    rw [← e1] at nx
    have hc : ¬ irm (s.2.1 24 0 (nI v).toNatClampNeg) 16 = nI p := by
      rw [e1]
      exact fun w => c ((nI_eq (by omega) (by omega)).mp w)
    refine run.go [611] 60 ?_
    repeat' (first | apply And.intro | (intro q; exact absurd q (by decide)) | (intro q; exact absurd (by decide) q) | (intro q; exact absurd rfl q) | (intro q; exact absurd q hc) | (intro q; exact absurd hc q) | intro _)
    all_goals first | (exact bv) | (exact trivial) | (with_reducible exact Nat.le_refl _) | decide | (exact (rfl : (0 : Nat) = 0)) | (exact Nat.le_of_ble_eq_true rfl) | ((with_reducible show False); contradiction) | (exact nx)
theorem lt_ch {v : Nat} (hv : v < 16) (h : ¬ 9 < v) : nI (48 + v) = ((48 + nI v).toUInt32 % 65536).toInt32 := by
  rw [show (48 : Int32) + nI v = nI (48 + v) from nI_add 48 v, ch_id _ (by omega)]
theorem lt_c2 {v : Nat} (hv : v < 16) : nI (48 + v % 10) = ((48 + irm (nI v) 10).toUInt32 % 65536).toInt32 := by
  rw [show irm (nI v) 10 = nI (v % 10) from irmN (d := 10) (by omega) (by decide) (by decide), show (48 : Int32) + nI (v % 10) = nI (48 + v % 10) from nI_add 48 _, ch_id _ (by omega)]
set_option maxRecDepth 100000 in
set_option maxHeartbeats 4000000 in
theorem so_t {u p o d v w : Nat} (run : Rn tab_L_isSo 450 N X Z) (h : Rg t fa mo T (rows s) s) (hu : u ≤ 314) (hp : p < s.1 0) (hd : d ≤ 1000000) (hv : v < s.1 1) (hw : w < 16) (e : lbC s (nI p) (nI d) (s.1 1) 0 = nI v) (ew : ptC s v (nI p) = nI w)
    (jf : ∀ u, u ≤ 386 → Z 746 u (lS a b ++ [(10, .inl 1)]) [] s) : Z 611 u (lSb a b p o (nI d) (nI v) (nI w)) [] s := by
  have hn := Rg_n h
  have hv16 : v < 16 := by omega
  obtain ⟨-, t1, t2, t3, t4⟩ := tx_b v hv16 w hw
  rw [← ds_b (by omega) (by omega) e ew] at t1 t2 t3 t4
  have hz : ¬ ¬ ((0 : Int32) = 0) := fun z => z rfl
  by_cases c : 9 < v
  · rw [if_pos c] at t1 t2 t3 t4
    have c1 : ¬ nI v ≤ 9 := nI_ge (b := v) c (by omega)
    obtain ⟨x1, q1, y1⟩ : ∃ x, nI ((dsL s (nI p) (nI d)).getD 9 0) = x ∧ x = ((49 : Int32).toUInt32 % 65536).toInt32 := ⟨_, rfl, by rw [t1]; decide⟩
    have s1 := st_cl (X := X) (i := 9) h hp hd 9 (by decide) rfl q1
    have s4 := st_cl (X := X) (i := 15 + 2) (c := 0) h hp hd 17 (by decide) (by decide) (by rw [t4]; rfl)
    by_cases g : 9 < w
    · rw [if_pos g] at t2 t3
      have g1 : ¬ nI w ≤ 9 := nI_ge (b := w) g (by omega)
      obtain ⟨x2, q2, y2⟩ : ∃ x, nI ((dsL s (nI p) (nI d)).getD 15 0) = x ∧ x = ((49 : Int32).toUInt32 % 65536).toInt32 := ⟨_, rfl, by rw [t2]; decide⟩
      obtain ⟨x3, q3, y3⟩ : ∃ x, nI ((dsL s (nI p) (nI d)).getD 16 0) = x ∧ x = ((48 + irm (nI w) 10).toUInt32 % 65536).toInt32 := ⟨_, rfl, by rw [t3]; exact lt_c2 hw⟩
      have s2 := st_cl (X := X) (i := 15) h hp hd 15 (by decide) rfl q2
      have s3 := st_cl (X := X) (i := 15 + 1) h hp hd 16 (by decide) (by decide) q3
      refine run.go [746] 100 ?_
      repeat' (first | apply And.intro | (intro q; exact absurd q (by decide)) | (intro q; exact absurd (by decide) q) | (intro q; exact absurd rfl q) | (intro q; exact absurd q c1) | (intro q; exact absurd c1 q) | intro _)
      all_goals first | (exact trivial) | (with_reducible exact Nat.le_refl _) | decide | (exact (rfl : (0 : Nat) = 0)) | (exact Nat.le_of_ble_eq_true rfl) | ((with_reducible show False); contradiction) | omega | skip
      refine ⟨_, s1, ?_⟩
      rintro r s0 ⟨rfl, rfl⟩
      repeat' (first | apply And.intro | (intro q; exact absurd q (by decide)) | (intro q; exact absurd (by decide) q) | (intro q; exact absurd rfl q) | (intro q; exact absurd q c1) | (intro q; exact absurd c1 q) | (intro q; exact absurd q g1) | (intro q; exact absurd g1 q) | (intro q; exact absurd q y1) | (intro q; exact absurd y1 q) | intro _)
      all_goals first | (exact trivial) | (with_reducible exact Nat.le_refl _) | decide | (exact (rfl : (0 : Nat) = 0)) | (exact Nat.le_of_ble_eq_true rfl) | ((with_reducible show False); contradiction) | omega | skip
      refine ⟨_, s2, ?_⟩
      rintro r s0 ⟨rfl, rfl⟩
      repeat' (first | apply And.intro | (intro q; exact absurd q (by decide)) | (intro q; exact absurd (by decide) q) | (intro q; exact absurd rfl q) | (intro q; exact absurd q g1) | (intro q; exact absurd g1 q) | (intro q; exact absurd q y2) | (intro q; exact absurd y2 q) | intro _)
      all_goals first | (exact trivial) | (with_reducible exact Nat.le_refl _) | decide | (exact (rfl : (0 : Nat) = 0)) | (exact Nat.le_of_ble_eq_true rfl) | ((with_reducible show False); contradiction) | omega | skip
      refine ⟨_, s3, ?_⟩
      rintro r s0 ⟨rfl, rfl⟩
      repeat' (first | apply And.intro | (intro q; exact absurd q (by decide)) | (intro q; exact absurd (by decide) q) | (intro q; exact absurd rfl q) | (intro q; exact absurd q g1) | (intro q; exact absurd g1 q) | (intro q; exact absurd q y3) | (intro q; exact absurd y3 q) | intro _)
      all_goals first | (exact trivial) | (with_reducible exact Nat.le_refl _) | decide | (exact (rfl : (0 : Nat) = 0)) | (exact Nat.le_of_ble_eq_true rfl) | ((with_reducible show False); contradiction) | omega | skip
      refine ⟨_, s4, ?_⟩
      rintro r s0 ⟨rfl, rfl⟩
      repeat' (first | apply And.intro | (intro q; exact absurd q (by decide)) | (intro q; exact absurd (by decide) q) | (intro q; exact absurd rfl q) | (intro q; exact absurd q hz) | (intro q; exact absurd hz q) | intro _)
      all_goals first | (exact trivial) | (with_reducible exact Nat.le_refl _) | decide | (exact (rfl : (0 : Nat) = 0)) | (exact Nat.le_of_ble_eq_true rfl) | ((with_reducible show False); contradiction) | omega | (exact run.take 11 (jf _ (by omega)))
    · rw [if_neg g] at t2 t3
      have g1 : nI w ≤ 9 := nI_le (b := 9) (by omega) (by decide)
      obtain ⟨x2, q2, y2⟩ : ∃ x, nI ((dsL s (nI p) (nI d)).getD 15 0) = x ∧ x = ((48 + nI w).toUInt32 % 65536).toInt32 := ⟨_, rfl, by rw [t2]; exact lt_ch hw g⟩
      obtain ⟨x3, q3, y3⟩ : ∃ x, nI ((dsL s (nI p) (nI d)).getD 16 0) = x ∧ x = ((0 : Int32).toUInt32 % 65536).toInt32 := ⟨_, rfl, by rw [t3]; decide⟩
      have s2 := st_cl (X := X) (i := 15) h hp hd 15 (by decide) rfl q2
      have s3 := st_cl (X := X) (i := 15 + 1) h hp hd 16 (by decide) (by decide) q3
      refine run.go [746] 100 ?_
      repeat' (first | apply And.intro | (intro q; exact absurd q (by decide)) | (intro q; exact absurd (by decide) q) | (intro q; exact absurd rfl q) | (intro q; exact absurd q c1) | (intro q; exact absurd c1 q) | intro _)
      all_goals first | (exact trivial) | (with_reducible exact Nat.le_refl _) | decide | (exact (rfl : (0 : Nat) = 0)) | (exact Nat.le_of_ble_eq_true rfl) | ((with_reducible show False); contradiction) | omega | skip
      refine ⟨_, s1, ?_⟩
      rintro r s0 ⟨rfl, rfl⟩
      repeat' (first | apply And.intro | (intro q; exact absurd q (by decide)) | (intro q; exact absurd (by decide) q) | (intro q; exact absurd rfl q) | (intro q; exact absurd q c1) | (intro q; exact absurd c1 q) | (intro q; exact absurd q g1) | (intro q; exact absurd g1 q) | (intro q; exact absurd q y1) | (intro q; exact absurd y1 q) | intro _)
      all_goals first | (exact trivial) | (with_reducible exact Nat.le_refl _) | decide | (exact (rfl : (0 : Nat) = 0)) | (exact Nat.le_of_ble_eq_true rfl) | ((with_reducible show False); contradiction) | omega | skip
      refine ⟨_, s2, ?_⟩
      rintro r s0 ⟨rfl, rfl⟩
      repeat' (first | apply And.intro | (intro q; exact absurd q (by decide)) | (intro q; exact absurd (by decide) q) | (intro q; exact absurd rfl q) | (intro q; exact absurd q g1) | (intro q; exact absurd g1 q) | (intro q; exact absurd q y2) | (intro q; exact absurd y2 q) | intro _)
      all_goals first | (exact trivial) | (with_reducible exact Nat.le_refl _) | decide | (exact (rfl : (0 : Nat) = 0)) | (exact Nat.le_of_ble_eq_true rfl) | ((with_reducible show False); contradiction) | omega | skip
      refine ⟨_, s3, ?_⟩
      rintro r s0 ⟨rfl, rfl⟩
      repeat' (first | apply And.intro | (intro q; exact absurd q (by decide)) | (intro q; exact absurd (by decide) q) | (intro q; exact absurd rfl q) | (intro q; exact absurd q g1) | (intro q; exact absurd g1 q) | (intro q; exact absurd q y3) | (intro q; exact absurd y3 q) | intro _)
      all_goals first | (exact trivial) | (with_reducible exact Nat.le_refl _) | decide | (exact (rfl : (0 : Nat) = 0)) | (exact Nat.le_of_ble_eq_true rfl) | ((with_reducible show False); contradiction) | omega | skip
      refine ⟨_, s4, ?_⟩
      rintro r s0 ⟨rfl, rfl⟩
      repeat' (first | apply And.intro | (intro q; exact absurd q (by decide)) | (intro q; exact absurd (by decide) q) | (intro q; exact absurd rfl q) | (intro q; exact absurd q hz) | (intro q; exact absurd hz q) | intro _)
      all_goals first | (exact trivial) | (with_reducible exact Nat.le_refl _) | decide | (exact (rfl : (0 : Nat) = 0)) | (exact Nat.le_of_ble_eq_true rfl) | ((with_reducible show False); contradiction) | omega | (exact run.take 11 (jf _ (by omega)))
  · rw [if_neg c] at t1 t2 t3 t4
    have c1 : nI v ≤ 9 := nI_le (b := 9) (by omega) (by decide)
    obtain ⟨x1, q1, y1⟩ : ∃ x, nI ((dsL s (nI p) (nI d)).getD 9 0) = x ∧ x = ((48 + nI v).toUInt32 % 65536).toInt32 := ⟨_, rfl, by rw [t1]; exact lt_ch hv16 c⟩
    have s1 := st_cl (X := X) (i := 9) h hp hd 9 (by decide) rfl q1
    have s4 := st_cl (X := X) (i := 14 + 2) (c := 0) h hp hd 16 (by decide) (by decide) (by rw [t4]; rfl)
    by_cases g : 9 < w
    · rw [if_pos g] at t2 t3
      have g1 : ¬ nI w ≤ 9 := nI_ge (b := w) g (by omega)
      obtain ⟨x2, q2, y2⟩ : ∃ x, nI ((dsL s (nI p) (nI d)).getD 14 0) = x ∧ x = ((49 : Int32).toUInt32 % 65536).toInt32 := ⟨_, rfl, by rw [t2]; decide⟩
      obtain ⟨x3, q3, y3⟩ : ∃ x, nI ((dsL s (nI p) (nI d)).getD 15 0) = x ∧ x = ((48 + irm (nI w) 10).toUInt32 % 65536).toInt32 := ⟨_, rfl, by rw [t3]; exact lt_c2 hw⟩
      have s2 := st_cl (X := X) (i := 14) h hp hd 14 (by decide) rfl q2
      have s3 := st_cl (X := X) (i := 14 + 1) h hp hd 15 (by decide) (by decide) q3
      refine run.go [746] 100 ?_
      repeat' (first | apply And.intro | (intro q; exact absurd q (by decide)) | (intro q; exact absurd (by decide) q) | (intro q; exact absurd rfl q) | (intro q; exact absurd q c1) | (intro q; exact absurd c1 q) | intro _)
      all_goals first | (exact trivial) | (with_reducible exact Nat.le_refl _) | decide | (exact (rfl : (0 : Nat) = 0)) | (exact Nat.le_of_ble_eq_true rfl) | ((with_reducible show False); contradiction) | omega | skip
      refine ⟨_, s1, ?_⟩
      rintro r s0 ⟨rfl, rfl⟩
      repeat' (first | apply And.intro | (intro q; exact absurd q (by decide)) | (intro q; exact absurd (by decide) q) | (intro q; exact absurd rfl q) | (intro q; exact absurd q c1) | (intro q; exact absurd c1 q) | (intro q; exact absurd q g1) | (intro q; exact absurd g1 q) | (intro q; exact absurd q y1) | (intro q; exact absurd y1 q) | intro _)
      all_goals first | (exact trivial) | (with_reducible exact Nat.le_refl _) | decide | (exact (rfl : (0 : Nat) = 0)) | (exact Nat.le_of_ble_eq_true rfl) | ((with_reducible show False); contradiction) | omega | skip
      refine ⟨_, s2, ?_⟩
      rintro r s0 ⟨rfl, rfl⟩
      repeat' (first | apply And.intro | (intro q; exact absurd q (by decide)) | (intro q; exact absurd (by decide) q) | (intro q; exact absurd rfl q) | (intro q; exact absurd q g1) | (intro q; exact absurd g1 q) | (intro q; exact absurd q y2) | (intro q; exact absurd y2 q) | intro _)
      all_goals first | (exact trivial) | (with_reducible exact Nat.le_refl _) | decide | (exact (rfl : (0 : Nat) = 0)) | (exact Nat.le_of_ble_eq_true rfl) | ((with_reducible show False); contradiction) | omega | skip
      refine ⟨_, s3, ?_⟩
      rintro r s0 ⟨rfl, rfl⟩
      repeat' (first | apply And.intro | (intro q; exact absurd q (by decide)) | (intro q; exact absurd (by decide) q) | (intro q; exact absurd rfl q) | (intro q; exact absurd q g1) | (intro q; exact absurd g1 q) | (intro q; exact absurd q y3) | (intro q; exact absurd y3 q) | intro _)
      all_goals first | (exact trivial) | (with_reducible exact Nat.le_refl _) | decide | (exact (rfl : (0 : Nat) = 0)) | (exact Nat.le_of_ble_eq_true rfl) | ((with_reducible show False); contradiction) | omega | skip
      refine ⟨_, s4, ?_⟩
      rintro r s0 ⟨rfl, rfl⟩
      repeat' (first | apply And.intro | (intro q; exact absurd q (by decide)) | (intro q; exact absurd (by decide) q) | (intro q; exact absurd rfl q) | (intro q; exact absurd q hz) | (intro q; exact absurd hz q) | intro _)
      all_goals first | (exact trivial) | (with_reducible exact Nat.le_refl _) | decide | (exact (rfl : (0 : Nat) = 0)) | (exact Nat.le_of_ble_eq_true rfl) | ((with_reducible show False); contradiction) | omega | (exact run.take 11 (jf _ (by omega)))
    · rw [if_neg g] at t2 t3
      have g1 : nI w ≤ 9 := nI_le (b := 9) (by omega) (by decide)
      obtain ⟨x2, q2, y2⟩ : ∃ x, nI ((dsL s (nI p) (nI d)).getD 14 0) = x ∧ x = ((48 + nI w).toUInt32 % 65536).toInt32 := ⟨_, rfl, by rw [t2]; exact lt_ch hw g⟩
      obtain ⟨x3, q3, y3⟩ : ∃ x, nI ((dsL s (nI p) (nI d)).getD 15 0) = x ∧ x = ((0 : Int32).toUInt32 % 65536).toInt32 := ⟨_, rfl, by rw [t3]; decide⟩
      have s2 := st_cl (X := X) (i := 14) h hp hd 14 (by decide) rfl q2
      have s3 := st_cl (X := X) (i := 14 + 1) h hp hd 15 (by decide) (by decide) q3
      refine run.go [746] 100 ?_
      repeat' (first | apply And.intro | (intro q; exact absurd q (by decide)) | (intro q; exact absurd (by decide) q) | (intro q; exact absurd rfl q) | (intro q; exact absurd q c1) | (intro q; exact absurd c1 q) | intro _)
      all_goals first | (exact trivial) | (with_reducible exact Nat.le_refl _) | decide | (exact (rfl : (0 : Nat) = 0)) | (exact Nat.le_of_ble_eq_true rfl) | ((with_reducible show False); contradiction) | omega | skip
      refine ⟨_, s1, ?_⟩
      rintro r s0 ⟨rfl, rfl⟩
      repeat' (first | apply And.intro | (intro q; exact absurd q (by decide)) | (intro q; exact absurd (by decide) q) | (intro q; exact absurd rfl q) | (intro q; exact absurd q c1) | (intro q; exact absurd c1 q) | (intro q; exact absurd q g1) | (intro q; exact absurd g1 q) | (intro q; exact absurd q y1) | (intro q; exact absurd y1 q) | intro _)
      all_goals first | (exact trivial) | (with_reducible exact Nat.le_refl _) | decide | (exact (rfl : (0 : Nat) = 0)) | (exact Nat.le_of_ble_eq_true rfl) | ((with_reducible show False); contradiction) | omega | skip
      refine ⟨_, s2, ?_⟩
      rintro r s0 ⟨rfl, rfl⟩
      repeat' (first | apply And.intro | (intro q; exact absurd q (by decide)) | (intro q; exact absurd (by decide) q) | (intro q; exact absurd rfl q) | (intro q; exact absurd q g1) | (intro q; exact absurd g1 q) | (intro q; exact absurd q y2) | (intro q; exact absurd y2 q) | intro _)
      all_goals first | (exact trivial) | (with_reducible exact Nat.le_refl _) | decide | (exact (rfl : (0 : Nat) = 0)) | (exact Nat.le_of_ble_eq_true rfl) | ((with_reducible show False); contradiction) | omega | skip
      refine ⟨_, s3, ?_⟩
      rintro r s0 ⟨rfl, rfl⟩
      repeat' (first | apply And.intro | (intro q; exact absurd q (by decide)) | (intro q; exact absurd (by decide) q) | (intro q; exact absurd rfl q) | (intro q; exact absurd q g1) | (intro q; exact absurd g1 q) | (intro q; exact absurd q y3) | (intro q; exact absurd y3 q) | intro _)
      all_goals first | (exact trivial) | (with_reducible exact Nat.le_refl _) | decide | (exact (rfl : (0 : Nat) = 0)) | (exact Nat.le_of_ble_eq_true rfl) | ((with_reducible show False); contradiction) | omega | skip
      refine ⟨_, s4, ?_⟩
      rintro r s0 ⟨rfl, rfl⟩
      repeat' (first | apply And.intro | (intro q; exact absurd q (by decide)) | (intro q; exact absurd (by decide) q) | (intro q; exact absurd rfl q) | (intro q; exact absurd q hz) | (intro q; exact absurd hz q) | intro _)
      all_goals first | (exact trivial) | (with_reducible exact Nat.le_refl _) | decide | (exact (rfl : (0 : Nat) = 0)) | (exact Nat.le_of_ble_eq_true rfl) | ((with_reducible show False); contradiction) | omega | (exact run.take 11 (jf _ (by omega)))
end So9
/-! the law's isSo -/
set_option maxRecDepth 20000 in
set_option maxHeartbeats 2000000 in
theorem M_L_isSo : GMet yL_isSo cL_isSo 17 (some .boolean) 13 450 sp_L_isSo := by
  refine GMet.rn (own := RL) (by decide) rfl [0, 1, 2, 3, 4, 5, 6, 7, 8, 9, 10, 11, 12, 13, 14, 15, 16] rfl tok_L_isSo ?_
  intro av s0 N X h Z run
  unfold sp_L_isSo at h
  split at h
  rotate_left
  · exact h.elim
  rename_i a' b'
  obtain ⟨t, a, b, ht, ha, hb, rfl, rfl, hR, hN⟩ := h
  obtain ⟨fa, mo, T, h⟩ := hR
  have hn := Rg_n h
  have je := fun u hu => so_end (a := a) (b := b) (u := u) run h hu hN
  refine so_head run h ha ?_
  intro u hu
  by_cases h0 : 0 < s0.1 0
  · refine so_d run h ht ha hb h0 ?_
    rintro P O D M rfl rfl ⟨d, hd, rfl⟩ rfl
    have hp : a % s0.1 0 < s0.1 0 := Nat.mod_lt _ h0
    have ho : b % s0.1 0 < s0.1 0 := Nat.mod_lt _ h0
    have jk := so_k (a := a) (b := b) (u := u) run h hu hp ho hd (fun u hu => je u (by omega)) (fun u v hu hv e => so_w run h hp hv fun w hw ew => so_t run h hu hp hd hv hw e ew fun u hu => je u (by omega))
    have key := so_bs (a := a) (b := b) (u := u) (by omega) run h jk (s0.1 1) (Nat.le_refl _)
    rw [Nat.sub_self] at key
    exact key
  · have e1 : s0.2.1 30 0 1 ≤ 0 := by
      rw [show s0.2.1 30 0 1 = nI (s0.1 0) from h.1.2.2.2.2.1.1, show s0.1 0 = 0 by omega]
      decide
    have b1 : Ib 1 4 := nIb (k := 1) (by decide) (by decide)
    have j := je u (by omega)
    refine run.go [746] 40 ?_
    repeat' (first | apply And.intro | (intro q; exact absurd q (by decide)) | (intro q; exact absurd (by decide) q) | (intro q; exact absurd rfl q) | (intro q; exact absurd q e1) | (intro q; exact absurd e1 q) | intro _)
    all_goals first | (exact b1) | (exact trivial) | (with_reducible exact Nat.le_refl _) | decide | (exact (rfl : (0 : Nat) = 0)) | (exact Nat.le_of_ble_eq_true rfl) | ((with_reducible show False); contradiction) | (exact j)

